def f_Mesh_nodes (n S SD F : Nat) (σ : jj_S) : Option (Int32 × jj_S) :=
  some (σ 1 5, σ)

def f_Grid_hasNode (n S SD F : Nat) (σ : jj_S) (a1 : Int32) : Option (Int32 × jj_S) :=
  if a1 < 0 then (some ((0 : Int32), σ)) else (if (σ 1 5) ≤ a1 then (some ((0 : Int32), σ)) else (some ((1 : Int32), σ)))

def f_Mesh_isWord (n S SD F : Nat) (σ : jj_S) (a0 : Int32) : Option (Int32 × jj_S) :=
  if a0 < 0 then (some ((0 : Int32), σ)) else (if (8 : Int32) ≤ a0 then (some ((0 : Int32), σ)) else (some ((1 : Int32), σ)))

def f_Queues_isFullq (n S SD F : Nat) (σ : jj_S) (a1 : Int32) : Option (Int32 × jj_S) :=
  jj_ck n a1 (if (σ 22 a1.toNatClampNeg) < (σ 20 1) then (some ((0 : Int32), σ)) else (some ((1 : Int32), σ)))

def f_Packets_isFull (n S SD F : Nat) (σ : jj_S) : Option (Int32 × jj_S) :=
  if (σ 10 6) < (400 : Int32) then (some ((0 : Int32), σ)) else (some ((1 : Int32), σ))

def f_Packets_add (n S SD F : Nat) (σ : jj_S) (a1 a2 a3 a4 a5 : Int32) : Option (Int32 × jj_S) :=
  jj_lt (σ 10 6) (fun v6_1 => jj_ck 400 v6_1 (jj_st (jj_up σ 11 v6_1.toNatClampNeg a1) (fun σ2 => jj_ck 400 v6_1 (jj_st (jj_up σ2 12 v6_1.toNatClampNeg a2) (fun σ3 => jj_ck 400 v6_1 (jj_st (jj_up σ3 13 v6_1.toNatClampNeg (vp_nar .boolean a3)) (fun σ4 => jj_ck 400 v6_1 (jj_st (jj_up σ4 14 v6_1.toNatClampNeg a4) (fun σ5 => jj_ck 400 v6_1 (jj_st (jj_up σ5 15 v6_1.toNatClampNeg a5) (fun σ6 => jj_st (jj_up σ6 10 6 ((σ6 10 6) + (1 : Int32))) (fun σ7 => some (v6_1, σ7)))))))))))))

def f_Queues_addq (n S SD F : Nat) (σ : jj_S) (a1 a2 : Int32) : Option jj_S :=
  jj_ck n a1 (jj_ck (n * 4) ((a1 * (σ 20 1)) + (σ 22 a1.toNatClampNeg)) (jj_st (jj_up σ 21 ((a1 * (σ 20 1)) + (σ 22 a1.toNatClampNeg)).toNatClampNeg a2) (fun σ1 => jj_ck n a1 (jj_ck n a1 (jj_st (jj_up σ1 22 a1.toNatClampNeg ((σ1 22 a1.toNatClampNeg) + (1 : Int32))) (fun σ2 => some σ2))))))

def f_Mesh_request (n S SD F : Nat) (σ : jj_S) (a1 a2 a3 a4 a5 : Int32) : Option (Int32 × jj_S) :=
  jj_b2 (f_Grid_hasNode n S SD F σ a1) (fun r2 σ1 => if r2 = 0 then (some ((-1 : Int32), σ1)) else (jj_b2 (f_Grid_hasNode n S SD F σ1 a2) (fun r4 σ3 => if r4 = 0 then (some ((-1 : Int32), σ3)) else (jj_b2 (f_Mesh_isWord n S SD F σ3 a4) (fun r6 σ5 => if r6 = 0 then (some ((-1 : Int32), σ5)) else (jj_b2 (f_Queues_isFullq n S SD F σ5 a1) (fun r8 σ7 => if r8 = 0 then (jj_b2 (f_Packets_isFull n S SD F σ7) (fun r10 σ9 => if r10 = 0 then (jj_b2 (f_Packets_add n S SD F σ9 a1 a2 a3 a4 a5) (fun r12 σ11 => jj_b1 (f_Queues_addq n S SD F σ11 a1 r12) (fun σ13 => some (r12, σ13)))) else (some ((-2 : Int32), σ9)))) else (some ((-2 : Int32), σ7)))))))))

def f_Mesh_hold (n S SD F : Nat) (σ : jj_S) (a1 a2 : Int32) : Option (Int32 × jj_S) :=
  jj_b2 (f_Grid_hasNode n S SD F σ a1) (fun r2 σ1 => if r2 = 0 then (some ((0 : Int32), σ1)) else (jj_ck n a1 (jj_st (jj_up σ1 29 a1.toNatClampNeg (vp_nar .boolean a2)) (fun σ3 => some ((1 : Int32), σ3)))))

def b_Links_arriveAll_7 (n S SD F : Nat) (K : jj_S → Int32 → Option jj_S) (rec : jj_S → Int32 → Option jj_S) (σ : jj_S) (x1 : Int32) : Option jj_S :=
  if (nI S) ≤ x1 then (K σ x1) else (jj_ck S x1 (if (σ 8 x1.toNatClampNeg) = (-1 : Int32) then (jj_ck S x1 (jj_ck S x1 (jj_ck S x1 (jj_st (jj_up σ 7 x1.toNatClampNeg ((σ 7 x1.toNatClampNeg) + (σ 9 x1.toNatClampNeg))) (fun σ2 => jj_ck S x1 (jj_st (jj_up σ2 9 x1.toNatClampNeg (0 : Int32)) (fun σ3 => rec σ3 (x1 + (1 : Int32))))))))) else (jj_ck S x1 (jj_ck S x1 (jj_nz (σ 2 0) (jj_ck S x1 (jj_ck SD ((x1 * (σ 2 0)) + (((σ 5 x1.toNatClampNeg) + (σ 6 x1.toNatClampNeg)) - ((σ 5 x1.toNatClampNeg) + (σ 6 x1.toNatClampNeg)) / (σ 2 0) * (σ 2 0))) (jj_st (jj_up σ 4 ((x1 * (σ 2 0)) + (((σ 5 x1.toNatClampNeg) + (σ 6 x1.toNatClampNeg)) - ((σ 5 x1.toNatClampNeg) + (σ 6 x1.toNatClampNeg)) / (σ 2 0) * (σ 2 0))).toNatClampNeg (σ 8 x1.toNatClampNeg)) (fun σ4 => jj_ck S x1 (jj_ck S x1 (jj_st (jj_up σ4 6 x1.toNatClampNeg ((σ4 6 x1.toNatClampNeg) + (1 : Int32))) (fun σ5 => jj_ck S x1 (jj_st (jj_up σ5 8 x1.toNatClampNeg (-1 : Int32)) (fun σ6 => jj_ck S x1 (jj_ck S x1 (jj_ck S x1 (jj_st (jj_up σ6 7 x1.toNatClampNeg ((σ6 7 x1.toNatClampNeg) + (σ6 9 x1.toNatClampNeg))) (fun σ7 => jj_ck S x1 (jj_st (jj_up σ7 9 x1.toNatClampNeg (0 : Int32)) (fun σ8 => rec σ8 (x1 + (1 : Int32))))))))))))))))))))))

def f_Links_arriveAll (n S SD F : Nat) (σ : jj_S) : Option jj_S :=
  jj_st (jj_up σ 2 8 (0 : Int32)) (fun σ1 => jj_lp1 (b_Links_arriveAll_7 n S SD F (fun σ9 x1_10 => some σ9)) F σ1 (0 : Int32))

def f_Grid_slot (n S SD F : Nat) (σ : jj_S) (a1 a2 a3 : Int32) : Option (Int32 × jj_S) :=
  some ((((a1 * (6 : Int32)) + a2) * (σ 1 4)) + a3, σ)

def f_Links_firstFlit (n S SD F : Nat) (σ : jj_S) (a1 : Int32) : Option (Int32 × jj_S) :=
  jj_ck S a1 (jj_ck SD ((a1 * (σ 2 0)) + (σ 5 a1.toNatClampNeg)) (some (σ 4 ((a1 * (σ 2 0)) + (σ 5 a1.toNatClampNeg)).toNatClampNeg, σ)))

def f_Packets_isOfReply (n S SD F : Nat) (σ : jj_S) (a0 : Int32) : Option (Int32 × jj_S) :=
  if (a0 &&& (2 : Int32)) = 0 then (some ((0 : Int32), σ)) else (some ((1 : Int32), σ))

def f_Packets_isLast (n S SD F : Nat) (σ : jj_S) (a0 : Int32) : Option (Int32 × jj_S) :=
  if (a0 &&& (1 : Int32)) = 0 then (some ((0 : Int32), σ)) else (some ((1 : Int32), σ))

def f_Queues_isFullp (n S SD F : Nat) (σ : jj_S) (a1 : Int32) : Option (Int32 × jj_S) :=
  jj_ck n a1 (if (σ 26 a1.toNatClampNeg) < (σ 24 1) then (some ((0 : Int32), σ)) else (some ((1 : Int32), σ)))

def f_Ifs_mayTake (n S SD F : Nat) (σ : jj_S) (a1 a2 : Int32) : Option (Int32 × jj_S) :=
  jj_b2 (f_Packets_isOfReply n S SD F σ a2) (fun r2 σ1 => if r2 = 0 then (jj_b2 (f_Packets_isLast n S SD F σ1 a2) (fun r4 σ3 => if r4 = 0 then (some ((1 : Int32), σ3)) else (jj_ck n a1 (if (σ3 29 a1.toNatClampNeg) = 0 then (jj_b2 (f_Queues_isFullp n S SD F σ3 a1) (fun r6 σ5 => if r6 = 0 then (some ((1 : Int32), σ5)) else (some ((0 : Int32), σ5)))) else (some ((0 : Int32), σ3)))))) else (some ((1 : Int32), σ1)))

def f_Links_takeOut (n S SD F : Nat) (σ : jj_S) (a1 : Int32) : Option (Int32 × jj_S) :=
  jj_b2 (f_Links_firstFlit n S SD F σ a1) (fun r2 σ1 => jj_ck S a1 (jj_nz (σ1 2 0) (jj_ck S a1 (jj_st (jj_up σ1 5 a1.toNatClampNeg (((σ1 5 a1.toNatClampNeg) + (1 : Int32)) - ((σ1 5 a1.toNatClampNeg) + (1 : Int32)) / (σ1 2 0) * (σ1 2 0))) (fun σ3 => jj_ck S a1 (jj_ck S a1 (jj_st (jj_up σ3 6 a1.toNatClampNeg ((σ3 6 a1.toNatClampNeg) - (1 : Int32))) (fun σ4 => jj_ck S a1 (jj_ck S (σ4 3 a1.toNatClampNeg) (jj_ck S (σ4 3 a1.toNatClampNeg) (jj_st (jj_up σ4 9 (σ4 3 a1.toNatClampNeg).toNatClampNeg ((σ4 9 (σ4 3 a1.toNatClampNeg).toNatClampNeg) + (1 : Int32))) (fun σ5 => some (r2, σ5)))))))))))))

def f_Packets_number (n S SD F : Nat) (σ : jj_S) (a0 : Int32) : Option (Int32 × jj_S) :=
  jj_nz (4 : Int32) (some (a0 / (4 : Int32), σ))

def f_Ifs_serve (n S SD F : Nat) (σ : jj_S) (a1 a2 : Int32) : Option jj_S :=
  jj_ck 400 a2 (jj_lt ((a1 * (8 : Int32)) + (σ 14 a2.toNatClampNeg)) (fun v3_1 => jj_ck (n * 8) v3_1 (jj_lt (σ 28 v3_1.toNatClampNeg) (fun v4_2 => jj_ck 400 a2 (if (σ 13 a2.toNatClampNeg) = 0 then (jj_ck 400 a2 (jj_st (jj_up σ 15 a2.toNatClampNeg v4_2) (fun σ3 => some σ3))) else (jj_ck 400 a2 (jj_ck (n * 8) v3_1 (jj_st (jj_up σ 28 v3_1.toNatClampNeg (σ 15 a2.toNatClampNeg)) (fun σ4 => jj_ck 400 a2 (jj_st (jj_up σ4 15 a2.toNatClampNeg v4_2) (fun σ5 => some σ5)))))))))))

def f_Queues_addp (n S SD F : Nat) (σ : jj_S) (a1 a2 : Int32) : Option jj_S :=
  jj_ck n a1 (jj_ck (n * 2) ((a1 * (σ 24 1)) + (σ 26 a1.toNatClampNeg)) (jj_st (jj_up σ 25 ((a1 * (σ 24 1)) + (σ 26 a1.toNatClampNeg)).toNatClampNeg a2) (fun σ1 => jj_ck n a1 (jj_ck n a1 (jj_st (jj_up σ1 26 a1.toNatClampNeg ((σ1 26 a1.toNatClampNeg) + (1 : Int32))) (fun σ2 => some σ2))))))

def f_Complete_add (n S SD F : Nat) (σ : jj_S) (a1 a2 : Int32) : Option jj_S :=
  jj_ck 400 (σ 17 2) (jj_st (jj_up σ 18 (σ 17 2).toNatClampNeg a1) (fun σ1 => jj_ck 400 (σ1 17 2) (jj_st (jj_up σ1 19 (σ1 17 2).toNatClampNeg a2) (fun σ2 => jj_st (jj_up σ2 17 2 ((σ2 17 2) + (1 : Int32))) (fun σ3 => some σ3)))))

def f_Ifs_accept (n S SD F : Nat) (σ : jj_S) (a1 a2 a3 : Int32) : Option jj_S :=
  jj_b2 (f_Packets_isLast n S SD F σ a2) (fun r2 σ1 => if r2 = 0 then (some σ1) else (jj_b2 (f_Packets_number n S SD F σ1 a2) (fun r4 σ3 => jj_b2 (f_Packets_isOfReply n S SD F σ3 a2) (fun r6 σ5 => if r6 = 0 then (jj_b1 (f_Ifs_serve n S SD F σ5 a1 r4) (fun σ7 => jj_b1 (f_Queues_addp n S SD F σ7 a1 r4) (fun σ8 => some σ8))) else (jj_b1 (f_Complete_add n S SD F σ5 r4 a3) (fun σ9 => some σ9))))))

def b_Ifs_takeAll_15 (n S SD F : Nat) (K : jj_S → Int32 → Int32 → Int32 → Option jj_S) (rec : jj_S → Int32 → Int32 → Int32 → Option jj_S) (σ : jj_S) (x1 x2 x3 : Int32) : Option jj_S :=
  if (σ 1 4) ≤ x3 then (K σ x1 x2 x3) else (jj_b2 (f_Grid_slot n S SD F σ x2 (5 : Int32) x3) (fun r2 σ1 => jj_ck S r2 (if (σ1 6 r2.toNatClampNeg) ≤ 0 then (rec σ1 x1 x2 (x3 + (1 : Int32))) else (jj_b2 (f_Links_firstFlit n S SD F σ1 r2) (fun r4 σ3 => jj_b2 (f_Ifs_mayTake n S SD F σ3 x2 r4) (fun r6 σ5 => if r6 = 0 then (rec σ5 x1 x2 (x3 + (1 : Int32))) else (jj_b2 (f_Links_takeOut n S SD F σ5 r2) (fun r8 σ7 => jj_b1 (f_Ifs_accept n S SD F σ7 x2 r8 x1) (fun σ9 => rec σ9 x1 x2 (x3 + (1 : Int32)))))))))))

def b_Ifs_takeAll_2 (n S SD F : Nat) (K : jj_S → Int32 → Int32 → Option jj_S) (rec : jj_S → Int32 → Int32 → Option jj_S) (σ : jj_S) (x1 x2 : Int32) : Option jj_S :=
  if (σ 1 5) ≤ x2 then (K σ x1 x2) else (jj_lp3 (b_Ifs_takeAll_15 n S SD F (fun σ10 x1_11 x2_12 x3_13 => rec σ10 x1_11 (x2_12 + (1 : Int32)))) F σ x1 x2 (0 : Int32))

def f_Ifs_takeAll (n S SD F : Nat) (σ : jj_S) (a1 : Int32) : Option jj_S :=
  jj_lp2 (b_Ifs_takeAll_2 n S SD F (fun σ14 x1_15 x2_16 => some σ14)) F σ a1 (0 : Int32)

def f_Queues_firstNumberp (n S SD F : Nat) (σ : jj_S) (a1 : Int32) : Option (Int32 × jj_S) :=
  jj_ck (n * 2) (a1 * (σ 24 1)) (some (σ 25 (a1 * (σ 24 1)).toNatClampNeg, σ))

def f_Packets_channel (n S SD F : Nat) (σ : jj_S) (a1 a2 : Int32) : Option (Int32 × jj_S) :=
  jj_ck 400 a1 (jj_ck 400 a1 (jj_nz (σ 1 3) (jj_lt (((σ 11 a1.toNatClampNeg) + (σ 12 a1.toNatClampNeg)) - ((σ 11 a1.toNatClampNeg) + (σ 12 a1.toNatClampNeg)) / (σ 1 3) * (σ 1 3)) (fun v3_1 => if a2 = 0 then (some (v3_1, σ)) else (some (v3_1 + (σ 1 3), σ))))))

def f_Packets_length (n S SD F : Nat) (σ : jj_S) (a1 a2 : Int32) : Option (Int32 × jj_S) :=
  jj_ck 400 a1 (if (σ 13 a1.toNatClampNeg) = 0 then (some ((2 : Int32), σ)) else (if a2 = 0 then (some ((3 : Int32), σ)) else (some ((1 : Int32), σ))))

def f_Packets_flit (n S SD F : Nat) (σ : jj_S) (a0 a1 a2 : Int32) : Option (Int32 × jj_S) :=
  if a1 = 0 then (if a2 = 0 then (some ((((4 : Int32) * a0) + (0 : Int32)) + (0 : Int32), σ)) else (some ((((4 : Int32) * a0) + (0 : Int32)) + (1 : Int32), σ))) else (if a2 = 0 then (some ((((4 : Int32) * a0) + (2 : Int32)) + (0 : Int32), σ)) else (some ((((4 : Int32) * a0) + (2 : Int32)) + (1 : Int32), σ)))

def f_Links_send (n S SD F : Nat) (σ : jj_S) (a1 a2 : Int32) : Option jj_S :=
  jj_ck S a1 (jj_ck S a1 (jj_st (jj_up σ 7 a1.toNatClampNeg ((σ 7 a1.toNatClampNeg) - (1 : Int32))) (fun σ1 => jj_ck S a1 (jj_ck S (σ1 3 a1.toNatClampNeg) (jj_st (jj_up σ1 8 (σ1 3 a1.toNatClampNeg).toNatClampNeg a2) (fun σ2 => jj_st (jj_up σ2 2 8 ((σ2 2 8) + (1 : Int32))) (fun σ3 => some σ3)))))))

def b_Queues_removeFirstp_9 (n S SD F : Nat) (K : jj_S → Int32 → Int32 → Int32 → Option jj_S) (rec : jj_S → Int32 → Int32 → Int32 → Option jj_S) (σ : jj_S) (x1 x2 x3 : Int32) : Option jj_S :=
  jj_ck n x1 (if (σ 26 x1.toNatClampNeg) ≤ x3 then (K σ x1 x2 x3) else (jj_ck (n * 2) (x2 + x3) (jj_ck (n * 2) ((x2 + x3) - (1 : Int32)) (jj_st (jj_up σ 25 ((x2 + x3) - (1 : Int32)).toNatClampNeg (σ 25 (x2 + x3).toNatClampNeg)) (fun σ2 => rec σ2 x1 x2 (x3 + (1 : Int32)))))))

def f_Queues_removeFirstp (n S SD F : Nat) (σ : jj_S) (a1 : Int32) : Option jj_S :=
  jj_lt (a1 * (σ 24 1)) (fun v2_1 => jj_lp3 (b_Queues_removeFirstp_9 n S SD F (fun σ3 x1_4 x2_5 x3_6 => jj_ck n x1_4 (jj_ck n x1_4 (jj_st (jj_up σ3 26 x1_4.toNatClampNeg ((σ3 26 x1_4.toNatClampNeg) - (1 : Int32))) (fun σ7 => jj_ck n x1_4 (jj_st (jj_up σ7 27 x1_4.toNatClampNeg (0 : Int32)) (fun σ8 => some σ8))))))) F σ a1 v2_1 (1 : Int32))

def f_Ifs_sendFirstp (n S SD F : Nat) (σ : jj_S) (a1 : Int32) : Option (Int32 × jj_S) :=
  jj_ck n a1 (if (σ 26 a1.toNatClampNeg) = 0 then (some ((0 : Int32), σ)) else (jj_b2 (f_Queues_firstNumberp n S SD F σ a1) (fun r2 σ1 => jj_b2 (f_Packets_channel n S SD F σ1 r2 (σ1 24 0)) (fun r4 σ3 => jj_b2 (f_Grid_slot n S SD F σ3 a1 (5 : Int32) r4) (fun r6 σ5 => jj_ck S r6 (if (σ5 7 r6.toNatClampNeg) = 0 then (some ((0 : Int32), σ5)) else (jj_ck n a1 (jj_ck n a1 (jj_st (jj_up σ5 27 a1.toNatClampNeg ((σ5 27 a1.toNatClampNeg) + (1 : Int32))) (fun σ7 => jj_ck n a1 (jj_b2 (f_Packets_length n S SD F σ7 r2 (σ7 24 0)) (fun r9 σ8 => if (σ7 27 a1.toNatClampNeg) = r9 then (jj_b2 (f_Packets_flit n S SD F σ8 r2 (σ8 24 0) (1 : Int32)) (fun r14 σ13 => jj_b1 (f_Links_send n S SD F σ13 r6 r14) (fun σ15 => jj_b1 (f_Queues_removeFirstp n S SD F σ15 a1) (fun σ16 => some ((1 : Int32), σ16))))) else (jj_b2 (f_Packets_flit n S SD F σ8 r2 (σ8 24 0) (0 : Int32)) (fun r11 σ10 => jj_b1 (f_Links_send n S SD F σ10 r6 r11) (fun σ12 => some ((1 : Int32), σ12))))))))))))))))

def f_Queues_firstNumberq (n S SD F : Nat) (σ : jj_S) (a1 : Int32) : Option (Int32 × jj_S) :=
  jj_ck (n * 4) (a1 * (σ 20 1)) (some (σ 21 (a1 * (σ 20 1)).toNatClampNeg, σ))

def b_Queues_removeFirstq_9 (n S SD F : Nat) (K : jj_S → Int32 → Int32 → Int32 → Option jj_S) (rec : jj_S → Int32 → Int32 → Int32 → Option jj_S) (σ : jj_S) (x1 x2 x3 : Int32) : Option jj_S :=
  jj_ck n x1 (if (σ 22 x1.toNatClampNeg) ≤ x3 then (K σ x1 x2 x3) else (jj_ck (n * 4) (x2 + x3) (jj_ck (n * 4) ((x2 + x3) - (1 : Int32)) (jj_st (jj_up σ 21 ((x2 + x3) - (1 : Int32)).toNatClampNeg (σ 21 (x2 + x3).toNatClampNeg)) (fun σ2 => rec σ2 x1 x2 (x3 + (1 : Int32)))))))

def f_Queues_removeFirstq (n S SD F : Nat) (σ : jj_S) (a1 : Int32) : Option jj_S :=
  jj_lt (a1 * (σ 20 1)) (fun v2_1 => jj_lp3 (b_Queues_removeFirstq_9 n S SD F (fun σ3 x1_4 x2_5 x3_6 => jj_ck n x1_4 (jj_ck n x1_4 (jj_st (jj_up σ3 22 x1_4.toNatClampNeg ((σ3 22 x1_4.toNatClampNeg) - (1 : Int32))) (fun σ7 => jj_ck n x1_4 (jj_st (jj_up σ7 23 x1_4.toNatClampNeg (0 : Int32)) (fun σ8 => some σ8))))))) F σ a1 v2_1 (1 : Int32))

def f_Ifs_sendFirstq (n S SD F : Nat) (σ : jj_S) (a1 : Int32) : Option (Int32 × jj_S) :=
  jj_ck n a1 (if (σ 22 a1.toNatClampNeg) = 0 then (some ((0 : Int32), σ)) else (jj_b2 (f_Queues_firstNumberq n S SD F σ a1) (fun r2 σ1 => jj_b2 (f_Packets_channel n S SD F σ1 r2 (σ1 20 0)) (fun r4 σ3 => jj_b2 (f_Grid_slot n S SD F σ3 a1 (5 : Int32) r4) (fun r6 σ5 => jj_ck S r6 (if (σ5 7 r6.toNatClampNeg) = 0 then (some ((0 : Int32), σ5)) else (jj_ck n a1 (jj_ck n a1 (jj_st (jj_up σ5 23 a1.toNatClampNeg ((σ5 23 a1.toNatClampNeg) + (1 : Int32))) (fun σ7 => jj_ck n a1 (jj_b2 (f_Packets_length n S SD F σ7 r2 (σ7 20 0)) (fun r9 σ8 => if (σ7 23 a1.toNatClampNeg) = r9 then (jj_b2 (f_Packets_flit n S SD F σ8 r2 (σ8 20 0) (1 : Int32)) (fun r14 σ13 => jj_b1 (f_Links_send n S SD F σ13 r6 r14) (fun σ15 => jj_b1 (f_Queues_removeFirstq n S SD F σ15 a1) (fun σ16 => some ((1 : Int32), σ16))))) else (jj_b2 (f_Packets_flit n S SD F σ8 r2 (σ8 20 0) (0 : Int32)) (fun r11 σ10 => jj_b1 (f_Links_send n S SD F σ10 r6 r11) (fun σ12 => some ((1 : Int32), σ12))))))))))))))))

def b_Ifs_sendAll_2 (n S SD F : Nat) (K : jj_S → Int32 → Option jj_S) (rec : jj_S → Int32 → Option jj_S) (σ : jj_S) (x1 : Int32) : Option jj_S :=
  if (σ 1 5) ≤ x1 then (K σ x1) else (jj_b2 (f_Ifs_sendFirstp n S SD F σ x1) (fun r2 σ1 => if r2 = 0 then (jj_b2 (f_Ifs_sendFirstq n S SD F σ1 x1) (fun r4 σ3 => rec σ3 (x1 + (1 : Int32)))) else (rec σ1 (x1 + (1 : Int32)))))

def f_Ifs_sendAll (n S SD F : Nat) (σ : jj_S) : Option jj_S :=
  jj_lp1 (b_Ifs_sendAll_2 n S SD F (fun σ5 x1_6 => some σ5)) F σ (0 : Int32)

def f_Routers_isReady (n S SD F : Nat) (σ : jj_S) (a1 a2 a3 : Int32) : Option (Int32 × jj_S) :=
  jj_b2 (f_Grid_slot n S SD F σ a1 a2 a3) (fun r2 σ1 => jj_ck S r2 (if (σ1 6 r2.toNatClampNeg) ≤ 0 then (some ((0 : Int32), σ1)) else (jj_ck S r2 (if (σ1 32 r2.toNatClampNeg) = (2 : Int32) then (jj_ck S r2 (jj_b2 (f_Grid_slot n S SD F σ1 a1 (σ1 33 r2.toNatClampNeg) a3) (fun r4 σ3 => jj_ck S r4 (if (σ3 7 r4.toNatClampNeg) ≤ 0 then (some ((0 : Int32), σ3)) else (some ((1 : Int32), σ3)))))) else (some ((0 : Int32), σ1))))))

def b_Routers_readyChannel_14 (n S SD F : Nat) (K : jj_S → Int32 → Int32 → Int32 → Int32 → Option (Int32 × jj_S)) (rec : jj_S → Int32 → Int32 → Int32 → Int32 → Option (Int32 × jj_S)) (σ : jj_S) (x1 x2 x3 x4 : Int32) : Option (Int32 × jj_S) :=
  if (σ 1 4) ≤ x4 then (K σ x1 x2 x3 x4) else (jj_nz (σ 1 4) (jj_lt ((x3 + x4) - (x3 + x4) / (σ 1 4) * (σ 1 4)) (fun v5_2 => jj_b2 (f_Routers_isReady n S SD F σ x1 x2 v5_2) (fun r4 σ3 => if r4 = 0 then (rec σ3 x1 x2 x3 (x4 + (1 : Int32))) else (some (v5_2, σ3))))))

def f_Routers_readyChannel (n S SD F : Nat) (σ : jj_S) (a1 a2 : Int32) : Option (Int32 × jj_S) :=
  jj_ck (n * 5) ((a1 * (5 : Int32)) + a2) (jj_lt (σ 36 ((a1 * (5 : Int32)) + a2).toNatClampNeg) (fun v3_1 => jj_lp4 (b_Routers_readyChannel_14 n S SD F (fun σ5 x1_6 x2_7 x3_8 x4_9 => some ((-1 : Int32), σ5))) F σ a1 a2 v3_1 (0 : Int32)))

def b_Routers_chosenPort_14 (n S SD F : Nat) (K : jj_S → Int32 → Int32 → Int32 → Int32 → Option (Int32 × jj_S)) (rec : jj_S → Int32 → Int32 → Int32 → Int32 → Option (Int32 × jj_S)) (σ : jj_S) (x1 x2 x3 x4 : Int32) : Option (Int32 × jj_S) :=
  if (5 : Int32) ≤ x4 then (K σ x1 x2 x3 x4) else (jj_nz (5 : Int32) (jj_lt ((x3 + x4) - (x3 + x4) / (5 : Int32) * (5 : Int32)) (fun v5_2 => jj_ck 5 v5_2 (if (σ 31 v5_2.toNatClampNeg) = (-1 : Int32) then (rec σ x1 x2 x3 (x4 + (1 : Int32))) else (jj_ck 5 v5_2 (jj_b2 (f_Grid_slot n S SD F σ x1 v5_2 (σ 31 v5_2.toNatClampNeg)) (fun r4 σ3 => jj_ck S r4 (if (σ3 33 r4.toNatClampNeg) = x2 then (some (v5_2, σ3)) else (rec σ3 x1 x2 x3 (x4 + (1 : Int32)))))))))))

def f_Routers_chosenPort (n S SD F : Nat) (σ : jj_S) (a1 a2 : Int32) : Option (Int32 × jj_S) :=
  jj_ck (n * 5) ((a1 * (5 : Int32)) + a2) (jj_lt (σ 37 ((a1 * (5 : Int32)) + a2).toNatClampNeg) (fun v3_1 => jj_lp4 (b_Routers_chosenPort_14 n S SD F (fun σ5 x1_6 x2_7 x3_8 x4_9 => some ((-1 : Int32), σ5))) F σ a1 a2 v3_1 (0 : Int32)))

def f_Routers_move (n S SD F : Nat) (σ : jj_S) (a1 a2 a3 : Int32) : Option jj_S :=
  jj_ck 5 a2 (jj_lt (σ 31 a2.toNatClampNeg) (fun v4_1 => jj_b2 (f_Grid_slot n S SD F σ a1 a2 v4_1) (fun r3 σ2 => jj_b2 (f_Grid_slot n S SD F σ2 a1 a3 v4_1) (fun r5 σ4 => jj_b2 (f_Links_takeOut n S SD F σ4 r3) (fun r7 σ6 => jj_b1 (f_Links_send n S SD F σ6 r5 r7) (fun σ8 => jj_nz (5 : Int32) (jj_ck (n * 5) ((a1 * (5 : Int32)) + a3) (jj_st (jj_up σ8 37 ((a1 * (5 : Int32)) + a3).toNatClampNeg ((a2 + (1 : Int32)) - (a2 + (1 : Int32)) / (5 : Int32) * (5 : Int32))) (fun σ9 => jj_nz (σ9 1 4) (jj_ck (n * 5) ((a1 * (5 : Int32)) + a2) (jj_st (jj_up σ9 36 ((a1 * (5 : Int32)) + a2).toNatClampNeg ((v4_1 + (1 : Int32)) - (v4_1 + (1 : Int32)) / (σ9 1 4) * (σ9 1 4))) (fun σ10 => jj_b2 (f_Packets_isLast n S SD F σ10 r7) (fun r12 σ11 => if r12 = 0 then (some σ11) else (jj_ck S r5 (jj_st (jj_up σ11 34 r5.toNatClampNeg (vp_nar .boolean (0 : Int32))) (fun σ13 => jj_ck S r3 (jj_st (jj_up σ13 32 r3.toNatClampNeg (0 : Int32)) (fun σ14 => some σ14))))))))))))))))))

def b_Routers_moveAll_15 (n S SD F : Nat) (K : jj_S → Int32 → Int32 → Option jj_S) (rec : jj_S → Int32 → Int32 → Option jj_S) (σ : jj_S) (x1 x2 : Int32) : Option jj_S :=
  if (5 : Int32) ≤ x2 then (K σ x1 x2) else (jj_b2 (f_Routers_readyChannel n S SD F σ x1 x2) (fun r2 σ1 => jj_ck 5 x2 (jj_st (jj_up σ1 31 x2.toNatClampNeg r2) (fun σ3 => rec σ3 x1 (x2 + (1 : Int32))))))

def b_Routers_moveAll_40 (n S SD F : Nat) (K : jj_S → Int32 → Int32 → Option jj_S) (rec : jj_S → Int32 → Int32 → Option jj_S) (σ : jj_S) (x1 x2 : Int32) : Option jj_S :=
  if (5 : Int32) ≤ x2 then (K σ x1 x2) else (jj_b2 (f_Routers_chosenPort n S SD F σ x1 x2) (fun r8 σ7 => if r8 = (-1 : Int32) then (rec σ7 x1 (x2 + (1 : Int32))) else (jj_b1 (f_Routers_move n S SD F σ7 x1 r8 x2) (fun σ9 => rec σ9 x1 (x2 + (1 : Int32))))))

def b_Routers_moveAll_2 (n S SD F : Nat) (K : jj_S → Int32 → Option jj_S) (rec : jj_S → Int32 → Option jj_S) (σ : jj_S) (x1 : Int32) : Option jj_S :=
  if (σ 1 5) ≤ x1 then (K σ x1) else (jj_lp2 (b_Routers_moveAll_15 n S SD F (fun σ4 x1_5 x2_6 => jj_lp2 (b_Routers_moveAll_40 n S SD F (fun σ10 x1_11 x2_12 => rec σ10 (x1_11 + (1 : Int32)))) F σ4 x1_5 (0 : Int32))) F σ x1 (0 : Int32))

def f_Routers_moveAll (n S SD F : Nat) (σ : jj_S) : Option jj_S :=
  jj_lp1 (b_Routers_moveAll_2 n S SD F (fun σ13 x1_14 => some σ13)) F σ (0 : Int32)

def b_Routers_grantIfFree_35 (n S SD F : Nat) (K : jj_S → Int32 → Int32 → Int32 → Int32 → Int32 → Int32 → Option jj_S) (rec : jj_S → Int32 → Int32 → Int32 → Int32 → Int32 → Int32 → Option jj_S) (σ : jj_S) (x1 x2 x3 x4 x5 x6 : Int32) : Option jj_S :=
  if (5 : Int32) ≤ x6 then (K σ x1 x2 x3 x4 x5 x6) else (jj_nz (5 : Int32) (jj_lt ((x5 + x6) - (x5 + x6) / (5 : Int32) * (5 : Int32)) (fun v7_4 => jj_b2 (f_Grid_slot n S SD F σ x1 v7_4 x3) (fun r6 σ5 => jj_ck S r6 (if (σ5 32 r6.toNatClampNeg) = (1 : Int32) then (jj_ck S r6 (if (σ5 33 r6.toNatClampNeg) = x2 then (jj_ck S x4 (jj_st (jj_up σ5 34 x4.toNatClampNeg (vp_nar .boolean (1 : Int32))) (fun σ7 => jj_ck S r6 (jj_st (jj_up σ7 32 r6.toNatClampNeg (2 : Int32)) (fun σ8 => jj_nz (5 : Int32) (jj_ck S x4 (jj_st (jj_up σ8 35 x4.toNatClampNeg ((v7_4 + (1 : Int32)) - (v7_4 + (1 : Int32)) / (5 : Int32) * (5 : Int32))) (fun σ9 => some σ9)))))))) else (rec σ5 x1 x2 x3 x4 x5 (x6 + (1 : Int32))))) else (rec σ5 x1 x2 x3 x4 x5 (x6 + (1 : Int32))))))))

def f_Routers_grantIfFree (n S SD F : Nat) (σ : jj_S) (a1 a2 a3 : Int32) : Option jj_S :=
  jj_b2 (f_Grid_slot n S SD F σ a1 a2 a3) (fun r2 σ1 => jj_ck S r2 (if (σ1 34 r2.toNatClampNeg) = 0 then (jj_ck S r2 (jj_lt (σ1 35 r2.toNatClampNeg) (fun v5_3 => jj_lp6 (b_Routers_grantIfFree_35 n S SD F (fun σ10 x1_11 x2_12 x3_13 x4_14 x5_15 x6_16 => some σ10)) F σ1 a1 a2 a3 r2 v5_3 (0 : Int32)))) else (some σ1)))

def b_Routers_grantAll_22 (n S SD F : Nat) (K : jj_S → Int32 → Int32 → Int32 → Option jj_S) (rec : jj_S → Int32 → Int32 → Int32 → Option jj_S) (σ : jj_S) (x1 x2 x3 : Int32) : Option jj_S :=
  if (σ 1 4) ≤ x3 then (K σ x1 x2 x3) else (jj_b2 (f_Grid_slot n S SD F σ x1 x2 x3) (fun r2 σ1 => jj_ck S r2 (if (σ1 32 r2.toNatClampNeg) = (1 : Int32) then (jj_ck S r2 (jj_b1 (f_Routers_grantIfFree n S SD F σ1 x1 (σ1 33 r2.toNatClampNeg) x3) (fun σ3 => rec σ3 x1 x2 (x3 + (1 : Int32))))) else (rec σ1 x1 x2 (x3 + (1 : Int32))))))

def b_Routers_grantAll_15 (n S SD F : Nat) (K : jj_S → Int32 → Int32 → Option jj_S) (rec : jj_S → Int32 → Int32 → Option jj_S) (σ : jj_S) (x1 x2 : Int32) : Option jj_S :=
  if (5 : Int32) ≤ x2 then (K σ x1 x2) else (jj_lp3 (b_Routers_grantAll_22 n S SD F (fun σ4 x1_5 x2_6 x3_7 => rec σ4 x1_5 (x2_6 + (1 : Int32)))) F σ x1 x2 (0 : Int32))

def b_Routers_grantAll_2 (n S SD F : Nat) (K : jj_S → Int32 → Option jj_S) (rec : jj_S → Int32 → Option jj_S) (σ : jj_S) (x1 : Int32) : Option jj_S :=
  if (σ 1 5) ≤ x1 then (K σ x1) else (jj_lp2 (b_Routers_grantAll_15 n S SD F (fun σ8 x1_9 x2_10 => rec σ8 (x1_9 + (1 : Int32)))) F σ x1 (0 : Int32))

def f_Routers_grantAll (n S SD F : Nat) (σ : jj_S) : Option jj_S :=
  jj_lp1 (b_Routers_grantAll_2 n S SD F (fun σ11 x1_12 => some σ11)) F σ (0 : Int32)

def f_Packets_goal (n S SD F : Nat) (σ : jj_S) (a1 : Int32) : Option (Int32 × jj_S) :=
  jj_b2 (f_Packets_isOfReply n S SD F σ a1) (fun r2 σ1 => if r2 = 0 then (jj_b2 (f_Packets_number n S SD F σ1 a1) (fun r4 σ3 => jj_ck 400 r4 (some (σ3 12 r4.toNatClampNeg, σ3)))) else (jj_b2 (f_Packets_number n S SD F σ1 a1) (fun r6 σ5 => jj_ck 400 r6 (some (σ5 11 r6.toNatClampNeg, σ5)))))

def f_Grid_column (n S SD F : Nat) (σ : jj_S) (a1 : Int32) : Option (Int32 × jj_S) :=
  jj_nz (σ 1 0) (some (a1 - a1 / (σ 1 0) * (σ 1 0), σ))

def f_Grid_row (n S SD F : Nat) (σ : jj_S) (a1 : Int32) : Option (Int32 × jj_S) :=
  jj_nz (σ 1 0) (some (a1 / (σ 1 0), σ))

def f_Routers_wayTo (n S SD F : Nat) (σ : jj_S) (a1 a2 : Int32) : Option (Int32 × jj_S) :=
  jj_b2 (f_Grid_column n S SD F σ a2) (fun r2 σ1 => jj_b2 (f_Grid_column n S SD F σ1 a1) (fun r4 σ3 => jj_lt (r2 - r4) (fun v3_5 => if v3_5 = 0 then (jj_b2 (f_Grid_row n S SD F σ3 a2) (fun r7 σ6 => jj_b2 (f_Grid_row n S SD F σ6 a1) (fun r9 σ8 => jj_lt (r7 - r9) (fun v4_10 => if v4_10 = 0 then (some ((0 : Int32), σ8)) else (if v4_10 ≤ 0 then (some ((4 : Int32), σ8)) else (some ((3 : Int32), σ8))))))) else (if v3_5 ≤ 0 then (some ((2 : Int32), σ3)) else (some ((1 : Int32), σ3))))))

def b_Routers_routeAll_22 (n S SD F : Nat) (K : jj_S → Int32 → Int32 → Int32 → Option jj_S) (rec : jj_S → Int32 → Int32 → Int32 → Option jj_S) (σ : jj_S) (x1 x2 x3 : Int32) : Option jj_S :=
  if (σ 1 4) ≤ x3 then (K σ x1 x2 x3) else (jj_b2 (f_Grid_slot n S SD F σ x1 x2 x3) (fun r2 σ1 => jj_ck S r2 (if (σ1 32 r2.toNatClampNeg) = 0 then (jj_ck S r2 (if (σ1 6 r2.toNatClampNeg) ≤ 0 then (rec σ1 x1 x2 (x3 + (1 : Int32))) else (jj_b2 (f_Links_firstFlit n S SD F σ1 r2) (fun r4 σ3 => jj_b2 (f_Packets_goal n S SD F σ3 r4) (fun r6 σ5 => jj_b2 (f_Routers_wayTo n S SD F σ5 x1 r6) (fun r8 σ7 => jj_ck S r2 (jj_st (jj_up σ7 33 r2.toNatClampNeg r8) (fun σ9 => jj_ck S r2 (jj_st (jj_up σ9 32 r2.toNatClampNeg (1 : Int32)) (fun σ10 => rec σ10 x1 x2 (x3 + (1 : Int32)))))))))))) else (rec σ1 x1 x2 (x3 + (1 : Int32))))))

def b_Routers_routeAll_15 (n S SD F : Nat) (K : jj_S → Int32 → Int32 → Option jj_S) (rec : jj_S → Int32 → Int32 → Option jj_S) (σ : jj_S) (x1 x2 : Int32) : Option jj_S :=
  if (5 : Int32) ≤ x2 then (K σ x1 x2) else (jj_lp3 (b_Routers_routeAll_22 n S SD F (fun σ11 x1_12 x2_13 x3_14 => rec σ11 x1_12 (x2_13 + (1 : Int32)))) F σ x1 x2 (0 : Int32))

def b_Routers_routeAll_2 (n S SD F : Nat) (K : jj_S → Int32 → Option jj_S) (rec : jj_S → Int32 → Option jj_S) (σ : jj_S) (x1 : Int32) : Option jj_S :=
  if (σ 1 5) ≤ x1 then (K σ x1) else (jj_lp2 (b_Routers_routeAll_15 n S SD F (fun σ15 x1_16 x2_17 => rec σ15 (x1_16 + (1 : Int32)))) F σ x1 (0 : Int32))

def f_Routers_routeAll (n S SD F : Nat) (σ : jj_S) : Option jj_S :=
  jj_lp1 (b_Routers_routeAll_2 n S SD F (fun σ18 x1_19 => some σ18)) F σ (0 : Int32)

def f_Mesh_tick (n S SD F : Nat) (σ : jj_S) : Option jj_S :=
  jj_st (jj_up σ 0 5 ((σ 0 5) + (1 : Int32))) (fun σ1 => jj_b1 (f_Links_arriveAll n S SD F σ1) (fun σ2 => jj_b1 (f_Ifs_takeAll n S SD F σ2 (σ2 0 5)) (fun σ3 => jj_b1 (f_Ifs_sendAll n S SD F σ3) (fun σ4 => jj_b1 (f_Routers_moveAll n S SD F σ4) (fun σ5 => jj_b1 (f_Routers_grantAll n S SD F σ5) (fun σ6 => jj_b1 (f_Routers_routeAll n S SD F σ6) (fun σ7 => some σ7)))))))

def b_Mesh_run_25 (n S SD F : Nat) (K : jj_S → Int32 → Int32 → Int32 → Option (Int32 × jj_S)) (rec : jj_S → Int32 → Int32 → Int32 → Option (Int32 × jj_S)) (σ : jj_S) (x1 x2 x3 : Int32) : Option (Int32 × jj_S) :=
  if x1 ≤ x3 then (K σ x1 x2 x3) else (jj_b1 (f_Mesh_tick n S SD F σ) (fun σ2 => rec σ2 x1 x2 (x3 + (1 : Int32))))

def f_Mesh_run (n S SD F : Nat) (σ : jj_S) (a1 : Int32) : Option (Int32 × jj_S) :=
  if a1 < 0 then (some ((-1 : Int32), σ)) else (if a1 ≤ (60 : Int32) then (jj_lt (σ 17 2) (fun v2_1 => jj_lp3 (b_Mesh_run_25 n S SD F (fun σ3 x1_4 x2_5 x3_6 => some ((σ3 17 2) - x2_5, σ3))) F σ a1 v2_1 (0 : Int32))) else (some ((-1 : Int32), σ)))

def f_Mesh_ticks (n S SD F : Nat) (σ : jj_S) : Option (Int32 × jj_S) :=
  some (σ 0 5, σ)

def f_Mesh_replies (n S SD F : Nat) (σ : jj_S) : Option (Int32 × jj_S) :=
  some (σ 17 2, σ)

def f_Mesh_reply (n S SD F : Nat) (σ : jj_S) (a1 a2 : Int32) : Option (Int32 × jj_S) :=
  if a1 < 0 then (some ((-1 : Int32), σ)) else (if a1 < (σ 17 2) then (if a2 = (0 : Int32) then (jj_ck 400 a1 (some (σ 18 a1.toNatClampNeg, σ))) else (if a2 = (1 : Int32) then (jj_ck 400 a1 (jj_ck 400 (σ 18 a1.toNatClampNeg) (some (σ 15 (σ 18 a1.toNatClampNeg).toNatClampNeg, σ)))) else (if a2 = (2 : Int32) then (jj_ck 400 a1 (some (σ 19 a1.toNatClampNeg, σ))) else (some ((-1 : Int32), σ))))) else (some ((-1 : Int32), σ)))

def f_Mesh_memory (n S SD F : Nat) (σ : jj_S) (a1 a2 : Int32) : Option (Int32 × jj_S) :=
  jj_b2 (f_Grid_hasNode n S SD F σ a1) (fun r2 σ1 => if r2 = 0 then (some ((0 : Int32), σ1)) else (jj_b2 (f_Mesh_isWord n S SD F σ1 a2) (fun r4 σ3 => if r4 = 0 then (some ((0 : Int32), σ3)) else (jj_ck (n * 8) ((a1 * (8 : Int32)) + a2) (some (σ3 28 ((a1 * (8 : Int32)) + a2).toNatClampNeg, σ3))))))

def f_Mesh_waiting (n S SD F : Nat) (σ : jj_S) (a1 : Int32) : Option (Int32 × jj_S) :=
  jj_b2 (f_Grid_hasNode n S SD F σ a1) (fun r2 σ1 => if r2 = 0 then (some ((-1 : Int32), σ1)) else (jj_ck n a1 (jj_ck n a1 (some ((σ1 22 a1.toNatClampNeg) + ((8 : Int32) * (σ1 26 a1.toNatClampNeg)), σ1)))))

def f_Grid_hasChannel (n S SD F : Nat) (σ : jj_S) (a1 : Int32) : Option (Int32 × jj_S) :=
  if a1 < 0 then (some ((0 : Int32), σ)) else (if (σ 1 4) ≤ a1 then (some ((0 : Int32), σ)) else (some ((1 : Int32), σ)))

def f_Mesh_isRouterPlace (n S SD F : Nat) (σ : jj_S) (a1 a2 a3 : Int32) : Option (Int32 × jj_S) :=
  jj_b2 (f_Grid_hasNode n S SD F σ a1) (fun r2 σ1 => if r2 = 0 then (some ((0 : Int32), σ1)) else (if a2 < 0 then (some ((0 : Int32), σ1)) else (if (5 : Int32) ≤ a2 then (some ((0 : Int32), σ1)) else (jj_b2 (f_Grid_hasChannel n S SD F σ1 a3) (fun r4 σ3 => if r4 = 0 then (some ((0 : Int32), σ3)) else (some ((1 : Int32), σ3)))))))

def f_Mesh_lane (n S SD F : Nat) (σ : jj_S) (a1 a2 a3 : Int32) : Option (Int32 × jj_S) :=
  jj_b2 (f_Mesh_isRouterPlace n S SD F σ a1 a2 a3) (fun r2 σ1 => if r2 = 0 then (some ((-1 : Int32), σ1)) else (jj_b2 (f_Grid_slot n S SD F σ1 a1 a2 a3) (fun r4 σ3 => jj_ck S r4 (jj_lt (σ3 32 r4.toNatClampNeg) (fun v5_5 => if v5_5 = 0 then (jj_ck S r4 (some (((σ3 6 r4.toNatClampNeg) + ((8 : Int32) * v5_5)) + ((64 : Int32) * (0 : Int32)), σ3))) else (jj_ck S r4 (jj_lt (σ3 33 r4.toNatClampNeg) (fun v6_6 => jj_ck S r4 (some (((σ3 6 r4.toNatClampNeg) + ((8 : Int32) * v5_5)) + ((64 : Int32) * v6_6), σ3))))))))))

def f_Mesh_output (n S SD F : Nat) (σ : jj_S) (a1 a2 a3 : Int32) : Option (Int32 × jj_S) :=
  jj_b2 (f_Mesh_isRouterPlace n S SD F σ a1 a2 a3) (fun r2 σ1 => if r2 = 0 then (some ((-1 : Int32), σ1)) else (jj_b2 (f_Grid_slot n S SD F σ1 a1 a2 a3) (fun r4 σ3 => jj_ck S r4 (jj_ck S r4 (if (σ3 34 r4.toNatClampNeg) = 0 then (some ((σ3 7 r4.toNatClampNeg) + (0 : Int32), σ3)) else (some ((σ3 7 r4.toNatClampNeg) + (8 : Int32), σ3)))))))

def f_Mesh_arrival (n S SD F : Nat) (σ : jj_S) (a1 a2 : Int32) : Option (Int32 × jj_S) :=
  jj_b2 (f_Grid_hasNode n S SD F σ a1) (fun r2 σ1 => if r2 = 0 then (some ((-1 : Int32), σ1)) else (jj_b2 (f_Grid_hasChannel n S SD F σ1 a2) (fun r4 σ3 => if r4 = 0 then (some ((-1 : Int32), σ3)) else (jj_b2 (f_Grid_slot n S SD F σ3 a1 (5 : Int32) a2) (fun r6 σ5 => jj_ck S r6 (jj_ck S r6 (some ((σ5 6 r6.toNatClampNeg) + ((8 : Int32) * (σ5 7 r6.toNatClampNeg)), σ5))))))))

def f_Mesh_sent (n S SD F : Nat) (σ : jj_S) : Option (Int32 × jj_S) :=
  some (σ 2 8, σ)
