def f_iaGrid_within ( F : Nat) (σ : jj_S) (a0 a1 : Int32) : Option (Int32 × jj_S) :=
  some (if (1 : Int32) < (if a0 < a1 then a0 else a1) then (if a0 < a1 then a0 else a1) else (1 : Int32), σ)

def f_ibGrid_slot (n S SD F : Nat) (σ : jj_S) (a1 a2 a3 : Int32) : Option (Int32 × jj_S) :=
  some ((((a1 * (6 : Int32)) + a2) * (σ 1 4)) + a3, σ)

def f_ibGrid_column (n S SD F : Nat) (σ : jj_S) (a1 : Int32) : Option (Int32 × jj_S) :=
  jj_nz (σ 1 0) (some (a1 - a1 / (σ 1 0) * (σ 1 0), σ))

def f_ibGrid_row (n S SD F : Nat) (σ : jj_S) (a1 : Int32) : Option (Int32 × jj_S) :=
  jj_nz (σ 1 0) (some (a1 / (σ 1 0), σ))

def f_ibGrid_neighbour (n S SD F : Nat) (σ : jj_S) (a1 a2 : Int32) : Option (Int32 × jj_S) :=
  if a2 = (1 : Int32) then (jj_b2 (f_ibGrid_column n S SD F σ a1) (fun r2 σ1 => if (σ1 1 0) ≤ (r2 + (1 : Int32)) then (some ((-1 : Int32), σ1)) else (some (a1 + (1 : Int32), σ1)))) else (if a2 = (2 : Int32) then (jj_b2 (f_ibGrid_column n S SD F σ a1) (fun r4 σ3 => if r4 ≤ 0 then (some ((-1 : Int32), σ3)) else (some (a1 - (1 : Int32), σ3)))) else (if a2 = (3 : Int32) then (jj_b2 (f_ibGrid_row n S SD F σ a1) (fun r6 σ5 => if (σ5 1 1) ≤ (r6 + (1 : Int32)) then (some ((-1 : Int32), σ5)) else (some (a1 + (σ5 1 0), σ5)))) else (if a2 = (4 : Int32) then (jj_b2 (f_ibGrid_row n S SD F σ a1) (fun r8 σ7 => if r8 ≤ 0 then (some ((-1 : Int32), σ7)) else (some (a1 - (σ7 1 0), σ7)))) else (some (a1, σ)))))

def f_ibGrid_opposite (n S SD F : Nat) (σ : jj_S) (a0 : Int32) : Option (Int32 × jj_S) :=
  if a0 = (0 : Int32) then (some ((5 : Int32), σ)) else (if a0 = (1 : Int32) then (some ((2 : Int32), σ)) else (if a0 = (2 : Int32) then (some ((1 : Int32), σ)) else (if a0 = (3 : Int32) then (some ((4 : Int32), σ)) else (if a0 = (4 : Int32) then (some ((3 : Int32), σ)) else (some ((0 : Int32), σ))))))

def f_ibGrid_farSlot (n S SD F : Nat) (σ : jj_S) (a1 a2 a3 : Int32) : Option (Int32 × jj_S) :=
  jj_b2 (f_ibGrid_neighbour n S SD F σ a1 a2) (fun r2 σ1 => if r2 = (-1 : Int32) then (jj_b2 (f_ibGrid_slot n S SD F σ1 a1 a2 a3) (fun r8 σ7 => some (r8, σ7))) else (jj_b2 (f_ibGrid_opposite n S SD F σ1 a2) (fun r4 σ3 => jj_b2 (f_ibGrid_slot n S SD F σ3 r2 r4 a3) (fun r6 σ5 => some (r6, σ5)))))

def f_Grid_init (n S SD F : Nat) (σ : jj_S) (a1 a2 a3 a4 : Int32) : Option jj_S :=
  jj_b2 (f_iaGrid_within F σ a1 (3 : Int32)) (fun r1 σ2 => jj_st (jj_up σ2 1 0 r1) (fun σ3 => jj_b2 (f_iaGrid_within F σ3 a2 (3 : Int32)) (fun r4 σ5 => jj_st (jj_up σ5 1 1 r4) (fun σ6 => jj_b2 (f_iaGrid_within F σ6 a3 (4 : Int32)) (fun r7 σ8 => jj_st (jj_up σ8 1 2 r7) (fun σ9 => jj_b2 (f_iaGrid_within F σ9 a4 (2 : Int32)) (fun r10 σ11 => jj_st (jj_up σ11 1 3 r10) (fun σ12 => jj_st (jj_up σ12 1 4 ((2 : Int32) * (σ12 1 3))) (fun σ13 => jj_st (jj_up σ13 1 5 ((σ13 1 0) * (σ13 1 1))) (fun σ14 => jj_st (jj_up σ14 1 6 (((σ14 1 5) * (6 : Int32)) * (σ14 1 4))) (fun σ15 => some σ15)))))))))))

def b_Links_init_108 (n S SD F : Nat) (K : jj_S → Int32 → Int32 → Int32 → Option jj_S) (rec : jj_S → Int32 → Int32 → Int32 → Option jj_S) (σ : jj_S) (x2 x3 x4 : Int32) : Option jj_S :=
  if (σ 1 4) ≤ x4 then (K σ x2 x3 x4) else (jj_b2 (f_ibGrid_slot n S SD F σ x2 x3 x4) (fun r9 σ10 => jj_b2 (f_ibGrid_farSlot n S SD F σ10 x2 x3 x4) (fun r11 σ12 => jj_ck S r9 (jj_st (jj_up σ12 3 r9.toNatClampNeg r11) (fun σ13 => jj_ck S r9 (jj_st (jj_up σ13 7 r9.toNatClampNeg (σ13 2 0)) (fun σ14 => jj_ck S r9 (jj_st (jj_up σ14 8 r9.toNatClampNeg (-1 : Int32)) (fun σ15 => rec σ15 x2 x3 (x4 + (1 : Int32)))))))))))

def b_Links_init_99 (n S SD F : Nat) (K : jj_S → Int32 → Int32 → Option jj_S) (rec : jj_S → Int32 → Int32 → Option jj_S) (σ : jj_S) (x2 x3 : Int32) : Option jj_S :=
  if (6 : Int32) ≤ x3 then (K σ x2 x3) else (jj_lp3 (b_Links_init_108 n S SD F (fun σ16 x2_17 x3_18 x4_19 => rec σ16 x2_17 (x3_18 + (1 : Int32)))) F σ x2 x3 (0 : Int32))

def b_Links_init_89 (n S SD F : Nat) (K : jj_S → Int32 → Option jj_S) (rec : jj_S → Int32 → Option jj_S) (σ : jj_S) (x2 : Int32) : Option jj_S :=
  if (σ 1 5) ≤ x2 then (K σ x2) else (jj_lp2 (b_Links_init_99 n S SD F (fun σ20 x2_21 x3_22 => rec σ20 (x2_21 + (1 : Int32)))) F σ x2 (0 : Int32))

def f_Links_init (n S SD F : Nat) (σ : jj_S) : Option jj_S :=
  jj_st (jj_up σ 2 0 (σ 1 2)) (fun σ1 => jj_na S (σ1 1 6) (jj_st (jj_nw σ1 3) (fun σ2 => jj_na SD ((σ2 1 6) * (σ2 2 0)) (jj_st (jj_nw σ2 4) (fun σ3 => jj_na S (σ3 1 6) (jj_st (jj_nw σ3 5) (fun σ4 => jj_na S (σ4 1 6) (jj_st (jj_nw σ4 6) (fun σ5 => jj_na S (σ5 1 6) (jj_st (jj_nw σ5 7) (fun σ6 => jj_na S (σ6 1 6) (jj_st (jj_nw σ6 8) (fun σ7 => jj_na S (σ7 1 6) (jj_st (jj_nw σ7 9) (fun σ8 => jj_lp1 (b_Links_init_89 n S SD F (fun σ23 x2_24 => some σ23)) F σ8 (0 : Int32))))))))))))))))

def f_Packets_init (n S SD F : Nat) (σ : jj_S) : Option jj_S :=
  jj_na 400 (400 : Int32) (jj_st (jj_nw σ 11) (fun σ1 => jj_na 400 (400 : Int32) (jj_st (jj_nw σ1 12) (fun σ2 => jj_na 400 (400 : Int32) (jj_st (jj_nw σ2 13) (fun σ3 => jj_na 400 (400 : Int32) (jj_st (jj_nw σ3 14) (fun σ4 => jj_na 400 (400 : Int32) (jj_st (jj_nw σ4 15) (fun σ5 => some σ5))))))))))

def f_Complete_init (n S SD F : Nat) (σ : jj_S) : Option jj_S :=
  jj_na 400 (400 : Int32) (jj_st (jj_nw σ 18) (fun σ1 => jj_na 400 (400 : Int32) (jj_st (jj_nw σ1 19) (fun σ2 => some σ2))))

def f_Queues_init (n S SD F : Nat) (σ : jj_S) (a1 a2 a3 : Int32) : Option jj_S :=
  jj_bz a3 (jj_st (jj_up σ 20 0 a3) (fun σ1 => jj_st (jj_up σ1 20 1 a2) (fun σ2 => jj_na (n * 4) (a1 * a2) (jj_st (jj_nw σ2 21) (fun σ3 => jj_na n a1 (jj_st (jj_nw σ3 22) (fun σ4 => jj_na n a1 (jj_st (jj_nw σ4 23) (fun σ5 => some σ5)))))))))

def f_Queues_init2 (n S SD F : Nat) (σ : jj_S) (a1 a2 a3 : Int32) : Option jj_S :=
  jj_bz a3 (jj_st (jj_up σ 24 0 a3) (fun σ1 => jj_st (jj_up σ1 24 1 a2) (fun σ2 => jj_na (n * 2) (a1 * a2) (jj_st (jj_nw σ2 25) (fun σ3 => jj_na n a1 (jj_st (jj_nw σ3 26) (fun σ4 => jj_na n a1 (jj_st (jj_nw σ4 27) (fun σ5 => some σ5)))))))))

def f_Ifs_init (n S SD F : Nat) (σ : jj_S) : Option jj_S :=
  jj_st (jj_nw σ 17) (fun σ1 => jj_b1 (f_Complete_init n S SD F σ1) (fun σ2 => jj_st (jj_nw σ2 20) (fun σ3 => jj_b1 (f_Queues_init n S SD F σ3 (σ3 1 5) (4 : Int32) (0 : Int32)) (fun σ4 => jj_st (jj_nw σ4 24) (fun σ5 => jj_b1 (f_Queues_init2 n S SD F σ5 (σ5 1 5) (2 : Int32) (1 : Int32)) (fun σ6 => jj_na (n * 8) ((σ6 1 5) * (8 : Int32)) (jj_st (jj_nw σ6 28) (fun σ7 => jj_na n (σ7 1 5) (jj_st (jj_nw σ7 29) (fun σ8 => some σ8))))))))))

def f_Routers_init (n S SD F : Nat) (σ : jj_S) : Option jj_S :=
  jj_na 5 (5 : Int32) (jj_st (jj_nw σ 31) (fun σ1 => jj_na S (σ1 1 6) (jj_st (jj_nw σ1 32) (fun σ2 => jj_na S (σ2 1 6) (jj_st (jj_nw σ2 33) (fun σ3 => jj_na S (σ3 1 6) (jj_st (jj_nw σ3 34) (fun σ4 => jj_na S (σ4 1 6) (jj_st (jj_nw σ4 35) (fun σ5 => jj_na (n * 5) ((σ5 1 5) * (5 : Int32)) (jj_st (jj_nw σ5 36) (fun σ6 => jj_na (n * 5) ((σ6 1 5) * (5 : Int32)) (jj_st (jj_nw σ6 37) (fun σ7 => some σ7))))))))))))))

def f_Mesh_init (n S SD F : Nat) (σ : jj_S) (a1 a2 a3 a4 : Int32) : Option jj_S :=
  jj_st (jj_nw σ 1) (fun σ1 => jj_b1 (f_Grid_init n S SD F σ1 a1 a2 a3 a4) (fun σ2 => jj_st (jj_nw σ2 2) (fun σ3 => jj_b1 (f_Links_init n S SD F σ3) (fun σ4 => jj_st (jj_nw σ4 10) (fun σ5 => jj_b1 (f_Packets_init n S SD F σ5) (fun σ6 => jj_st (jj_nw σ6 16) (fun σ7 => jj_b1 (f_Ifs_init n S SD F σ7) (fun σ8 => jj_st (jj_nw σ8 30) (fun σ9 => jj_b1 (f_Routers_init n S SD F σ9) (fun σ10 => some σ10))))))))))

def b_rRef_init_352 (F : Nat) (K : jj_S → Int32 → Int32 → Int32 → Int32 → Int32 → Option jj_S) (rec : jj_S → Int32 → Int32 → Int32 → Int32 → Int32 → Option jj_S) (σ : jj_S) (x1 x2 x3 x4 x5 : Int32) : Option jj_S :=
  if (216 : Int32) ≤ x5 then (K σ x1 x2 x3 x4 x5) else (jj_ck 216 x5 (jj_st (jj_up σ 19 x5.toNatClampNeg (-1 : Int32)) (fun σ38 => jj_ck 216 x5 (jj_st (jj_up σ38 20 x5.toNatClampNeg (σ38 0 2)) (fun σ39 => rec σ39 x1 x2 x3 x4 (x5 + (1 : Int32)))))))

def f_rRef_init (F : Nat) (σ : jj_S) (a1 a2 a3 a4 : Int32) : Option jj_S :=
  jj_na 400 (400 : Int32) (jj_st (jj_nw σ 1) (fun σ1 => jj_na 400 (400 : Int32) (jj_st (jj_nw σ1 2) (fun σ2 => jj_na 400 (400 : Int32) (jj_st (jj_nw σ2 3) (fun σ3 => jj_na 400 (400 : Int32) (jj_st (jj_nw σ3 4) (fun σ4 => jj_na 400 (400 : Int32) (jj_st (jj_nw σ4 5) (fun σ5 => jj_na 400 (400 : Int32) (jj_st (jj_nw σ5 6) (fun σ6 => jj_na 400 (400 : Int32) (jj_st (jj_nw σ6 7) (fun σ7 => jj_na 400 (400 : Int32) (jj_st (jj_nw σ7 8) (fun σ8 => jj_na 72 (72 : Int32) (jj_st (jj_nw σ8 9) (fun σ9 => jj_na 9 (9 : Int32) (jj_st (jj_nw σ9 10) (fun σ10 => jj_na 9 (9 : Int32) (jj_st (jj_nw σ10 11) (fun σ11 => jj_na 36 (36 : Int32) (jj_st (jj_nw σ11 12) (fun σ12 => jj_na 9 (9 : Int32) (jj_st (jj_nw σ12 13) (fun σ13 => jj_na 9 (9 : Int32) (jj_st (jj_nw σ13 14) (fun σ14 => jj_na 18 (18 : Int32) (jj_st (jj_nw σ14 15) (fun σ15 => jj_na 9 (9 : Int32) (jj_st (jj_nw σ15 16) (fun σ16 => jj_na 216 (216 : Int32) (jj_st (jj_nw σ16 17) (fun σ17 => jj_na 864 (864 : Int32) (jj_st (jj_nw σ17 18) (fun σ18 => jj_na 216 (216 : Int32) (jj_st (jj_nw σ18 19) (fun σ19 => jj_na 216 (216 : Int32) (jj_st (jj_nw σ19 20) (fun σ20 => jj_na 216 (216 : Int32) (jj_st (jj_nw σ20 21) (fun σ21 => jj_na 180 (180 : Int32) (jj_st (jj_nw σ21 22) (fun σ22 => jj_na 180 (180 : Int32) (jj_st (jj_nw σ22 23) (fun σ23 => jj_na 180 (180 : Int32) (jj_st (jj_nw σ23 24) (fun σ24 => jj_na 180 (180 : Int32) (jj_st (jj_nw σ24 25) (fun σ25 => jj_na 45 (45 : Int32) (jj_st (jj_nw σ25 26) (fun σ26 => jj_na 45 (45 : Int32) (jj_st (jj_nw σ26 27) (fun σ27 => jj_na 5 (5 : Int32) (jj_st (jj_nw σ27 28) (fun σ28 => jj_jn (fun K49 => if (1 : Int32) ≤ a1 then (if a1 ≤ (3 : Int32) then (K49 a1) else (K49 (3 : Int32))) else (K49 (1 : Int32))) (fun w29 => jj_st (jj_up σ28 0 0 w29) (fun σ30 => jj_jn (fun K48 => if (1 : Int32) ≤ a2 then (if a2 ≤ (3 : Int32) then (K48 a2) else (K48 (3 : Int32))) else (K48 (1 : Int32))) (fun w31 => jj_st (jj_up σ30 0 1 w31) (fun σ32 => jj_jn (fun K47 => if (1 : Int32) ≤ a3 then (if a3 ≤ (4 : Int32) then (K47 a3) else (K47 (4 : Int32))) else (K47 (1 : Int32))) (fun w33 => jj_st (jj_up σ32 0 2 w33) (fun σ34 => jj_jn (fun K46 => if (1 : Int32) ≤ a4 then (if a4 ≤ (2 : Int32) then (K46 a4) else (K46 (2 : Int32))) else (K46 (1 : Int32))) (fun w35 => jj_st (jj_up σ34 0 3 w35) (fun σ36 => jj_st (jj_up σ36 0 4 ((2 : Int32) * (σ36 0 3))) (fun σ37 => jj_lp5 (b_rRef_init_352 F (fun σ40 x1_41 x2_42 x3_43 x4_44 x5_45 => some σ40)) F σ37 a1 a2 a3 a4 (0 : Int32))))))))))))))))))))))))))))))))))))))))))))))))))))))))))))))))))
