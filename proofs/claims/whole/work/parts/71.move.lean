/-! MOVING: choosing a port, and the move -/
def qq_mb (F : Nat) (σ : jj_S) (x1 x2 v5_2 v6_3 v7_4 : Int32) : Option jj_S :=
  (jj_b2 (f_rRef_take  F σ v7_4) (fun r6 σ5 => jj_b2 (f_rRef_beyond  F σ5 x1 x2 v6_3) (fun r8 σ7 => jj_b1 (f_rRef_send  F σ7 r8 r6) (fun σ9 => jj_nz (5 : Int32) (jj_ck 45 (((5 : Int32) * x1) + x2) (jj_st (jj_up σ9 27 (((5 : Int32) * x1) + x2).toNatClampNeg ((v5_2 + (1 : Int32)) - (v5_2 + (1 : Int32)) / (5 : Int32) * (5 : Int32))) (fun σ10 => jj_nz (σ10 0 4) (jj_ck 45 (((5 : Int32) * x1) + v5_2) (jj_st (jj_up σ10 26 (((5 : Int32) * x1) + v5_2).toNatClampNeg ((v6_3 + (1 : Int32)) - (v6_3 + (1 : Int32)) / (σ10 0 4) * (σ10 0 4))) (fun σ11 => jj_b2 (f_rRef_isLast  F σ11 r6) (fun r13 σ12 => if r13 = 0 then (some σ12) else (jj_ck 180 (((4 : Int32) * (((5 : Int32) * x1) + x2)) + v6_3) (jj_st (jj_up σ12 24 (((4 : Int32) * (((5 : Int32) * x1) + x2)) + v6_3).toNatClampNeg (vp_nar .boolean (0 : Int32))) (fun σ14 => jj_ck 180 v7_4 (jj_st (jj_up σ14 22 v7_4.toNatClampNeg (0 : Int32)) (fun σ15 => some σ15))))))))))))))))
theorem pr_mtPos {F n o t j ch : Nat} {τ : jj_S} {K rec : jj_S → Int32 → Int32 → Int32 → Int32 → Option jj_S} (hj : j < 5) (ht : t < 5) (hn : n < 9) (hch : ch < 4) (h28 : τ 28 ((t + j) % 5) = nI ch) (h23 : τ 23 (4 * (5 * n + (t + j) % 5) + ch) = nI o) :
    b_rRef_moveTo_14 F K rec τ (nI n) (nI o) (nI t) (nI j) = qq_mb F τ (nI n) (nI o) (nI ((t + j) % 5)) (nI ch) (nI (4 * (5 * n + (t + j) % 5) + ch)) := by
  have hnj : ¬ (5 ≤ j) := by omega
  simp (disch := omega) only [b_rRef_moveTo_14, qq_mb, pp_5, pp_4, pp_le, hnj, if_false, pp_nzE, nI_add, pk_mul, pp_rem, pp_lt, pp_ckE, pp_cl, h28, pp_0, pp_neg, h23, if_true]
theorem pr_mtNeg {F n o t j : Nat} {τ : jj_S} {K rec : jj_S → Int32 → Int32 → Int32 → Int32 → Option jj_S} (hj : j < 5) (ht : t < 5) (hn : n < 9) (h : τ 28 ((t + j) % 5) = qq_m ∨ ∃ ch, ch < 4 ∧ τ 28 ((t + j) % 5) = nI ch ∧ ¬ τ 23 (4 * (5 * n + (t + j) % 5) + ch) = nI o) :
    b_rRef_moveTo_14 F K rec τ (nI n) (nI o) (nI t) (nI j) = rec τ (nI n) (nI o) (nI t) (nI (j + 1)) := by
  have hnj : ¬ (5 ≤ j) := by omega
  rcases h with h28 | ⟨ch, hch, h28, h23⟩
  · simp (disch := omega) only [b_rRef_moveTo_14, pp_5, pp_4, pp_le, hnj, if_false, pp_nzE, nI_add, pk_mul, pp_rem, pp_lt, pp_ckE, pp_cl, h28, pp_0, pp_mlt, if_true, pp_1]
  · simp (disch := omega) only [b_rRef_moveTo_14, pp_5, pp_4, pp_le, hnj, if_false, pp_nzE, nI_add, pk_mul, pp_rem, pp_lt, pp_ckE, pp_cl, h28, pp_0, pp_neg, h23, pp_1]
theorem pc_cpPos {N S SD F n o t j ch C : Nat} {σ : jj_S} {K rec : jj_S → Int32 → Int32 → Int32 → Int32 → Option (Int32 × jj_S)} (hj : j < 5) (ht : t < 5) (hS : S ≤ 1000) (hch : ch < 4) (hp : qq_s C n ((t + j) % 5) ch < S) (e4 : σ 1 4 = nI C) (h31 : σ 31 ((t + j) % 5) = nI ch) (h33 : σ 33 (qq_s C n ((t + j) % 5) ch) = nI o) :
    b_Routers_chosenPort_14 N S SD F K rec σ (nI n) (nI o) (nI t) (nI j) = some (nI ((t + j) % 5), σ) := by
  have SL := fun a b c => pc_slot (n := N) (S := S) (SD := SD) (F := F) (σ := σ) (C := C) (a := a) (b := b) (c := c) e4
  have hnj : ¬ (5 ≤ j) := by omega
  simp (disch := omega) only [b_Routers_chosenPort_14, pp_5, pp_le, hnj, if_false, pp_nzE, nI_add, pp_rem, pp_lt, pp_ckE, pp_cl, h31, pp_1, pp_n1, pp_m1, SL, pp_b2, h33, if_true]
theorem pc_cpNeg {N S SD F n o t j C : Nat} {σ : jj_S} {K rec : jj_S → Int32 → Int32 → Int32 → Int32 → Option (Int32 × jj_S)} (hj : j < 5) (ht : t < 5) (hS : S ≤ 1000) (e4 : σ 1 4 = nI C) (h : σ 31 ((t + j) % 5) = qq_m ∨ ∃ ch, ch < 4 ∧ qq_s C n ((t + j) % 5) ch < S ∧ σ 31 ((t + j) % 5) = nI ch ∧ ¬ σ 33 (qq_s C n ((t + j) % 5) ch) = nI o) :
    b_Routers_chosenPort_14 N S SD F K rec σ (nI n) (nI o) (nI t) (nI j) = rec σ (nI n) (nI o) (nI t) (nI (j + 1)) := by
  have SL := fun a b c => pc_slot (n := N) (S := S) (SD := SD) (F := F) (σ := σ) (C := C) (a := a) (b := b) (c := c) e4
  have hnj : ¬ (5 ≤ j) := by omega
  rcases h with h31 | ⟨ch, hch, hp, h31, h33⟩
  · simp (disch := omega) only [b_Routers_chosenPort_14, pp_5, pp_le, hnj, if_false, pp_nzE, nI_add, pp_rem, pp_lt, pp_ckE, pp_cl, h31, pp_1, pp_n1, if_true]
  · simp (disch := omega) only [b_Routers_chosenPort_14, pp_5, pp_le, hnj, if_false, pp_nzE, nI_add, pp_rem, pp_lt, pp_ckE, pp_cl, h31, pp_1, pp_n1, pp_m1, SL, pp_b2, h33]
/-- the named channels, with what is left to move -/
def qq_J (w h v : Nat) (σ τ : jj_S) (n o : Nat) : Prop := ∀ p, p < 5 → σ 31 p = τ 28 p ∧ (τ 28 p = qq_m ∨ ∃ ch wy, ch < 2 * v ∧ wy < 5 ∧ τ 28 p = nI ch ∧ τ 23 (qq_l n p ch) = nI wy ∧ (o ≤ wy → qq_o w h n wy = true ∧ τ 17 (qq_l n p ch) ≠ nI 0 ∧ τ 20 (qq_l (qq_f w h n wy).1 (qq_f w h n wy).2 ch) ≠ nI 0))
set_option maxHeartbeats 1000000 in
theorem qq_choose {w h d v made cpl F n o : Nat} {σ τ : jj_S} (hF : 300 ≤ F) (hD : qq_D w h d v) (hR : qq_Rel w h d v made cpl σ τ) (hn : n < w * h) (ho : o < 5) (hJ : qq_J w h v σ τ n o) :
    (f_Routers_chosenPort (w * h) (w * h * 6 * (2 * v)) (w * h * 6 * (2 * v) * d) F σ (nI n) (nI o) = some (qq_m, σ) ∧ f_rRef_moveTo F τ (nI n) (nI o) = some τ) ∨
    ∃ p ch, p < 5 ∧ ch < 2 * v ∧ τ 28 p = nI ch ∧ τ 23 (qq_l n p ch) = nI o ∧ f_Routers_chosenPort (w * h) (w * h * 6 * (2 * v)) (w * h * 6 * (2 * v) * d) F σ (nI n) (nI o) = some (nI p, σ) ∧ f_rRef_moveTo F τ (nI n) (nI o) = qq_mb F τ (nI n) (nI o) (nI p) (nI ch) (nI (4 * (5 * n + p) + ch)) := by
  have h9 := qq_n9 hD
  have hS := qq_S216 hD
  have h2v : 2 * v ≤ 4 := by have := hD.2.2.2.2; omega
  have e4 := hR.1.1.2.2.2.2.1
  obtain ⟨a, t, t1, t2, -, -, t5, t6⟩ := hR.2.2.2.2.2.2.1.2 n o hn ho
  have key : ∀ k j, j ≤ 5 → 5 < j + k → (jj_lp4 (b_Routers_chosenPort_14 (w * h) (w * h * 6 * (2 * v)) (w * h * 6 * (2 * v) * d) F (fun σ5 x1_6 x2_7 x3_8 x4_9 => some ((-1 : Int32), σ5))) k σ (nI n) (nI o) (nI t) (nI j) = some (qq_m, σ) ∧ jj_lp4 (b_rRef_moveTo_14 F (fun σ16 x1_17 x2_18 x3_19 x4_20 => some σ16)) k τ (nI n) (nI o) (nI t) (nI j) = some τ) ∨
      ∃ p ch, p < 5 ∧ ch < 2 * v ∧ τ 28 p = nI ch ∧ τ 23 (qq_l n p ch) = nI o ∧ jj_lp4 (b_Routers_chosenPort_14 (w * h) (w * h * 6 * (2 * v)) (w * h * 6 * (2 * v) * d) F (fun σ5 x1_6 x2_7 x3_8 x4_9 => some ((-1 : Int32), σ5))) k σ (nI n) (nI o) (nI t) (nI j) = some (nI p, σ) ∧ jj_lp4 (b_rRef_moveTo_14 F (fun σ16 x1_17 x2_18 x3_19 x4_20 => some σ16)) k τ (nI n) (nI o) (nI t) (nI j) = qq_mb F τ (nI n) (nI o) (nI p) (nI ch) (nI (4 * (5 * n + p) + ch)) := by
    intro k
    induction k with
    | zero => intro j a1 a2; omega
    | succ k ih =>
      intro j a1 a2
      have u1 : jj_lp4 (b_Routers_chosenPort_14 (w * h) (w * h * 6 * (2 * v)) (w * h * 6 * (2 * v) * d) F (fun σ5 x1_6 x2_7 x3_8 x4_9 => some ((-1 : Int32), σ5))) (k + 1) σ (nI n) (nI o) (nI t) (nI j) = b_Routers_chosenPort_14 (w * h) (w * h * 6 * (2 * v)) (w * h * 6 * (2 * v) * d) F (fun σ5 x1_6 x2_7 x3_8 x4_9 => some ((-1 : Int32), σ5)) (jj_lp4 (b_Routers_chosenPort_14 (w * h) (w * h * 6 * (2 * v)) (w * h * 6 * (2 * v) * d) F (fun σ5 x1_6 x2_7 x3_8 x4_9 => some ((-1 : Int32), σ5))) k) σ (nI n) (nI o) (nI t) (nI j) := rfl
      have u2 : jj_lp4 (b_rRef_moveTo_14 F (fun σ16 x1_17 x2_18 x3_19 x4_20 => some σ16)) (k + 1) τ (nI n) (nI o) (nI t) (nI j) = b_rRef_moveTo_14 F (fun σ16 x1_17 x2_18 x3_19 x4_20 => some σ16) (jj_lp4 (b_rRef_moveTo_14 F (fun σ16 x1_17 x2_18 x3_19 x4_20 => some σ16)) k) τ (nI n) (nI o) (nI t) (nI j) := rfl
      rw [u1, u2]
      rcases Nat.lt_or_ge j 5 with hj | hj
      · have hm : (t + j) % 5 < 5 := Nat.mod_lt _ (by decide)
        obtain ⟨q1, q2⟩ := hJ _ hm
        rcases q2 with q2 | ⟨ch, wy, b1, b2, b3, b4, -⟩
        · rw [pr_mtNeg hj t2 (by omega) (Or.inl q2), pc_cpNeg hj t2 (by omega) e4 (Or.inl (by rw [q1]; exact q2))]
          exact ih (j + 1) (by omega) (by omega)
        · obtain ⟨st', wy', tk', tn', s1, s2, s3, s4, s5, s6, s7, s8, -⟩ := hR.2.2.2.2.2.2.1.1 n _ ch hn hm b1
          have hsl : qq_s (2 * v) n ((t + j) % 5) ch < w * h * 6 * (2 * v) := qq_s_lt hn (by omega) b1
          have b4' : τ 23 (4 * (5 * n + (t + j) % 5) + ch) = nI wy := by rw [← qq_l4 hm]; exact b4
          have b33 : σ 33 (qq_s (2 * v) n ((t + j) % 5) ch) = nI wy := by rw [s7, ← s8, b4]
          by_cases hw : wy = o
          · subst hw
            refine Or.inr ⟨_, ch, hm, b1, b3, b4, ?_, ?_⟩
            · exact pc_cpPos hj t2 (by omega) (by omega) hsl e4 (by rw [q1]; exact b3) b33
            · exact pr_mtPos hj t2 (by omega) (by omega) b3 b4'
          · rw [pr_mtNeg hj t2 (by omega) (Or.inr ⟨ch, by omega, b3, by rw [b4', pp_eq (by omega) (by omega)]; exact hw⟩), pc_cpNeg hj t2 (by omega) e4 (Or.inr ⟨ch, by omega, hsl, by rw [q1]; exact b3, by rw [b33, pp_eq (by omega) (by omega)]; exact hw⟩)]
            exact ih (j + 1) (by omega) (by omega)
      · obtain rfl : j = 5 := by omega
        refine Or.inl ⟨?_, ?_⟩
        · simp (disch := omega) only [b_Routers_chosenPort_14, pp_5, pp_le, Nat.le_refl, if_true, pp_1, pp_n1]
        · simp (disch := omega) only [b_rRef_moveTo_14, pp_5, pp_le, Nat.le_refl, if_true]
  have E1 : f_Routers_chosenPort (w * h) (w * h * 6 * (2 * v)) (w * h * 6 * (2 * v) * d) F σ (nI n) (nI o) = jj_lp4 (b_Routers_chosenPort_14 (w * h) (w * h * 6 * (2 * v)) (w * h * 6 * (2 * v) * d) F (fun σ5 x1_6 x2_7 x3_8 x4_9 => some ((-1 : Int32), σ5))) F σ (nI n) (nI o) (nI t) (nI 0) := by
    have e : n * 5 + o = 5 * n + o := by omega
    clear key hR hJ
    simp (disch := omega) only [f_Routers_chosenPort, pp_5, pk_mul, nI_add, e, pp_ckE, pp_cl, t5, pp_lt, pp_0]
  have E2 : f_rRef_moveTo F τ (nI n) (nI o) = jj_lp4 (b_rRef_moveTo_14 F (fun σ16 x1_17 x2_18 x3_19 x4_20 => some σ16)) F τ (nI n) (nI o) (nI t) (nI 0) := by
    clear key hR hJ
    simp (disch := omega) only [f_rRef_moveTo, pp_5, pk_mul, nI_add, pp_ckE, pp_cl, t6, pp_lt, pp_0]
  rw [E1, E2]
  exact key F 0 (by omega) (by omega)
theorem qq_J_next {w h d v n o p ch : Nat} {σ τ σ' τ' : jj_S} (hD : qq_D w h d v) (hn : n < w * h) (ho : o < 5) (hp : p < 5) (hch : ch < 2 * v) (hJ : qq_J w h v σ τ n o) (h28 : τ 28 p = nI ch) (h23 : τ 23 (qq_l n p ch) = nI o) (e31 : σ' 31 = σ 31) (e28 : τ' 28 = τ 28) (e23 : τ' 23 = τ 23) (e17 : ∀ l, l ≠ qq_l n p ch → τ' 17 l = τ 17 l) (e20 : ∀ l, l ≠ qq_l (qq_f w h n o).1 (qq_f w h n o).2 ch → τ' 20 l = τ 20 l) : qq_J w h v σ' τ' n (o + 1) := by
  have h9 := qq_n9 hD
  have h2v : 2 * v ≤ 4 := by have := hD.2.2.2.2; omega
  intro p' hp'
  obtain ⟨a, b⟩ := hJ p' hp'
  rw [e31, e28, e23]
  refine ⟨a, ?_⟩
  rcases b with b | ⟨ch', wy', b1, b2, b3, b4, b5⟩
  · exact Or.inl b
  · refine Or.inr ⟨ch', wy', b1, b2, b3, b4, fun hw => ?_⟩
    obtain ⟨c1, c2, c3⟩ := b5 (by omega)
    refine ⟨c1, ?_, ?_⟩
    · rw [e17 _ (fun e => ?_)]
      · exact c2
      · rw [e, h23, pp_eq (by omega) (by omega)] at b4
        omega
    · rw [e20 _ (fun e => ?_)]
      · exact c3
      · obtain ⟨f1, f2, f3⟩ := qq_geo hD hn (show o < 6 by omega)
        obtain ⟨g1, g2, g3⟩ := qq_geo hD hn (show wy' < 6 by omega)
        obtain ⟨i1, i2, i3⟩ := qq_l_inj (by omega) (by omega) g2 (by omega) f2 (by omega) e
        rw [i1, i2, f3] at g3
        injection g3 with _ g4
        omega
theorem qq_T_up {w h C i j x y : Nat} {c36 c37 r26 r27 : Nat → Int32} (hT : qq_T w h C c36 c37 r26 r27) (hx : x < C) (hy : y < 5) : qq_T w h C (upd c36 i (nI x)) (upd c37 j (nI y)) (upd r26 i (nI x)) (upd r27 j (nI y)) := by
  intro n sd hn hs
  obtain ⟨a, b, h1, h2, h3, h4, h5, h6⟩ := hT n sd hn hs
  have A : ∃ a, a < C ∧ upd c36 i (nI x) (5 * n + sd) = nI a ∧ upd r26 i (nI x) (5 * n + sd) = nI a := by
    by_cases e : 5 * n + sd = i
    · subst e; exact ⟨x, hx, pk_us, pk_us⟩
    · exact ⟨a, h1, by rw [pk_un e]; exact h3, by rw [pk_un e]; exact h4⟩
  have B : ∃ b, b < 5 ∧ upd c37 j (nI y) (5 * n + sd) = nI b ∧ upd r27 j (nI y) (5 * n + sd) = nI b := by
    by_cases e : 5 * n + sd = j
    · subst e; exact ⟨y, hy, pk_us, pk_us⟩
    · exact ⟨b, h2, by rw [pk_un e]; exact h5, by rw [pk_un e]; exact h6⟩
  obtain ⟨a', x1, x2, x3⟩ := A
  obtain ⟨b', y1, y2, y3⟩ := B
  exact ⟨a', b', x1, y1, x2, x3, y2, y3⟩
theorem qq_RR_up {w h v n o p ch : Nat} {c32 c33 c34 c35 r22 r23 r24 r25 : Nat → Int32} (hRR : qq_RR w h (2 * v) c32 c33 c34 c35 r22 r23 r24 r25) (hN : w * h ≤ 9) (h2v : 2 * v ≤ 4) (hn : n < w * h) (ho : o < 5) (hp : p < 5) (hc : ch < 2 * v) : qq_RR w h (2 * v) (upd c32 (qq_s (2 * v) n p ch) (nI 0)) c33 (upd c34 (qq_s (2 * v) n o ch) (nI 0)) c35 (upd r22 (qq_l n p ch) (nI 0)) r23 (upd r24 (qq_l n o ch) (nI 0)) r25 := by
  intro n' p' c' hn' hp' hc'
  obtain ⟨st, wy, tk, tn, r1, r2, r3, r4, r5, r6, r7, r8, r9, r10, r11, r12, r13⟩ := hRR n' p' c' hn' hp' hc'
  have X : ∃ st', st' ≤ 2 ∧ (st' ≠ 0 → st ≠ 0) ∧ upd c32 (qq_s (2 * v) n p ch) (nI 0) (qq_s (2 * v) n' p' c') = nI st' ∧ upd r22 (qq_l n p ch) (nI 0) (qq_l n' p' c') = nI st' := by
    by_cases he : n' = n ∧ p' = p ∧ c' = ch
    · obtain ⟨rfl, rfl, rfl⟩ := he
      exact ⟨0, by decide, fun q => absurd rfl q, pk_us, pk_us⟩
    · have n1 : qq_s (2 * v) n' p' c' ≠ qq_s (2 * v) n p ch := fun e => he (qq_s_inj (by omega) hc' (by omega) hc e)
      have n2 : qq_l n' p' c' ≠ qq_l n p ch := fun e => he (qq_l_inj (by omega) (by omega) (by omega) (by omega) (by omega) (by omega) e)
      exact ⟨st, r1, fun q => q, by rw [pk_un n1]; exact r5, by rw [pk_un n2]; exact r6⟩
  have Y : ∃ tk', tk' < 2 ∧ upd c34 (qq_s (2 * v) n o ch) (nI 0) (qq_s (2 * v) n' p' c') = nI tk' ∧ upd r24 (qq_l n o ch) (nI 0) (qq_l n' p' c') = nI tk' := by
    by_cases he : n' = n ∧ p' = o ∧ c' = ch
    · obtain ⟨rfl, rfl, rfl⟩ := he
      exact ⟨0, by decide, pk_us, pk_us⟩
    · have n1 : qq_s (2 * v) n' p' c' ≠ qq_s (2 * v) n o ch := fun e => he (qq_s_inj (by omega) hc' (by omega) hc e)
      have n2 : qq_l n' p' c' ≠ qq_l n o ch := fun e => he (qq_l_inj (by omega) (by omega) (by omega) (by omega) (by omega) (by omega) e)
      exact ⟨tk, r3, by rw [pk_un n1]; exact r10, by rw [pk_un n2]; exact r11⟩
  obtain ⟨st', x1, x2, x3, x4⟩ := X
  obtain ⟨tk', y1, y2, y3⟩ := Y
  exact ⟨st', wy, tk', tn, x1, r2, y1, r4, x3, x4, r7, r8, fun q => r9 (x2 q), y2, y3, r12, r13⟩
theorem pc_mvA {N S SD F n o p ch C : Nat} {σ σ1 σ2 : jj_S} {cf : Int32} {tl : Nat} (hn : n < N) (hN : N ≤ 9) (ho : o < 5) (hp : p < 5) (h31 : σ 31 p = nI ch) (e4 : σ 1 4 = nI C)
    (T2 : f_Links_takeOut N S SD F σ (nI (qq_s C n p ch)) = some (cf, σ1)) (S1 : f_Links_send N S SD F σ1 (nI (qq_s C n o ch)) cf = some σ2) :
    f_Routers_move N S SD F σ (nI n) (nI p) (nI o) = jj_nz (5 : Int32) (jj_ck (N * 5) ((nI n * (5 : Int32)) + nI o) (jj_st (jj_up σ2 37 ((nI n * (5 : Int32)) + nI o).toNatClampNeg ((nI p + (1 : Int32)) - (nI p + (1 : Int32)) / (5 : Int32) * (5 : Int32))) (fun σ9 => jj_nz (σ9 1 4) (jj_ck (N * 5) ((nI n * (5 : Int32)) + nI p) (jj_st (jj_up σ9 36 ((nI n * (5 : Int32)) + nI p).toNatClampNeg ((nI ch + (1 : Int32)) - (nI ch + (1 : Int32)) / (σ9 1 4) * (σ9 1 4))) (fun σ10 => jj_b2 (f_Packets_isLast N S SD F σ10 cf) (fun r12 σ11 => if r12 = 0 then (some σ11) else (jj_ck S (nI (qq_s C n o ch)) (jj_st (jj_up σ11 34 (nI (qq_s C n o ch)).toNatClampNeg (vp_nar .boolean (0 : Int32))) (fun σ13 => jj_ck S (nI (qq_s C n p ch)) (jj_st (jj_up σ13 32 (nI (qq_s C n p ch)).toNatClampNeg (0 : Int32)) (fun σ14 => some σ14)))))))))))) := by
  have SL := fun b => pc_slot (n := N) (S := S) (SD := SD) (F := F) (σ := σ) (C := C) (a := n) (b := b) (c := ch) e4
  unfold f_Routers_move
  rw [pp_ckE (by omega) (by decide), pp_cl (by omega), h31, pp_lt, SL p, pp_b2]
  show jj_b2 (f_Grid_slot N S SD F σ (nI n) (nI o) (nI ch)) _ = _
  rw [SL o, pp_b2]
  show jj_b2 (f_Links_takeOut N S SD F σ (nI (qq_s C n p ch))) _ = _
  rw [T2, pp_b2]
  show jj_b1 (f_Links_send N S SD F σ1 (nI (qq_s C n o ch)) cf) _ = _
  rw [S1, pp_b1]
theorem pc_mvB {N S SD F n o p ch C so sp : Nat} {σ2 : jj_S} {cf : Int32} (hn : n < N) (hN : N ≤ 9) (ho : o < 5) (hp : p < 5) (hch : ch < 4) (hC : 0 < C) (hC4 : C ≤ 4) (e42 : σ2 1 4 = nI C) :
    jj_nz (5 : Int32) (jj_ck (N * 5) ((nI n * (5 : Int32)) + nI o) (jj_st (jj_up σ2 37 ((nI n * (5 : Int32)) + nI o).toNatClampNeg ((nI p + (1 : Int32)) - (nI p + (1 : Int32)) / (5 : Int32) * (5 : Int32))) (fun σ9 => jj_nz (σ9 1 4) (jj_ck (N * 5) ((nI n * (5 : Int32)) + nI p) (jj_st (jj_up σ9 36 ((nI n * (5 : Int32)) + nI p).toNatClampNeg ((nI ch + (1 : Int32)) - (nI ch + (1 : Int32)) / (σ9 1 4) * (σ9 1 4))) (fun σ10 => jj_b2 (f_Packets_isLast N S SD F σ10 cf) (fun r12 σ11 => if r12 = 0 then (some σ11) else (jj_ck S (nI so) (jj_st (jj_up σ11 34 (nI so).toNatClampNeg (vp_nar .boolean (0 : Int32))) (fun σ13 => jj_ck S (nI sp) (jj_st (jj_up σ13 32 (nI sp).toNatClampNeg (0 : Int32)) (fun σ14 => some σ14)))))))))))) = (fun σ10 => jj_b2 (f_Packets_isLast N S SD F σ10 cf) (fun r12 σ11 => if r12 = 0 then (some σ11) else (jj_ck S (nI so) (jj_st (jj_up σ11 34 (nI so).toNatClampNeg (vp_nar .boolean (0 : Int32))) (fun σ13 => jj_ck S (nI sp) (jj_st (jj_up σ13 32 (nI sp).toNatClampNeg (0 : Int32)) (fun σ14 => some σ14))))))) (jj_up (jj_up σ2 37 (5 * n + o) (nI ((p + 1) % 5))) 36 (5 * n + p) (nI ((ch + 1) % C))) := by
  generalize (fun σ10 => jj_b2 (f_Packets_isLast N S SD F σ10 cf) (fun r12 σ11 => if r12 = 0 then (some σ11) else (jj_ck S (nI so) (jj_st (jj_up σ11 34 (nI so).toNatClampNeg (vp_nar .boolean (0 : Int32))) (fun σ13 => jj_ck S (nI sp) (jj_st (jj_up σ13 32 (nI sp).toNatClampNeg (0 : Int32)) (fun σ14 => some σ14))))))) = G
  have x1 : n * 5 + o = 5 * n + o := by omega
  have x2 : n * 5 + p = 5 * n + p := by omega
  simp (disch := omega) only [pp_5, pk_mul, nI_add, x1, x2, pp_nzE, pp_ckE, pp_cl, pp_1, pp_rem, pp_st, jj_up_ne, e42]
theorem pc_mvC1 {N S SD F so sp : Nat} {σX : jj_S} {cf : Int32} (hS : S ≤ 1000) (h1 : so < S) (h2 : sp < S) (iL : f_Packets_isLast N S SD F σX cf = some (nI 1, σX)) :
    (fun σ10 => jj_b2 (f_Packets_isLast N S SD F σ10 cf) (fun r12 σ11 => if r12 = 0 then (some σ11) else (jj_ck S (nI so) (jj_st (jj_up σ11 34 (nI so).toNatClampNeg (vp_nar .boolean (0 : Int32))) (fun σ13 => jj_ck S (nI sp) (jj_st (jj_up σ13 32 (nI sp).toNatClampNeg (0 : Int32)) (fun σ14 => some σ14))))))) σX = some (jj_up (jj_up σX 34 so (nI 0)) 32 sp (nI 0)) := by
  show jj_b2 (f_Packets_isLast N S SD F σX cf) _ = _
  rw [iL, pp_b2]
  simp (disch := omega) only [pp_0, pp_eq, Nat.one_ne_zero, if_false, pp_ckE, pp_cl, pp_st, qq_nar0]
theorem pc_mvC0 {N S SD F so sp : Nat} {σX : jj_S} {cf : Int32} (iL : f_Packets_isLast N S SD F σX cf = some (nI 0, σX)) :
    (fun σ10 => jj_b2 (f_Packets_isLast N S SD F σ10 cf) (fun r12 σ11 => if r12 = 0 then (some σ11) else (jj_ck S (nI so) (jj_st (jj_up σ11 34 (nI so).toNatClampNeg (vp_nar .boolean (0 : Int32))) (fun σ13 => jj_ck S (nI sp) (jj_st (jj_up σ13 32 (nI sp).toNatClampNeg (0 : Int32)) (fun σ14 => some σ14))))))) σX = some σX := by
  show jj_b2 (f_Packets_isLast N S SD F σX cf) _ = _
  rw [iL, pp_b2]
  simp (disch := omega) only [pp_0, if_true]
theorem pc_mv1 {N S SD F n o p ch C : Nat} {σ σ1 σ2 : jj_S} {cf : Int32} (hn : n < N) (hN : N ≤ 9) (hS : S ≤ 1000) (ho : o < 5) (hp : p < 5) (hch : ch < 4) (hC : 0 < C) (hC4 : C ≤ 4) (h1 : qq_s C n o ch < S) (h2 : qq_s C n p ch < S) (h31 : σ 31 p = nI ch) (e4 : σ 1 4 = nI C) (e42 : σ2 1 4 = nI C)
    (T2 : f_Links_takeOut N S SD F σ (nI (qq_s C n p ch)) = some (cf, σ1)) (S1 : f_Links_send N S SD F σ1 (nI (qq_s C n o ch)) cf = some σ2) (iL : ∀ σX, f_Packets_isLast N S SD F σX cf = some (nI 1, σX)) :
    f_Routers_move N S SD F σ (nI n) (nI p) (nI o) = some (jj_up (jj_up (jj_up (jj_up σ2 37 (5 * n + o) (nI ((p + 1) % 5))) 36 (5 * n + p) (nI ((ch + 1) % C))) 34 (qq_s C n o ch) (nI 0)) 32 (qq_s C n p ch) (nI 0)) :=
  (pc_mvA hn hN ho hp h31 e4 T2 S1 (tl := 0)).trans ((pc_mvB hn hN ho hp hch hC hC4 e42).trans (pc_mvC1 hS h1 h2 (iL _)))
theorem pc_mv0 {N S SD F n o p ch C : Nat} {σ σ1 σ2 : jj_S} {cf : Int32} (hn : n < N) (hN : N ≤ 9) (ho : o < 5) (hp : p < 5) (hch : ch < 4) (hC : 0 < C) (hC4 : C ≤ 4) (h31 : σ 31 p = nI ch) (e4 : σ 1 4 = nI C) (e42 : σ2 1 4 = nI C)
    (T2 : f_Links_takeOut N S SD F σ (nI (qq_s C n p ch)) = some (cf, σ1)) (S1 : f_Links_send N S SD F σ1 (nI (qq_s C n o ch)) cf = some σ2) (iL : ∀ σX, f_Packets_isLast N S SD F σX cf = some (nI 0, σX)) :
    f_Routers_move N S SD F σ (nI n) (nI p) (nI o) = some (jj_up (jj_up σ2 37 (5 * n + o) (nI ((p + 1) % 5))) 36 (5 * n + p) (nI ((ch + 1) % C))) :=
  (pc_mvA hn hN ho hp h31 e4 T2 S1 (tl := 0)).trans ((pc_mvB hn hN ho hp hch hC hC4 e42).trans (pc_mvC0 (iL _)))
theorem pr_mv1 {F n o p ch C lb : Nat} {τ τ1 τ2 : jj_S} {rf : Int32} (hn : n < 9) (ho : o < 5) (hp : p < 5) (hch : ch < 4) (hC : 0 < C) (hC4 : C ≤ 4) (r42 : τ2 0 4 = nI C)
    (T3 : f_rRef_take F τ (nI (4 * (5 * n + p) + ch)) = some (rf, τ1)) (BY : f_rRef_beyond F τ1 (nI n) (nI o) (nI ch) = some (nI lb, τ1)) (S2 : f_rRef_send F τ1 (nI lb) rf = some τ2)
    (iL : f_rRef_isLast F (jj_up (jj_up τ2 27 (5 * n + o) (nI ((p + 1) % 5))) 26 (5 * n + p) (nI ((ch + 1) % C))) rf = some (nI 1, jj_up (jj_up τ2 27 (5 * n + o) (nI ((p + 1) % 5))) 26 (5 * n + p) (nI ((ch + 1) % C)))) :
    qq_mb F τ (nI n) (nI o) (nI p) (nI ch) (nI (4 * (5 * n + p) + ch)) = some (jj_up (jj_up (jj_up (jj_up τ2 27 (5 * n + o) (nI ((p + 1) % 5))) 26 (5 * n + p) (nI ((ch + 1) % C))) 24 (4 * (5 * n + o) + ch) (nI 0)) 22 (4 * (5 * n + p) + ch) (nI 0)) := by
  simp (disch := omega) only [qq_mb, T3, pp_b2, BY, S2, pp_b1, pp_ckE, pp_cl, pp_4, pp_5, pk_mul, nI_add, pp_nzE, pp_1, pp_rem, pp_st, jj_up_ne, r42, iL, pp_0, pp_eq, Nat.one_ne_zero, if_false, qq_nar0]
theorem pr_mv0 {F n o p ch C lb : Nat} {τ τ1 τ2 : jj_S} {rf : Int32} (hn : n < 9) (ho : o < 5) (hp : p < 5) (hch : ch < 4) (hC : 0 < C) (hC4 : C ≤ 4) (r42 : τ2 0 4 = nI C)
    (T3 : f_rRef_take F τ (nI (4 * (5 * n + p) + ch)) = some (rf, τ1)) (BY : f_rRef_beyond F τ1 (nI n) (nI o) (nI ch) = some (nI lb, τ1)) (S2 : f_rRef_send F τ1 (nI lb) rf = some τ2)
    (iL : f_rRef_isLast F (jj_up (jj_up τ2 27 (5 * n + o) (nI ((p + 1) % 5))) 26 (5 * n + p) (nI ((ch + 1) % C))) rf = some (nI 0, jj_up (jj_up τ2 27 (5 * n + o) (nI ((p + 1) % 5))) 26 (5 * n + p) (nI ((ch + 1) % C)))) :
    qq_mb F τ (nI n) (nI o) (nI p) (nI ch) (nI (4 * (5 * n + p) + ch)) = some (jj_up (jj_up τ2 27 (5 * n + o) (nI ((p + 1) % 5))) 26 (5 * n + p) (nI ((ch + 1) % C))) := by
  simp (disch := omega) only [qq_mb, T3, pp_b2, BY, S2, pp_b1, pp_ckE, pp_cl, pp_4, pp_5, pk_mul, nI_add, pp_nzE, pp_1, pp_rem, pp_st, jj_up_ne, r42, iL, pp_0, if_true]
set_option maxHeartbeats 2000000 in
theorem qq_move {w h d v made cpl F n o p ch : Nat} {σ τ : jj_S} (hF : 300 ≤ F) (hD : qq_D w h d v) (hR : qq_Rel w h d v made cpl σ τ) (hn : n < w * h) (ho : o < 5) (hJ : qq_J w h v σ τ n o) (hp : p < 5) (hch : ch < 2 * v) (h28 : τ 28 p = nI ch) (h23 : τ 23 (qq_l n p ch) = nI o) :
    ∃ σ' τ', f_Routers_move (w * h) (w * h * 6 * (2 * v)) (w * h * 6 * (2 * v) * d) F σ (nI n) (nI p) (nI o) = some σ' ∧ qq_mb F τ (nI n) (nI o) (nI p) (nI ch) (nI (4 * (5 * n + p) + ch)) = some τ' ∧ qq_Rel w h d v made cpl σ' τ' ∧ qq_J w h v σ' τ' n (o + 1) ∧ τ' 0 15 = τ 0 15 := by
  have h9 := qq_n9 hD
  have hS := qq_S216 hD
  have h2v : 2 * v ≤ 4 := by have := hD.2.2.2.2; omega
  have h1v : 1 ≤ v := hD.2.2.2.1
  have hd4 : d ≤ 4 := hD.2.2.1.2
  have e4 := hR.1.1.2.2.2.2.1
  have e0 := hR.1.2.2.1.1
  have e04 := hR.1.2.2.1.2.2.2.2
  have hm := hR.2.2.1.1.1
  obtain ⟨j31, j2⟩ := hJ p hp
  have W : qq_o w h n o = true ∧ τ 17 (qq_l n p ch) ≠ nI 0 ∧ τ 20 (qq_l (qq_f w h n o).1 (qq_f w h n o).2 ch) ≠ nI 0 := by
    rcases j2 with j2 | ⟨ch', wy', b1, b2, b3, b4, b5⟩
    · rw [h28, pp_m1 (by omega)] at j2; exact absurd j2 id
    · rw [h28, pp_eq (by omega) (by omega)] at b3
      subst b3
      rw [h23, pp_eq (by omega) (by omega)] at b4
      subst b4
      exact b5 (Nat.le_refl _)
  obtain ⟨hon, hpos, hcr⟩ := W
  have h31 : σ 31 p = nI ch := by rw [j31]; exact h28
  obtain ⟨sz, fi, q1, q2, q3, q4, q5, q6⟩ := qq_Lsz hR.2.2.2.2.2.1 hn (show p < 6 by omega) hch
  obtain ⟨cf, rf, σ1, τ1, Tf, T2, T3, hrf, hFl, hR1, sf, tf, hfree⟩ := qq_take (F := F) (n := n) (sd := p) (c := ch) hF hD hR hn (by omega) hch hpos
  have el := qq_l4 (n := n) (c := ch) hp
  have hlp : qq_l n p ch < 180 := by rw [el]; omega
  have e17 : ∀ l, l ≠ qq_l n p ch → τ1 17 l = τ 17 l := by
    obtain ⟨sz', fi', cr', bk', g1, g2, g3, g4, g5, g6, g7, g8, g9, -⟩ := hR.2.2.2.2.2.1 n p ch hn (show p < 6 by omega) hch
    have hz0 : 1 ≤ sz' := by
      rcases Nat.eq_zero_or_pos sz' with h0 | h0
      · rw [h0] at g3; exact absurd g3 hpos
      · exact h0
    obtain ⟨z, hz, z1, z17, z18, z21, zf⟩ := pr_take (F := F) (τ := τ) (l := qq_l n p ch) (sz := sz') (bk := bk') (by omega) (by omega) hz0 (by omega) (by omega) g3 g8
    rw [T3] at hz
    injection hz with hz
    subst hz
    intro l hl
    show τ1 17 l = τ 17 l
    have z17 : τ1 17 = upd (τ 17) (qq_l n p ch) (nI (sz' - 1)) := z17
    rw [z17, pk_un hl]
  obtain ⟨f1, f2, f3⟩ := qq_geo hD hn (show o < 6 by omega)
  have hon' := qq_geo4 hD hn ho hon
  obtain ⟨σ2, τ2, S1, S2, hR2, s2f, s2f2, t2f, t2f0, tcr⟩ := qq_send (F := F) (n := (qq_f w h n o).1) (sd := (qq_f w h n o).2) (c := ch) (cf := cf) (rf := rf) hD hR1 f1 f2 hon' hch (by rw [tf 20 (by decide) (by decide) (by decide)]; exact hcr) (by rw [tf 3 (by decide) (by decide) (by decide)]; exact hFl) (fun k q j x1 x2 x3 x4 => by
    rw [tf 3 (by decide) (by decide) (by decide)] at x3
    rw [sf 15 (by decide) (by decide) (by decide), tf 5 (by decide) (by decide) (by decide), tf 6 (by decide) (by decide) (by decide)]
    exact hfree k q j x1 x2 x3 x4)
  have S1 : f_Links_send (w * h) (w * h * 6 * (2 * v)) (w * h * 6 * (2 * v) * d) F σ1 (nI (qq_s (2 * v) n o ch)) cf = some σ2 := by
    have := S1
    rw [f3] at this
    exact this
  have SL := fun b => pc_slot (n := w * h) (S := w * h * 6 * (2 * v)) (SD := w * h * 6 * (2 * v) * d) (F := F) (σ := σ) (C := 2 * v) (a := n) (b := b) (c := ch) e4
  have BY := pr_beyond (F := F) (τ := τ1) (c := ch) hD hn ho (by omega) hon (by rw [tf 0 (by decide) (by decide) (by decide)]; exact e0)
  have e42 : σ2 1 4 = nI (2 * v) := hR2.1.1.2.2.2.2.1
  have r42 : τ2 0 4 = nI (2 * v) := hR2.1.2.2.1.2.2.2.2
  obtain ⟨k, q, jx, hk, hq, hjx, erf, ecf⟩ := hFl
  obtain ⟨fr, to, x, wd, p1, p2, p3, p4, p5, p6, p7, p8, p9, p10, -⟩ := hR.2.2.1.1.2 k hk
  have hsp : qq_s (2 * v) n p ch < w * h * 6 * (2 * v) := qq_s_lt hn (by omega) hch
  have hso : qq_s (2 * v) n o ch < w * h * 6 * (2 * v) := qq_s_lt hn (by omega) hch
  have x1 : n * 5 + o = 5 * n + o := by omega
  have x2 : n * 5 + p = 5 * n + p := by omega
  have t23 : τ2 3 = τ 3 := by rw [t2f 3 (by decide) (by decide) (by decide), tf 3 (by decide) (by decide) (by decide)]
  have hmc : (ch + 1) % (2 * v) < 2 * v := Nat.mod_lt _ (by omega)
  have hmp : (p + 1) % 5 < 5 := Nat.mod_lt _ (by decide)
  rw [el] at T3
  have iLc : ∀ σX, f_Packets_isLast (w * h) (w * h * 6 * (2 * v)) (w * h * 6 * (2 * v) * d) F σX cf = some (nI (if jx + 1 = qq_len (τ 3 k) q then 1 else 0), σX) := fun σX => by
    rw [ecf]
    exact pc_isLast (by omega) hq (by split <;> decide)
  have iLr : ∀ τX : jj_S, τX 3 = τ 3 → f_rRef_isLast F τX rf = some (if jx + 1 = qq_len (τ 3 k) q then nI 1 else nI 0, τX) := fun τX hX => by
    rw [erf]
    have := pr_isLast (F := F) (τ := τX) (k := k) (p := q) (x := x) (j := jx) (by omega) hq p3 (by rw [hX]; exact hjx) (by rw [hX]; exact p10)
    rw [hX] at this
    exact this
  have iLr := iLr (jj_up (jj_up τ2 27 (5 * n + o) (nI ((p + 1) % 5))) 26 (5 * n + p) (nI ((ch + 1) % (2 * v)))) (by rw [jj_up_ne (by decide), jj_up_ne (by decide)]; exact t23)
  have hT4 := qq_T_up (i := 5 * n + p) (j := 5 * n + o) hR2.2.2.2.2.2.2.1.2 hmc hmp
  have hRR := hR2.2.2.2.2.2.2.1.1
  have e15 : τ2 0 15 = τ 0 15 := by rw [t2f0 15 (by decide), tf 0 (by decide) (by decide) (by decide)]
  by_cases hl : jx + 1 = qq_len (τ 3 k) q
  · rw [if_pos hl] at iLr
    simp only [if_pos hl] at iLc
    refine ⟨jj_up (jj_up (jj_up (jj_up σ2 37 (5 * n + o) (nI ((p + 1) % 5))) 36 (5 * n + p) (nI ((ch + 1) % (2 * v)))) 34 (qq_s (2 * v) n o ch) (nI 0)) 32 (qq_s (2 * v) n p ch) (nI 0), jj_up (jj_up (jj_up (jj_up τ2 27 (5 * n + o) (nI ((p + 1) % 5))) 26 (5 * n + p) (nI ((ch + 1) % (2 * v)))) 24 (qq_l n o ch) (nI 0)) 22 (qq_l n p ch) (nI 0), ?_, ?_, ?_, ?_, ?_⟩
    · exact pc_mv1 hn h9 (by omega) ho hp (by omega) (by omega) h2v hso hsp h31 e4 e42 T2 S1 iLc
    · rw [qq_l4 ho, el]
      exact pr_mv1 (by omega) ho hp (by omega) (by omega) h2v r42 T3 BY S2 iLr
    · refine qq_Rel_rt hR2 (fun k a1 a2 a3 a4 a5 => by rw [jj_up_ne a2, jj_up_ne a3, jj_up_ne a4, jj_up_ne a5]) (fun k a1 a2 a3 a4 a5 => by rw [jj_up_ne a1, jj_up_ne a2, jj_up_ne a3, jj_up_ne a4]) ?_
      unfold qq_RT
      simp (disch := omega) only [jj_up_ne, jj_up_same]
      exact ⟨qq_RR_up hRR h9 h2v hn ho hp hch, hT4⟩
    · refine qq_J_next hD hn ho hp hch hJ h28 h23 ?_ ?_ ?_ ?_ ?_
      · simp (disch := omega) only [jj_up_ne, s2f, sf]
      · simp (disch := omega) only [jj_up_ne, t2f, tf]
      · simp (disch := omega) only [jj_up_ne, t2f, tf]
      · intro l hl
        simp (disch := omega) only [jj_up_ne, t2f]
        exact e17 l hl
      · intro l hl
        simp (disch := omega) only [jj_up_ne]
        rw [tcr l hl, tf 20 (by decide) (by decide) (by decide)]
    · simp (disch := omega) only [jj_up_ne]; exact e15
  · rw [if_neg hl] at iLr
    simp only [if_neg hl] at iLc
    refine ⟨jj_up (jj_up σ2 37 (5 * n + o) (nI ((p + 1) % 5))) 36 (5 * n + p) (nI ((ch + 1) % (2 * v))), jj_up (jj_up τ2 27 (5 * n + o) (nI ((p + 1) % 5))) 26 (5 * n + p) (nI ((ch + 1) % (2 * v))), ?_, ?_, ?_, ?_, ?_⟩
    · exact pc_mv0 hn h9 ho hp (by omega) (by omega) h2v h31 e4 e42 T2 S1 iLc
    · exact pr_mv0 (by omega) ho hp (by omega) (by omega) h2v r42 T3 BY S2 iLr
    · refine qq_Rel_rt hR2 (fun k a1 a2 a3 a4 a5 => by rw [jj_up_ne a4, jj_up_ne a5]) (fun k a1 a2 a3 a4 a5 => by rw [jj_up_ne a3, jj_up_ne a4]) ?_
      unfold qq_RT
      simp (disch := omega) only [jj_up_ne, jj_up_same]
      exact ⟨hRR, hT4⟩
    · refine qq_J_next hD hn ho hp hch hJ h28 h23 ?_ ?_ ?_ ?_ ?_
      · simp (disch := omega) only [jj_up_ne, s2f, sf]
      · simp (disch := omega) only [jj_up_ne, t2f, tf]
      · simp (disch := omega) only [jj_up_ne, t2f, tf]
      · intro l hl
        simp (disch := omega) only [jj_up_ne, t2f]
        exact e17 l hl
      · intro l hl
        simp (disch := omega) only [jj_up_ne]
        rw [tcr l hl, tf 20 (by decide) (by decide) (by decide)]
    · simp (disch := omega) only [jj_up_ne]; exact e15
