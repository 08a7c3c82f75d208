/-! MOVING: the lane beyond, ready lanes, naming -/
theorem qq_Rel_rt {w h d v made cpl : Nat} {σ τ σ' τ' : jj_S} (hR : qq_Rel w h d v made cpl σ τ) (sf : ∀ k, k ≠ 31 → k ≠ 32 → k ≠ 34 → k ≠ 36 → k ≠ 37 → σ' k = σ k) (tf : ∀ k, k ≠ 22 → k ≠ 24 → k ≠ 26 → k ≠ 27 → k ≠ 28 → τ' k = τ k) (hT : qq_RT w h v σ' τ') : qq_Rel w h d v made cpl σ' τ' := by
  obtain ⟨hZ, hM, hP, hW, hQ, hL, hRt, hE, hU, hV⟩ := hR
  refine ⟨?_, ?_, ?_, ?_, ?_, ?_, hT, ?_, ?_, ?_⟩
  · unfold qq_Z at hZ ⊢
    simp (disch := omega) only [sf, tf]; exact hZ
  · unfold qq_M at hM ⊢
    simp (disch := omega) only [sf, tf]; exact hM
  · unfold qq_PT at hP ⊢
    simp (disch := omega) only [sf, tf]; exact hP
  · unfold qq_WT at hW ⊢
    simp (disch := omega) only [sf, tf]; exact hW
  · unfold qq_QT at hQ ⊢
    simp (disch := omega) only [sf, tf]; exact hQ
  · unfold qq_LT at hL ⊢
    simp (disch := omega) only [sf, tf]; exact hL
  · simp (disch := omega) only [tf]; exact hE
  · unfold qq_U qq_KT at hU ⊢
    simp (disch := omega) only [tf]; exact hU
  · unfold qq_V qq_KT at hV ⊢
    simp (disch := omega) only [sf, tf]; exact hV
theorem qq_geo4 {w h d v n sd : Nat} (hD : qq_D w h d v) (hn : n < w * h) (hs : sd < 5) (ho : qq_o w h n sd = true) : qq_o w h (qq_f w h n sd).1 (qq_f w h n sd).2 = true := by
  have h9 : w * h ≤ 9 := qq_n9 hD
  have k := qq_all (P := fun w h n sd => decide ((1 ≤ w ∧ 1 ≤ h ∧ n < w * h ∧ qq_o w h n sd = true) → qq_o w h (qq_f w h n sd).1 (qq_f w h n sd).2 = true)) 4 4 9 5 (by decide +kernel) w h n sd (by have := hD.1.2; omega) (by have := hD.2.1.2; omega) (by omega) hs
  exact of_decide_eq_true k ⟨hD.1.1, hD.2.1.1, hn, ho⟩
theorem qq_l_c (n sd c : Nat) : qq_l n sd c = qq_l n sd 0 + c := by
  unfold qq_l
  split <;> omega
theorem pr_beyond {w h d v F n o c : Nat} {τ : jj_S} (hD : qq_D w h d v) (hn : n < w * h) (ho : o < 5) (hc : c < 4) (hon : qq_o w h n o = true) (e0 : τ 0 0 = nI w) : f_rRef_beyond F τ (nI n) (nI o) (nI c) = some (nI (qq_l (qq_f w h n o).1 (qq_f w h n o).2 c), τ) := by
  have h9 := qq_n9 hD
  have hw := hD.1
  obtain ⟨g1, g2, g3⟩ := qq_geo2 hD hn ho hon
  rw [qq_l_c, g1]
  rcases (show o = 0 ∨ o = 1 ∨ o = 2 ∨ o = 3 ∨ o = 4 by omega) with rfl | rfl | rfl | rfl | rfl
  · simp (disch := omega) only [f_rRef_beyond, pp_0, pp_180, pp_4, pk_mul, nI_add, if_true]
  · simp (disch := omega) only [f_rRef_beyond, pp_0, pp_1, pp_2, pp_4, pp_5, pp_eq, pk_mul, nI_add, pp_lt, if_true, if_false, Nat.one_ne_zero]
  · have := g2 rfl
    simp (disch := omega) only [f_rRef_beyond, pp_0, pp_1, pp_2, pp_4, pp_5, pp_eq, pk_mul, nI_add, pp_lt, if_true, if_false, pp_subN, show ¬ (2 : Nat) = 0 by decide, show ¬ (2 : Nat) = 1 by decide]
  · simp (disch := omega) only [f_rRef_beyond, pp_0, pp_1, pp_2, pp_3, pp_4, pp_5, pp_eq, pk_mul, nI_add, pp_lt, e0, if_true, if_false, show ¬ (3 : Nat) = 0 by decide, show ¬ (3 : Nat) = 1 by decide, show ¬ (3 : Nat) = 2 by decide]
  · have := g3 rfl
    simp (disch := omega) only [f_rRef_beyond, pp_0, pp_1, pp_2, pp_3, pp_4, pp_5, pp_eq, pk_mul, nI_add, pp_lt, e0, if_true, if_false, pp_subN, show ¬ (4 : Nat) = 0 by decide, show ¬ (4 : Nat) = 1 by decide, show ¬ (4 : Nat) = 2 by decide, show ¬ (4 : Nat) = 3 by decide]
/-- a lane that may move -/
def qq_rd (w h : Nat) (τ : jj_S) (n p c : Nat) : Prop := τ 17 (qq_l n p c) ≠ nI 0 ∧ τ 22 (qq_l n p c) = nI 2 ∧ ∃ wy, wy < 5 ∧ qq_o w h n wy = true ∧ τ 23 (qq_l n p c) = nI wy ∧ τ 20 (qq_l (qq_f w h n wy).1 (qq_f w h n wy).2 c) ≠ nI 0
set_option maxHeartbeats 1000000 in
theorem qq_ready {w h d v made cpl F n p c : Nat} {σ τ : jj_S} (hD : qq_D w h d v) (hR : qq_Rel w h d v made cpl σ τ) (hn : n < w * h) (hp : p < 5) (hc : c < 2 * v) :
    (qq_rd w h τ n p c → f_Routers_isReady (w * h) (w * h * 6 * (2 * v)) (w * h * 6 * (2 * v) * d) F σ (nI n) (nI p) (nI c) = some (nI 1, σ) ∧ f_rRef_ready F τ (nI n) (nI p) (nI c) = some (nI 1, τ)) ∧
    (¬ qq_rd w h τ n p c → f_Routers_isReady (w * h) (w * h * 6 * (2 * v)) (w * h * 6 * (2 * v) * d) F σ (nI n) (nI p) (nI c) = some (nI 0, σ) ∧ f_rRef_ready F τ (nI n) (nI p) (nI c) = some (nI 0, τ)) := by
  have h9 := qq_n9 hD
  have hS := qq_S216 hD
  have h2v : 2 * v ≤ 4 := by have := hD.2.2.2.2; omega
  have hd4 : d ≤ 4 := hD.2.2.1.2
  have e4 := hR.1.1.2.2.2.2.1
  have e0 := hR.1.2.2.1.1
  obtain ⟨st, wy, tk, tn, r1, r2, r3, r4, r5, r6, r7, r8, r9, -⟩ := hR.2.2.2.2.2.2.1.1 n p c hn hp hc
  obtain ⟨sz, fi, q1, q2, q3, q4, q5, q6⟩ := qq_Lsz hR.2.2.2.2.2.1 hn (show p < 6 by omega) hc
  have SL := fun b => pc_slot (n := w * h) (S := w * h * 6 * (2 * v)) (SD := w * h * 6 * (2 * v) * d) (F := F) (σ := σ) (C := 2 * v) (a := n) (b := b) (c := c) e4
  have hsl : qq_s (2 * v) n p c < w * h * 6 * (2 * v) := qq_s_lt hn (by omega) hc
  have el := qq_l4 (n := n) (c := c) hp
  have hl : 4 * (5 * n + p) + c < 180 := by omega
  by_cases hsz : sz ≤ 0
  · have no : ¬ qq_rd w h τ n p c := fun q => q.1 (by rw [q5, show sz = 0 by omega])
    refine ⟨fun q => absurd q no, fun _ => ?_⟩
    rw [el] at q5
    clear hR no r9
    constructor
    · simp (disch := omega) only [f_Routers_isReady, SL, pp_b2, pp_ckE, pp_cl, q3, pp_0, pp_le, hsz, if_true]
    · simp (disch := omega) only [f_rRef_ready, pp_4, pp_5, pk_mul, nI_add, pp_lt, pp_ckE, pp_cl, q5, pp_0, pp_le, hsz, if_true]
  · by_cases hst : st = 2
    · subst hst
      have hon := r9 (by decide)
      obtain ⟨f1, f2, f3⟩ := qq_geo hD hn (show wy < 6 by omega)
      obtain ⟨sz', fi', cr, bk, g1, g2, g3, g4, g5, g6, g7, g8, g9, -⟩ := hR.2.2.2.2.2.1 _ _ c f1 f2 hc
      rw [f3] at g5
      have hsw : qq_s (2 * v) n wy c < w * h * 6 * (2 * v) := qq_s_lt hn (by omega) hc
      have BY := pr_beyond (F := F) (c := c) hD hn r2 (by omega) hon e0
      have hlb := (qq_l_lt (n := (qq_f w h n wy).1) (sd := (qq_f w h n wy).2) (c := c) (by omega) f2 (by omega)).1
      have hrd : qq_rd w h τ n p c ↔ ¬ cr ≤ 0 := by
        constructor
        · intro q hz
          obtain ⟨wy', w1, w2, w3, w4⟩ := q.2.2
          rw [r8, pp_eq (by omega) (by omega)] at w3
          subst w3
          exact w4 (by rw [g6, show cr = 0 by omega])
        · intro hz
          exact ⟨by rw [q5, ne_eq, pp_eq (by omega) (by omega)]; omega, r6, wy, r2, hon, r8, by rw [g6, ne_eq, pp_eq (by omega) (by omega)]; omega⟩
      rw [hrd]
      rw [el] at q5 r6 r8
      have g5 : σ 7 (qq_s (2 * v) n wy c) = nI cr := g5
      clear hR hrd r9
      by_cases hcr : cr ≤ 0
      · refine ⟨fun q => absurd hcr q, fun _ => ⟨?_, ?_⟩⟩
        · simp (disch := omega) only [f_Routers_isReady, SL, pp_b2, pp_ckE, pp_cl, q3, pp_0, pp_2, pp_le, hsz, if_false, r5, if_true, r7, g5, hcr]
        · simp (disch := omega) only [f_rRef_ready, pp_4, pp_5, pk_mul, nI_add, pp_lt, pp_ckE, pp_cl, q5, pp_0, pp_2, pp_le, hsz, if_false, r6, if_true, r8, BY, pp_b2, g6, hcr]
      · refine ⟨fun _ => ⟨?_, ?_⟩, fun q => absurd hcr q⟩
        · simp (disch := omega) only [f_Routers_isReady, SL, pp_b2, pp_ckE, pp_cl, q3, pp_0, pp_1, pp_2, pp_le, hsz, if_false, r5, if_true, r7, g5, hcr]
        · simp (disch := omega) only [f_rRef_ready, pp_4, pp_5, pk_mul, nI_add, pp_lt, pp_ckE, pp_cl, q5, pp_0, pp_1, pp_2, pp_le, hsz, if_false, r6, if_true, r8, BY, pp_b2, g6, hcr]
    · have no : ¬ qq_rd w h τ n p c := fun q => by
        have := q.2.1
        rw [r6, pp_eq (by omega) (by omega)] at this
        exact hst this
      refine ⟨fun q => absurd q no, fun _ => ?_⟩
      rw [el] at q5 r6
      clear hR no r9
      constructor
      · simp (disch := omega) only [f_Routers_isReady, SL, pp_b2, pp_ckE, pp_cl, q3, pp_0, pp_2, pp_le, hsz, if_false, r5, pp_eq, hst]
      · simp (disch := omega) only [f_rRef_ready, pp_4, pp_5, pk_mul, nI_add, pp_lt, pp_ckE, pp_cl, q5, pp_0, pp_2, pp_le, hsz, if_false, r6, pp_eq, hst]
set_option maxHeartbeats 1000000 in
theorem qq_name {w h d v made cpl F n p : Nat} {σ τ : jj_S} (hF : 300 ≤ F) (hD : qq_D w h d v) (hR : qq_Rel w h d v made cpl σ τ) (hn : n < w * h) (hp : p < 5) :
    ∃ r, f_Routers_readyChannel (w * h) (w * h * 6 * (2 * v)) (w * h * 6 * (2 * v) * d) F σ (nI n) (nI p) = some (r, σ) ∧ f_rRef_name F τ (nI n) (nI p) = some (r, τ) ∧ (r = qq_m ∨ ∃ ch, ch < 2 * v ∧ r = nI ch ∧ qq_rd w h τ n p ch) := by
  have h9 := qq_n9 hD
  have h2v : 2 * v ≤ 4 := by have := hD.2.2.2.2; omega
  have h1v : 1 ≤ v := hD.2.2.2.1
  have e4 := hR.1.1.2.2.2.2.1
  have r4 := hR.1.2.2.1.2.2.2.2
  obtain ⟨a, b, t1, t2, t3, t4, -⟩ := hR.2.2.2.2.2.2.1.2 n p hn hp
  have key : ∀ k j, j ≤ 2 * v → 2 * v < j + k → ∃ r, jj_lp4 (b_Routers_readyChannel_14 (w * h) (w * h * 6 * (2 * v)) (w * h * 6 * (2 * v) * d) F (fun σ5 x1_6 x2_7 x3_8 x4_9 => some ((-1 : Int32), σ5))) k σ (nI n) (nI p) (nI a) (nI j) = some (r, σ) ∧ jj_lp4 (b_rRef_name_14 F (fun σ5 x1_6 x2_7 x3_8 x4_9 => some ((-1 : Int32), σ5))) k τ (nI n) (nI p) (nI a) (nI j) = some (r, τ) ∧ (r = qq_m ∨ ∃ ch, ch < 2 * v ∧ r = nI ch ∧ qq_rd w h τ n p ch) := by
    intro k
    induction k with
    | zero => intro j a1 a2; omega
    | succ k ih =>
      intro j a1 a2
      show ∃ r, b_Routers_readyChannel_14 (w * h) (w * h * 6 * (2 * v)) (w * h * 6 * (2 * v) * d) F (fun σ5 x1_6 x2_7 x3_8 x4_9 => some ((-1 : Int32), σ5)) (jj_lp4 (b_Routers_readyChannel_14 (w * h) (w * h * 6 * (2 * v)) (w * h * 6 * (2 * v) * d) F (fun σ5 x1_6 x2_7 x3_8 x4_9 => some ((-1 : Int32), σ5))) k) σ (nI n) (nI p) (nI a) (nI j) = some (r, σ) ∧ b_rRef_name_14 F (fun σ5 x1_6 x2_7 x3_8 x4_9 => some ((-1 : Int32), σ5)) (jj_lp4 (b_rRef_name_14 F (fun σ5 x1_6 x2_7 x3_8 x4_9 => some ((-1 : Int32), σ5))) k) τ (nI n) (nI p) (nI a) (nI j) = some (r, τ) ∧ _
      rcases Nat.lt_or_ge j (2 * v) with hj | hj
      · have hnj : ¬ (2 * v ≤ j) := by omega
        have hm : (a + j) % (2 * v) < 2 * v := Nat.mod_lt _ (by omega)
        obtain ⟨R1, R2⟩ := qq_ready (F := F) (c := (a + j) % (2 * v)) hD hR hn hp hm
        by_cases hrd : qq_rd w h τ n p ((a + j) % (2 * v))
        · obtain ⟨x1, x2⟩ := R1 hrd
          refine ⟨nI ((a + j) % (2 * v)), ?_, ?_, Or.inr ⟨_, hm, rfl, hrd⟩⟩
          · clear ih R1 R2 hR hrd
            simp (disch := omega) only [b_Routers_readyChannel_14, e4, pp_le, hnj, if_false, pp_nzE, nI_add, pp_rem, pp_lt, x1, pp_b2, pp_0, pp_eq, Nat.one_ne_zero]
          · clear ih R1 R2 hR hrd
            simp (disch := omega) only [b_rRef_name_14, r4, pp_le, hnj, if_false, pp_nzE, nI_add, pp_rem, pp_lt, x2, pp_b2, pp_0, pp_eq, Nat.one_ne_zero]
        · obtain ⟨x1, x2⟩ := R2 hrd
          obtain ⟨r, y1, y2, y3⟩ := ih (j + 1) (by omega) (by omega)
          refine ⟨r, ?_, ?_, y3⟩
          · rw [← y1]
            clear ih R1 R2 hR hrd y1 y2 y3
            simp (disch := omega) only [b_Routers_readyChannel_14, e4, pp_le, hnj, if_false, pp_nzE, nI_add, pp_rem, pp_lt, x1, pp_b2, pp_0, if_true, pp_1]
          · rw [← y2]
            clear ih R1 R2 hR hrd y1 y2 y3
            simp (disch := omega) only [b_rRef_name_14, r4, pp_le, hnj, if_false, pp_nzE, nI_add, pp_rem, pp_lt, x2, pp_b2, pp_0, if_true, pp_1]
      · obtain rfl : j = 2 * v := by omega
        refine ⟨qq_m, ?_, ?_, Or.inl rfl⟩
        · simp (disch := omega) only [b_Routers_readyChannel_14, e4, pp_le, Nat.le_refl, if_true, pp_1, pp_n1]
        · simp (disch := omega) only [b_rRef_name_14, r4, pp_le, Nat.le_refl, if_true, pp_1, pp_n1]
  obtain ⟨r, y1, y2, y3⟩ := key F 0 (by omega) (by omega)
  refine ⟨r, ?_, ?_, y3⟩
  · rw [← y1]
    have e : n * 5 + p = 5 * n + p := by omega
    clear key hR y1 y2 y3
    simp (disch := omega) only [f_Routers_readyChannel, pp_5, pk_mul, nI_add, e, pp_ckE, pp_cl, t3, pp_lt, pp_0]
  · rw [← y2]
    clear key hR y1 y2 y3
    simp (disch := omega) only [f_rRef_name, pp_5, pk_mul, nI_add, pp_ckE, pp_cl, t4, pp_lt, pp_0]
