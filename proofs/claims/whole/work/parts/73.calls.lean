/-! THE CALLS -/
def qq_call (w h d v : Nat) (o1 o2 : Option (Int32 × jj_S)) : Prop := ∃ (r : Int32) (σ' τ' : jj_S) (made' cpl' : Nat), o1 = some (r, σ') ∧ o2 = some (r, τ') ∧ qq_Rel w h d v made' cpl' σ' τ'
theorem pp_ofN {a : Int32} (h : ¬ a < 0) : ∃ m : Nat, m ≤ 2147483647 ∧ a = nI m := by
  have h1 := Int32.toInt_lt a
  rw [Int32.lt_iff_toInt_lt, Int32.toInt_zero] at h
  refine ⟨a.toInt.toNat, by omega, ?_⟩
  apply Int32.toInt_inj.mp
  rw [nI_toInt (by omega)]
  omega
set_option maxHeartbeats 1000000 in
theorem qq_run {w h d v made cpl F : Nat} {σ τ : jj_S} (hF : 300 ≤ F) (hD : qq_D w h d v) (hR : qq_Rel w h d v made cpl σ τ) (a : Int32) : qq_call w h d v (f_Mesh_run (w * h) (w * h * 6 * (2 * v)) (w * h * 6 * (2 * v) * d) F σ a) (f_rRef_run F τ a) := by
  unfold f_Mesh_run f_rRef_run
  by_cases h0 : a < 0
  · rw [if_pos h0, if_pos h0]; exact ⟨_, σ, τ, made, cpl, rfl, rfl, hR⟩
  · rw [if_neg h0, if_neg h0]
    by_cases h60 : a ≤ 60
    · rw [if_pos h60, if_pos h60, pp_lt, pp_lt, hR.2.1.2.2.1, hR.2.1.2.2.2.1]
      obtain ⟨m, hm, rfl⟩ := pp_ofN h0
      rw [pp_60, pp_le hm (by omega)] at h60
      rw [pp_0]
      refine pp_w33 (P := fun o1 o2 => qq_call w h d v o1 o2) (I := fun _ σ1 τ1 => ∃ c, qq_Rel w h d v made c σ1 τ1) (e := m) ?_ ?_ F F 0 σ τ (by omega) (by omega) (by omega) ⟨cpl, hR⟩
      · intro rec rec' σ1 τ1 ⟨c, hR1⟩
        simp (disch := omega) only [b_Mesh_run_25, b_rRef_run_19, pp_le, Nat.le_refl, if_true]
        exact ⟨_, σ1, τ1, made, c, rfl, by rw [hR1.2.1.2.2.1, hR1.2.1.2.2.2.1], hR1⟩
      · intro rec rec' i σ1 τ1 hi ⟨c, hR1⟩ ih
        have hni : ¬ (m ≤ i) := by omega
        obtain ⟨σ2, τ2, c2, T1, T2, hR2⟩ := qq_tick (F := F) hF hD hR1
        have B1 : b_Mesh_run_25 (w * h) (w * h * 6 * (2 * v)) (w * h * 6 * (2 * v) * d) F (fun σ3 x1_4 x2_5 x3_6 => some ((σ3 17 2) - x2_5, σ3)) rec σ1 (nI m) (nI cpl) (nI i) = rec σ2 (nI m) (nI cpl) (nI (i + 1)) := by
          clear ih hR hR1 hR2
          simp (disch := omega) only [b_Mesh_run_25, pp_le, hni, if_false, T1, pp_b1, pp_1, nI_add]
        have B2 : b_rRef_run_19 F (fun σ3 x1_4 x2_5 x3_6 => some ((σ3 0 12) - x2_5, σ3)) rec' τ1 (nI m) (nI cpl) (nI i) = rec' τ2 (nI m) (nI cpl) (nI (i + 1)) := by
          clear ih hR hR1 hR2
          simp (disch := omega) only [b_rRef_run_19, pp_le, hni, if_false, T2, pp_b1, pp_1, nI_add]
        rw [B1, B2]
        exact ih _ _ ⟨c2, hR2⟩
    · rw [if_neg h60, if_neg h60]; exact ⟨_, σ, τ, made, cpl, rfl, rfl, hR⟩
theorem qq_node {w h d v made cpl F N S SD : Nat} {σ τ : jj_S} (hD : qq_D w h d v) (hR : qq_Rel w h d v made cpl σ τ) (a : Int32) : (∃ n, n < w * h ∧ a = nI n ∧ f_Grid_hasNode N S SD F σ a = some (nI 1, σ) ∧ f_rRef_isNode F τ a = some (nI 1, τ)) ∨ (f_Grid_hasNode N S SD F σ a = some (nI 0, σ) ∧ f_rRef_isNode F τ a = some (nI 0, τ)) := by
  have h9 := qq_n9 hD
  have hw : τ 0 0 * τ 0 1 = nI (w * h) := by rw [hR.1.2.2.1.1, hR.1.2.2.1.2.1, pk_mul]
  have e5 := hR.1.1.2.2.2.2.2
  unfold f_Grid_hasNode f_rRef_isNode
  rw [e5, hw]
  by_cases h0 : a < 0
  · rw [if_pos h0, if_pos h0]; exact Or.inr ⟨rfl, rfl⟩
  · rw [if_neg h0, if_neg h0]
    by_cases h1 : nI (w * h) ≤ a
    · rw [if_pos h1, if_pos h1]; exact Or.inr ⟨rfl, rfl⟩
    · rw [if_neg h1, if_neg h1]
      obtain ⟨m, hm, rfl⟩ := pp_ofN h0
      rw [pp_le (by omega) hm] at h1
      exact Or.inl ⟨m, by omega, rfl, rfl, rfl⟩
theorem qq_chan {w h d v made cpl F N S SD : Nat} {σ τ : jj_S} (hD : qq_D w h d v) (hR : qq_Rel w h d v made cpl σ τ) (a : Int32) : (∃ c, c < 2 * v ∧ a = nI c ∧ f_Grid_hasChannel N S SD F σ a = some (nI 1, σ)) ∨ (f_Grid_hasChannel N S SD F σ a = some (nI 0, σ) ∧ (a < 0 ∨ (¬ a < 0 ∧ nI (2 * v) ≤ a))) := by
  have h2v : 2 * v ≤ 4 := by have := hD.2.2.2.2; omega
  have e4 := hR.1.1.2.2.2.2.1
  unfold f_Grid_hasChannel
  rw [e4]
  by_cases h0 : a < 0
  · rw [if_pos h0]; exact Or.inr ⟨rfl, Or.inl h0⟩
  · rw [if_neg h0]
    by_cases h1 : nI (2 * v) ≤ a
    · rw [if_pos h1]; exact Or.inr ⟨rfl, Or.inr ⟨h0, h1⟩⟩
    · rw [if_neg h1]
      obtain ⟨m, hm, rfl⟩ := pp_ofN h0
      rw [pp_le (by omega) hm] at h1
      exact Or.inl ⟨m, by omega, rfl, rfl⟩
theorem qq_word {F N S SD : Nat} {σ : jj_S} (a : Int32) : (∃ m, m < 8 ∧ a = nI m ∧ f_Mesh_isWord N S SD F σ a = some (nI 1, σ)) ∨ (f_Mesh_isWord N S SD F σ a = some (nI 0, σ) ∧ (a < 0 ∨ (¬ a < 0 ∧ ∃ m, 8 ≤ m ∧ m ≤ 2147483647 ∧ a = nI m))) := by
  unfold f_Mesh_isWord
  by_cases h0 : a < 0
  · rw [if_pos h0]; exact Or.inr ⟨rfl, Or.inl h0⟩
  · rw [if_neg h0]
    obtain ⟨m, hm, rfl⟩ := pp_ofN h0
    by_cases h1 : 8 ≤ m
    · rw [if_pos (by rw [pp_8, pp_le (by omega) hm]; exact h1)]; exact Or.inr ⟨rfl, Or.inr ⟨h0, m, h1, hm, rfl⟩⟩
    · rw [if_neg (by rw [pp_8, pp_le (by omega) hm]; exact h1)]
      exact Or.inl ⟨m, by omega, rfl, rfl⟩
theorem qq_place {w h d v made cpl F N S SD : Nat} {σ τ : jj_S} (hD : qq_D w h d v) (hR : qq_Rel w h d v made cpl σ τ) (a1 a2 a3 : Int32) : (∃ n p c, n < w * h ∧ p < 5 ∧ c < 2 * v ∧ a1 = nI n ∧ a2 = nI p ∧ a3 = nI c ∧ f_Mesh_isRouterPlace N S SD F σ a1 a2 a3 = some (nI 1, σ) ∧ f_rRef_isPlace F τ a1 a2 a3 = some (nI 1, τ)) ∨ (f_Mesh_isRouterPlace N S SD F σ a1 a2 a3 = some (nI 0, σ) ∧ f_rRef_isPlace F τ a1 a2 a3 = some (nI 0, τ)) := by
  have h2v : 2 * v ≤ 4 := by have := hD.2.2.2.2; omega
  have r4 := hR.1.2.2.1.2.2.2.2
  unfold f_Mesh_isRouterPlace f_rRef_isPlace
  rcases qq_node (F := F) (N := N) (S := S) (SD := SD) hD hR a1 with ⟨n, hn, e1, N1, N2⟩ | ⟨N1, N2⟩
  · rw [N1, N2, pp_b2, pp_b2]
    rw [if_neg (show ¬ (nI 1, σ).1 = 0 from nI_ne0 (by decide) (by decide)), if_neg (show ¬ (nI 1, τ).1 = 0 from nI_ne0 (by decide) (by decide))]
    by_cases h0 : a2 < 0
    · rw [if_pos h0, if_pos h0]; exact Or.inr ⟨rfl, rfl⟩
    · rw [if_neg h0, if_neg h0]
      obtain ⟨p, hp, rfl⟩ := pp_ofN h0
      by_cases h1 : 5 ≤ p
      · rw [if_pos (by rw [pp_5, pp_le (by omega) hp]; exact h1), if_pos (by rw [pp_4, pp_ltN (by omega) hp]; omega)]; exact Or.inr ⟨rfl, rfl⟩
      · rw [if_neg (by rw [pp_5, pp_le (by omega) hp]; exact h1), if_neg (by rw [pp_4, pp_ltN (by omega) hp]; omega)]
        show _ ∨ (jj_b2 (f_Grid_hasChannel N S SD F σ a3) _ = _ ∧ _)
        rcases qq_chan (F := F) (N := N) (S := S) (SD := SD) hD hR a3 with ⟨c, hc, e3, C1⟩ | ⟨C1, C2⟩
        · refine Or.inl ⟨n, p, c, hn, by omega, hc, e1, rfl, e3, ?_, ?_⟩
          · show jj_b2 (f_Grid_hasChannel N S SD F σ a3) _ = _
            rw [C1, pp_b2]
            rw [if_neg (show ¬ (nI 1, σ).1 = 0 from nI_ne0 (by decide) (by decide))]; rfl
          · subst e3
            rw [if_neg (nI_pos (by omega))]
            show (if (τ 0 4) ≤ nI c then _ else _) = _
            rw [if_neg (by rw [r4, pp_le (by omega) (by omega)]; omega)]; rfl
        · refine Or.inr ⟨?_, ?_⟩
          · rw [C1, pp_b2]
            rw [if_pos (show (nI 0, σ).1 = 0 from rfl)]; rfl
          · rcases C2 with C2 | ⟨C2, C3⟩
            · rw [if_pos C2]; rfl
            · rw [if_neg C2]
              show (if (τ 0 4) ≤ a3 then _ else _) = _
              rw [if_pos (by rw [r4]; exact C3)]; rfl
  · rw [N1, N2, pp_b2, pp_b2]
    rw [if_pos (show (nI 0, σ).1 = 0 from rfl), if_pos (show (nI 0, τ).1 = 0 from rfl)]
    exact Or.inr ⟨rfl, rfl⟩
theorem qq_hold {w h d v made cpl F : Nat} {σ τ : jj_S} (hD : qq_D w h d v) (hR : qq_Rel w h d v made cpl σ τ) (a b : Int32) : qq_call w h d v (f_Mesh_hold (w * h) (w * h * 6 * (2 * v)) (w * h * 6 * (2 * v) * d) F σ a b) (f_rRef_hold F τ a b) := by
  have h9 := qq_n9 hD
  rcases qq_node (F := F) (N := w * h) (S := w * h * 6 * (2 * v)) (SD := w * h * 6 * (2 * v) * d) hD hR a with ⟨n, hn, rfl, N1, N2⟩ | ⟨N1, N2⟩
  · refine ⟨nI 1, jj_up σ 29 n (vp_nar .boolean b), jj_up τ 10 n (vp_nar .boolean b), made, cpl, ?_, ?_, ?_⟩
    · simp (disch := omega) only [f_Mesh_hold, N1, pp_b2, pp_0, pp_1, pp_eq, Nat.one_ne_zero, if_false, pp_ckE, pp_cl, pp_st]
    · simp (disch := omega) only [f_rRef_hold, N2, pp_b2, pp_0, pp_1, pp_eq, Nat.one_ne_zero, if_false, pp_ckE, pp_cl, pp_st]
    · obtain ⟨hZ, hM, hP, hW, hQ, hL, hRt, hE, hU, hV⟩ := hR
      refine ⟨?_, ?_, ?_, ?_, ?_, ?_, ?_, ?_, ?_, ?_⟩
      · unfold qq_Z at hZ ⊢
        simp (disch := omega) only [jj_up_ne]; exact hZ
      · unfold qq_M at hM ⊢
        simp (disch := omega) only [jj_up_ne]; exact hM
      · unfold qq_PT at hP ⊢
        simp (disch := omega) only [jj_up_ne]; exact hP
      · unfold qq_WT at hW ⊢
        simp (disch := omega) only [jj_up_ne, jj_up_same]
        refine ⟨hW.1, fun m hm => ?_⟩
        by_cases e : m = n
        · subst e; rw [pk_us, pk_us]
        · rw [pk_un e, pk_un e]; exact hW.2 m hm
      · unfold qq_QT at hQ ⊢
        simp (disch := omega) only [jj_up_ne]; exact hQ
      · unfold qq_LT at hL ⊢
        simp (disch := omega) only [jj_up_ne]; exact hL
      · unfold qq_RT at hRt ⊢
        simp (disch := omega) only [jj_up_ne]; exact hRt
      · simp (disch := omega) only [jj_up_ne]; exact hE
      · unfold qq_U qq_KT at hU ⊢
        simp (disch := omega) only [jj_up_ne]; exact hU
      · unfold qq_V qq_KT at hV ⊢
        simp (disch := omega) only [jj_up_ne]; exact hV
  · refine ⟨nI 0, σ, τ, made, cpl, ?_, ?_, hR⟩
    · simp (disch := omega) only [f_Mesh_hold, N1, pp_b2, pp_0, if_true]
    · simp (disch := omega) only [f_rRef_hold, N2, pp_b2, pp_0, if_true]
theorem qq_cpl {w h d v made cpl : Nat} {σ τ : jj_S} (hR : qq_Rel w h d v made cpl σ τ) : cpl ≤ made := by
  obtain ⟨hZ, hM, hP, hW, hQ, hL, hRt, hE, hU, hV⟩ := hR
  have hm := hP.1.1
  have hdn : ∀ j, j < cpl → ∃ k', k' < made ∧ τ 7 j = nI k' ∧ qq_KT cpl τ 4 0 j k' 1 := fun j hj => by
    obtain ⟨⟨k', a1, a2, a3⟩, -⟩ := hP.2 j hj
    exact ⟨k', a1, a3, by omega, Or.inr (Or.inr (Or.inr (Or.inr ⟨rfl, rfl, rfl, hj, a3⟩)))⟩
  refine qq_pig made cpl (fun j => (τ 7 j).toNatClampNeg) (fun i hi => ?_) (fun i j hi hj e => ?_)
  · obtain ⟨k', a1, a2, a3⟩ := hdn i hi
    show (τ 7 i).toNatClampNeg < made
    rw [a2, pp_cl (by omega)]; exact a1
  · obtain ⟨k1, a1, a2, a3⟩ := hdn i hi
    obtain ⟨k2, b1, b2, b3⟩ := hdn j hj
    have e : (τ 7 i).toNatClampNeg = (τ 7 j).toNatClampNeg := e
    rw [a2, b2, pp_cl (by omega), pp_cl (by omega)] at e
    subst e
    exact (hU _ _ _ _ _ _ _ _ _ a3 b3).2.2
theorem qq_reply {w h d v made cpl F N S SD : Nat} {σ τ : jj_S} (hR : qq_Rel w h d v made cpl σ τ) (a b : Int32) : qq_call w h d v (f_Mesh_reply N S SD F σ a b) (f_rRef_reply F τ a b) := by
  have hc := qq_cpl hR
  have hm := hR.2.2.1.1.1
  have e1 := hR.2.1.2.2.1
  have e2 := hR.2.1.2.2.2.1
  by_cases h0 : a < 0
  · exact ⟨-1, σ, τ, made, cpl, by unfold f_Mesh_reply; rw [if_pos h0], by unfold f_rRef_reply; rw [if_pos h0], hR⟩
  · obtain ⟨j, hj, rfl⟩ := pp_ofN h0
    by_cases h1 : j < cpl
    · have h1' : ¬ (cpl ≤ j) := by omega
      obtain ⟨⟨k, k1, k2, k3⟩, k4⟩ := hR.2.2.1.2 j h1
      have hv := (hR.2.2.2.2.2.2.2.2.2 4 0 j k 1 ⟨by omega, Or.inr (Or.inr (Or.inr (Or.inr ⟨rfl, rfl, rfl, h1, k3⟩)))⟩).2
      rw [if_neg (by decide)] at hv
      by_cases hb0 : b < 0
      · refine ⟨-1, σ, τ, made, cpl, ?_, ?_, hR⟩
        · have n0 : ¬ b = 0 := fun e => by rw [e] at hb0; exact absurd hb0 (by decide)
          have n1 : ¬ b = 1 := fun e => by rw [e] at hb0; exact absurd hb0 (by decide)
          have n2 : ¬ b = 2 := fun e => by rw [e] at hb0; exact absurd hb0 (by decide)
          unfold f_Mesh_reply
          rw [if_neg h0, e1, if_pos (by rw [pp_ltN hj (by omega)]; exact h1), if_neg n0, if_neg n1, if_neg n2]
        · unfold f_rRef_reply
          rw [if_neg h0, e2, if_neg (by rw [pp_le (by omega) hj]; exact h1'), if_pos hb0]
      · obtain ⟨m, hm2, rfl⟩ := pp_ofN hb0
        rcases (show m = 0 ∨ m = 1 ∨ m = 2 ∨ 3 ≤ m by omega) with rfl | rfl | rfl | h3
        · refine ⟨nI k, σ, τ, made, cpl, ?_, ?_, hR⟩
          · simp (disch := omega) only [f_Mesh_reply, pp_0, pp_neg, Nat.not_lt_zero, if_false, e1, pp_ltN, h1, if_true, pp_ckE, pp_cl, k2]
          · simp (disch := omega) only [f_rRef_reply, pp_0, pp_2, pp_neg, Nat.not_lt_zero, if_false, e2, pp_le, h1', if_true, pp_ckE, pp_cl, k3, Nat.zero_le]
        · refine ⟨σ 15 k, σ, τ, made, cpl, ?_, ?_, hR⟩
          · simp (disch := omega) only [f_Mesh_reply, pp_0, pp_1, pp_neg, Nat.not_lt_zero, pp_eq, Nat.one_ne_zero, if_false, e1, pp_ltN, h1, if_true, pp_ckE, pp_cl, k2]
          · rw [hv]
            simp (disch := omega) only [f_rRef_reply, pp_0, pp_1, pp_2, pp_neg, Nat.not_lt_zero, pp_eq, Nat.one_ne_zero, if_false, e2, pp_le, h1', show (1 : Nat) ≤ 2 by decide, if_true, pp_ckE, pp_cl, k3]
        · refine ⟨σ 19 j, σ, τ, made, cpl, ?_, ?_, hR⟩
          · simp (disch := omega) only [f_Mesh_reply, pp_0, pp_1, pp_2, pp_neg, Nat.not_lt_zero, pp_eq, show ¬ (2 : Nat) = 0 by decide, show ¬ (2 : Nat) = 1 by decide, if_false, e1, pp_ltN, h1, if_true, pp_ckE, pp_cl]
          · rw [k4]
            simp (disch := omega) only [f_rRef_reply, pp_0, pp_1, pp_2, pp_neg, Nat.not_lt_zero, pp_eq, show ¬ (2 : Nat) = 0 by decide, show ¬ (2 : Nat) = 1 by decide, if_false, e2, pp_le, h1', Nat.le_refl, if_true, pp_ckE, pp_cl]
        · have n0 : ¬ m = 0 := by omega
          have n1 : ¬ m = 1 := by omega
          have n2 : ¬ m = 2 := by omega
          have n3 : ¬ m ≤ 2 := by omega
          refine ⟨qq_m, σ, τ, made, cpl, ?_, ?_, hR⟩
          · simp (disch := omega) only [f_Mesh_reply, pp_0, pp_1, pp_n1, pp_2, pp_neg, Nat.not_lt_zero, pp_eq, n0, n1, n2, if_false, e1, pp_ltN, h1, if_true]
          · simp (disch := omega) only [f_rRef_reply, pp_0, pp_1, pp_n1, pp_2, pp_neg, Nat.not_lt_zero, if_false, e2, pp_le, h1', n3]
    · have h1' : cpl ≤ j := by omega
      refine ⟨qq_m, σ, τ, made, cpl, ?_, ?_, hR⟩
      · simp (disch := omega) only [f_Mesh_reply, pp_0, pp_1, pp_n1, pp_neg, Nat.not_lt_zero, if_false, e1, pp_ltN, h1]
      · simp (disch := omega) only [f_rRef_reply, pp_0, pp_1, pp_n1, pp_neg, Nat.not_lt_zero, if_false, e2, pp_le, h1', if_true]
theorem qq_memory {w h d v made cpl F : Nat} {σ τ : jj_S} (hD : qq_D w h d v) (hR : qq_Rel w h d v made cpl σ τ) (a b : Int32) : qq_call w h d v (f_Mesh_memory (w * h) (w * h * 6 * (2 * v)) (w * h * 6 * (2 * v) * d) F σ a b) (f_rRef_memory F τ a b) := by
  have h9 := qq_n9 hD
  rcases qq_node (F := F) (N := w * h) (S := w * h * 6 * (2 * v)) (SD := w * h * 6 * (2 * v) * d) hD hR a with ⟨n, hn, rfl, N1, N2⟩ | ⟨N1, N2⟩
  · rcases qq_word (F := F) (N := w * h) (S := w * h * 6 * (2 * v)) (SD := w * h * 6 * (2 * v) * d) (σ := σ) b with ⟨m, hm, rfl, W⟩ | ⟨W, W2⟩
    · have e := hR.2.2.2.1.1 (n * 8 + m) (by omega)
      have e8 : 8 * n + m = n * 8 + m := by omega
      have h7 : ¬ (7 < m) := by omega
      refine ⟨σ 28 (n * 8 + m), σ, τ, made, cpl, ?_, ?_, hR⟩
      · clear hR e
        simp (disch := omega) only [f_Mesh_memory, N1, W, pp_b2, pp_0, pp_1, pp_eq, Nat.one_ne_zero, if_false, pp_8, pk_mul, nI_add, pp_ckE, pp_cl]
      · rw [e]
        clear hR e
        simp (disch := omega) only [f_rRef_memory, N2, pp_b2, pp_0, pp_1, pp_eq, Nat.one_ne_zero, if_false, pp_neg, Nat.not_lt_zero, pp_7, pp_ltN, h7, pp_8, pk_mul, nI_add, e8, pp_ckE, pp_cl]
    · refine ⟨nI 0, σ, τ, made, cpl, ?_, ?_, hR⟩
      · simp (disch := omega) only [f_Mesh_memory, N1, W, pp_b2, pp_0, pp_1, pp_eq, Nat.one_ne_zero, if_false, if_true]
      · rcases W2 with W2 | ⟨W2, m, m1, m2, rfl⟩
        · rw [pp_0] at W2
          simp (disch := omega) only [f_rRef_memory, N2, pp_b2, pp_0, pp_1, pp_eq, Nat.one_ne_zero, if_false, W2, if_true]
        · have h7 : 7 < m := by omega
          simp (disch := omega) only [f_rRef_memory, N2, pp_b2, pp_0, pp_1, pp_eq, Nat.one_ne_zero, if_false, pp_neg, Nat.not_lt_zero, pp_7, pp_ltN, h7, if_true]
  · refine ⟨nI 0, σ, τ, made, cpl, ?_, ?_, hR⟩
    · simp (disch := omega) only [f_Mesh_memory, N1, pp_b2, pp_0, if_true]
    · simp (disch := omega) only [f_rRef_memory, N2, pp_b2, pp_0, if_true]
theorem qq_waiting {w h d v made cpl F : Nat} {σ τ : jj_S} (hD : qq_D w h d v) (hR : qq_Rel w h d v made cpl σ τ) (a : Int32) : qq_call w h d v (f_Mesh_waiting (w * h) (w * h * 6 * (2 * v)) (w * h * 6 * (2 * v) * d) F σ a) (f_rRef_waiting F τ a) := by
  have h9 := qq_n9 hD
  rcases qq_node (F := F) (N := w * h) (S := w * h * 6 * (2 * v)) (SD := w * h * 6 * (2 * v) * d) hD hR a with ⟨n, hn, rfl, N1, N2⟩ | ⟨N1, N2⟩
  · obtain ⟨ct, g, c1, c2, c3, -⟩ := hR.2.2.2.2.1.1 n hn
    obtain ⟨ct', g', c1', c2', c3', -⟩ := hR.2.2.2.2.1.2 n hn
    refine ⟨nI (ct + 8 * ct'), σ, τ, made, cpl, ?_, ?_, hR⟩
    · clear hR
      simp (disch := omega) only [f_Mesh_waiting, N1, pp_b2, pp_0, pp_1, pp_eq, Nat.one_ne_zero, if_false, pp_ckE, pp_cl, c2, c2', pp_8, pk_mul, nI_add]
    · clear hR
      simp (disch := omega) only [f_rRef_waiting, N2, pp_b2, pp_0, pp_1, pp_eq, Nat.one_ne_zero, if_false, pp_ckE, pp_cl, c3, c3', pp_8, pk_mul, nI_add]
  · refine ⟨qq_m, σ, τ, made, cpl, ?_, ?_, hR⟩
    · simp (disch := omega) only [f_Mesh_waiting, N1, pp_b2, pp_0, pp_1, pp_n1, if_true]
    · simp (disch := omega) only [f_rRef_waiting, N2, pp_b2, pp_0, pp_1, pp_n1, if_true]
set_option maxHeartbeats 1000000 in
theorem qq_lane_c {w h d v made cpl F : Nat} {σ τ : jj_S} (hD : qq_D w h d v) (hR : qq_Rel w h d v made cpl σ τ) (a b c : Int32) : qq_call w h d v (f_Mesh_lane (w * h) (w * h * 6 * (2 * v)) (w * h * 6 * (2 * v) * d) F σ a b c) (f_rRef_lane F τ a b c) := by
  have h9 := qq_n9 hD
  have hS := qq_S216 hD
  have h2v : 2 * v ≤ 4 := by have := hD.2.2.2.2; omega
  have e4 := hR.1.1.2.2.2.2.1
  rcases qq_place (F := F) (N := w * h) (S := w * h * 6 * (2 * v)) (SD := w * h * 6 * (2 * v) * d) hD hR a b c with ⟨n, p, c, hn, hp, hc, rfl, rfl, rfl, N1, N2⟩ | ⟨N1, N2⟩
  · obtain ⟨st, wy, tk, tn, r1, r2, r3, r4, r5, r6, r7, r8, -⟩ := hR.2.2.2.2.2.2.1.1 n p c hn hp hc
    obtain ⟨sz, fi, q1, q2, q3, q4, q5, q6⟩ := qq_Lsz hR.2.2.2.2.2.1 hn (show p < 6 by omega) hc
    have SL := pc_slot (n := w * h) (S := w * h * 6 * (2 * v)) (SD := w * h * 6 * (2 * v) * d) (F := F) (σ := σ) (C := 2 * v) (a := n) (b := p) (c := c) e4
    have hsl : qq_s (2 * v) n p c < w * h * 6 * (2 * v) := qq_s_lt hn (by omega) hc
    rw [qq_l4 hp] at r6 r8 q5
    by_cases h0 : st = 0
    · subst h0
      refine ⟨nI (sz + 8 * 0), σ, τ, made, cpl, ?_, ?_, hR⟩
      · clear hR
        simp (disch := omega) only [f_Mesh_lane, N1, pp_b2, pp_0, pp_1, pp_eq, Nat.one_ne_zero, if_false, SL, pp_ckE, pp_cl, r5, pp_lt, if_true, q3, pp_8, pp_64, pk_mul, nI_add, Nat.mul_zero, Nat.add_zero]
      · clear hR
        simp (disch := omega) only [f_rRef_lane, N2, pp_b2, pp_0, pp_1, pp_eq, Nat.one_ne_zero, if_false, pp_4, pp_5, pk_mul, nI_add, pp_lt, pp_ckE, pp_cl, r6, if_true, q5, pp_8, Nat.mul_zero, Nat.add_zero]
    · refine ⟨nI (sz + 8 * st + 64 * wy), σ, τ, made, cpl, ?_, ?_, hR⟩
      · clear hR
        simp (disch := omega) only [f_Mesh_lane, N1, pp_b2, pp_0, pp_1, pp_eq, Nat.one_ne_zero, if_false, SL, pp_ckE, pp_cl, r5, r7, pp_lt, h0, q3, pp_8, pp_64, pk_mul, nI_add]
      · clear hR
        simp (disch := omega) only [f_rRef_lane, N2, pp_b2, pp_0, pp_1, pp_eq, Nat.one_ne_zero, if_false, pp_4, pp_5, pk_mul, nI_add, pp_lt, pp_ckE, pp_cl, r6, r8, h0, q5, pp_8, pp_64]
  · refine ⟨qq_m, σ, τ, made, cpl, ?_, ?_, hR⟩
    · simp (disch := omega) only [f_Mesh_lane, N1, pp_b2, pp_0, pp_1, pp_n1, if_true]
    · simp (disch := omega) only [f_rRef_lane, N2, pp_b2, pp_0, pp_1, pp_n1, if_true]
theorem qq_geo5 {w h d v n sd : Nat} (hD : qq_D w h d v) (hn : n < w * h) (hs : sd < 5) (ho : qq_o w h n sd = false) : qq_f w h n sd = (n, sd) := by
  have h9 : w * h ≤ 9 := qq_n9 hD
  have k := qq_all (P := fun w h n sd => decide ((1 ≤ w ∧ 1 ≤ h ∧ n < w * h ∧ qq_o w h n sd = false) → qq_f w h n sd = (n, sd))) 4 4 9 5 (by decide +kernel) w h n sd (by have := hD.1.2; omega) (by have := hD.2.1.2; omega) (by omega) hs
  exact of_decide_eq_true k ⟨hD.1.1, hD.2.1.1, hn, ho⟩
set_option maxHeartbeats 1000000 in
theorem pr_leads {w h d v F n p : Nat} {τ : jj_S} (hD : qq_D w h d v) (hn : n < w * h) (hp : p < 5) (e0 : τ 0 0 = nI w) (e1 : τ 0 1 = nI h) : f_rRef_leads F τ (nI n) (nI p) = some (if qq_o w h n p = true then nI 1 else nI 0, τ) := by
  have h9 := qq_n9 hD
  have hw := hD.1
  have hh := hD.2.1
  have m1 := Nat.mod_lt n (show 0 < w by omega)
  have q1 := Nat.div_le_self n w
  rcases (show p = 0 ∨ p = 1 ∨ p = 2 ∨ p = 3 ∨ p = 4 by omega) with rfl | rfl | rfl | rfl | rfl
  · simp (disch := omega) only [f_rRef_leads, e0, pp_nzE, pp_lt, pp_0, if_true]
    rfl
  · have hq : (qq_o w h n 1 = true) = (n % w + 1 < w) := by simp [qq_o]
    simp (disch := omega) only [f_rRef_leads, e0, pp_nzE, pp_rem, pp_lt, pp_0, pp_1, pp_2, pp_3, pp_4, pp_eq, Nat.one_ne_zero, if_false, if_true, pp_subN, pp_ltN, show ¬ (1 : Nat) = 2 by decide, show ¬ (1 : Nat) = 3 by decide, show ¬ (1 : Nat) = 4 by decide, hq]
    by_cases hc : n % w < w - 1
    · rw [if_pos hc, if_pos (by omega)]
    · rw [if_neg hc, if_neg (by omega)]
  · have hq : (qq_o w h n 2 = true) = (0 < n % w) := by simp [qq_o]
    simp (disch := omega) only [f_rRef_leads, e0, pp_nzE, pp_rem, pp_lt, pp_0, pp_1, pp_2, pp_3, pp_4, pp_eq, if_false, if_true, pp_ltN, show ¬ (2 : Nat) = 0 by decide, show ¬ (2 : Nat) = 1 by decide, show ¬ (2 : Nat) = 3 by decide, show ¬ (2 : Nat) = 4 by decide, hq]
    by_cases hc : 0 < n % w
    · rw [if_pos hc, if_pos hc]
    · rw [if_neg hc, if_neg hc]
  · have hq : (qq_o w h n 3 = true) = (n / w + 1 < h) := by simp [qq_o]
    simp (disch := omega) only [f_rRef_leads, e0, e1, pp_nzE, pp_lt, pp_0, pp_1, pp_2, pp_3, pp_4, pp_eq, if_false, if_true, pp_subN, show ¬ (3 : Nat) = 0 by decide, show ¬ (3 : Nat) = 1 by decide, show ¬ (3 : Nat) = 2 by decide, show ¬ (3 : Nat) = 4 by decide, hq]
    simp (disch := omega) only [pp_div, pp_ltN]
    by_cases hc : n / w < h - 1
    · rw [if_pos hc, if_pos (by omega)]
    · rw [if_neg hc, if_neg (by omega)]
  · have hq : (qq_o w h n 4 = true) = (0 < n / w) := by simp [qq_o]
    simp (disch := omega) only [f_rRef_leads, e0, e1, pp_nzE, pp_lt, pp_0, pp_1, pp_2, pp_3, pp_4, pp_eq, if_false, if_true, show ¬ (4 : Nat) = 0 by decide, show ¬ (4 : Nat) = 1 by decide, show ¬ (4 : Nat) = 2 by decide, show ¬ (4 : Nat) = 3 by decide, hq]
    simp (disch := omega) only [pp_div, pp_le]
    by_cases hc : n / w ≤ 0
    · rw [if_pos hc, if_neg (by omega)]
    · rw [if_neg hc, if_pos (by omega)]
theorem pc_out {N S SD F n p c C cr tk : Nat} {σ : jj_S} (hS : S ≤ 1000) (hsl : qq_s C n p c < S) (e4 : σ 1 4 = nI C) (N1 : f_Mesh_isRouterPlace N S SD F σ (nI n) (nI p) (nI c) = some (nI 1, σ)) (htk : tk < 2) (r10 : σ 34 (qq_s C n p c) = nI tk) (g5 : σ 7 (qq_s C n p c) = nI cr) : f_Mesh_output N S SD F σ (nI n) (nI p) (nI c) = some (nI (cr + 8 * tk), σ) := by
  have SL := pc_slot (n := N) (S := S) (SD := SD) (F := F) (σ := σ) (C := C) (a := n) (b := p) (c := c) e4
  unfold f_Mesh_output
  rw [N1, pp_b2]
  rw [if_neg (show ¬ (nI 1, σ).1 = 0 from nI_ne0 (by decide) (by decide))]
  show jj_b2 (f_Grid_slot N S SD F σ (nI n) (nI p) (nI c)) _ = _
  rw [SL, pp_b2]
  show jj_ck S (nI (qq_s C n p c)) (jj_ck S (nI (qq_s C n p c)) (if σ 34 (nI (qq_s C n p c)).toNatClampNeg = 0 then some (σ 7 (nI (qq_s C n p c)).toNatClampNeg + 0, σ) else some (σ 7 (nI (qq_s C n p c)).toNatClampNeg + 8, σ))) = _
  rw [pp_ckE hsl (by omega), pp_ckE hsl (by omega), pp_cl (by omega), r10, g5]
  rcases (show tk = 0 ∨ tk = 1 by omega) with rfl | rfl
  · rw [if_pos (show nI 0 = 0 from rfl), pp_0, nI_add]
  · rw [if_neg (nI_ne0 (by decide) (by decide)), pp_8, nI_add]
theorem pr_outT {F n p c lb cr tk : Nat} {τ : jj_S} (hn : n < 9) (hp : p < 5) (hc : c < 4) (N2 : f_rRef_isPlace F τ (nI n) (nI p) (nI c) = some (nI 1, τ)) (LD : f_rRef_leads F τ (nI n) (nI p) = some (nI 1, τ)) (BY : f_rRef_beyond F τ (nI n) (nI p) (nI c) = some (nI lb, τ)) (hlb : lb < 216) (g6 : τ 20 lb = nI cr) (htk : tk < 2) (r11 : τ 24 (4 * (5 * n + p) + c) = nI tk) : f_rRef_output F τ (nI n) (nI p) (nI c) = some (nI (cr + 8 * tk), τ) := by
  rcases (show tk = 0 ∨ tk = 1 by omega) with rfl | rfl
  · simp (disch := omega) only [f_rRef_output, N2, LD, BY, pp_b2, pp_0, pp_1, pp_eq, Nat.one_ne_zero, if_false, pp_lt, pp_ckE, pp_cl, pp_4, pp_5, pk_mul, nI_add, r11, if_true, g6, Nat.mul_zero]
  · simp (disch := omega) only [f_rRef_output, N2, LD, BY, pp_b2, pp_0, pp_1, pp_8, pp_eq, Nat.one_ne_zero, if_false, pp_lt, pp_ckE, pp_cl, pp_4, pp_5, pk_mul, nI_add, r11, g6, Nat.mul_one]
theorem pr_outF {F n p c cr tk : Nat} {τ : jj_S} (hn : n < 9) (hp : p < 5) (hc : c < 4) (N2 : f_rRef_isPlace F τ (nI n) (nI p) (nI c) = some (nI 1, τ)) (LD : f_rRef_leads F τ (nI n) (nI p) = some (nI 0, τ)) (e02 : τ 0 2 = nI cr) (htk : tk < 2) (r11 : τ 24 (4 * (5 * n + p) + c) = nI tk) : f_rRef_output F τ (nI n) (nI p) (nI c) = some (nI (cr + 8 * tk), τ) := by
  rcases (show tk = 0 ∨ tk = 1 by omega) with rfl | rfl
  · simp (disch := omega) only [f_rRef_output, N2, LD, e02, pp_b2, pp_0, pp_1, pp_eq, Nat.one_ne_zero, if_false, pp_lt, pp_ckE, pp_cl, pp_4, pp_5, pk_mul, nI_add, r11, if_true, Nat.mul_zero]
  · simp (disch := omega) only [f_rRef_output, N2, LD, e02, pp_b2, pp_0, pp_1, pp_8, pp_eq, Nat.one_ne_zero, if_false, if_true, pp_lt, pp_ckE, pp_cl, pp_4, pp_5, pk_mul, nI_add, r11, Nat.mul_one]
theorem qq_output {w h d v made cpl F : Nat} {σ τ : jj_S} (hD : qq_D w h d v) (hR : qq_Rel w h d v made cpl σ τ) (a b c : Int32) : qq_call w h d v (f_Mesh_output (w * h) (w * h * 6 * (2 * v)) (w * h * 6 * (2 * v) * d) F σ a b c) (f_rRef_output F τ a b c) := by
  have h9 := qq_n9 hD
  have hS := qq_S216 hD
  have hd4 : d ≤ 4 := hD.2.2.1.2
  have h2v : 2 * v ≤ 4 := by have := hD.2.2.2.2; omega
  have e4 := hR.1.1.2.2.2.2.1
  have e0 := hR.1.2.2.1.1
  have e01 := hR.1.2.2.1.2.1
  have e02 := hR.1.2.2.1.2.2.1
  rcases qq_place (F := F) (N := w * h) (S := w * h * 6 * (2 * v)) (SD := w * h * 6 * (2 * v) * d) hD hR a b c with ⟨n, p, c, hn, hp, hc, rfl, rfl, rfl, N1, N2⟩ | ⟨N1, N2⟩
  · obtain ⟨st, wy, tk, tn, r1, r2, r3, r4, r5, r6, r7, r8, r9, r10, r11, -⟩ := hR.2.2.2.2.2.2.1.1 n p c hn hp hc
    have hsl : qq_s (2 * v) n p c < w * h * 6 * (2 * v) := qq_s_lt hn (by omega) hc
    have LD := pr_leads (F := F) hD hn hp e0 e01
    rw [qq_l4 hp] at r11
    cases ho : qq_o w h n p with
    | true =>
      rw [if_pos ho] at LD
      obtain ⟨f1, f2, f3⟩ := qq_geo hD hn (show p < 6 by omega)
      obtain ⟨sz', fi', cr, bk, g1, g2, g3, g4, g5, g6, g7, g8, g9, -⟩ := hR.2.2.2.2.2.1 _ _ c f1 f2 hc
      rw [f3] at g5
      have g5 : σ 7 (qq_s (2 * v) n p c) = nI cr := g5
      have BY := pr_beyond (F := F) (c := c) hD hn hp (by omega) ho e0
      have hlb := (qq_l_lt (n := (qq_f w h n p).1) (sd := (qq_f w h n p).2) (c := c) (by omega) f2 (by omega)).1
      exact ⟨_, σ, τ, made, cpl, pc_out (by omega) hsl e4 N1 r3 r10 g5, pr_outT (by omega) hp (by omega) N2 LD BY hlb g6 r3 r11, hR⟩
    | false =>
      rw [if_neg (by rw [ho]; decide)] at LD
      have hself := qq_geo5 hD hn hp ho
      obtain ⟨sz', fi', cr, bk, g1, g2, g3, g4, g5, g6, g7, g8, g9, -⟩ := hR.2.2.2.2.2.1 n p c hn (by omega) hc
      rw [hself] at g5
      have g5 : σ 7 (qq_s (2 * v) n p c) = nI cr := g5
      have hll := (qq_l_lt (n := n) (sd := p) (c := c) (by omega) (by omega) (by omega)).1
      have E := (hR.2.2.2.2.2.2.2.1 (qq_l n p c) hll (fun n' sd' c' a1 a2 a3 a4 e => by
        obtain ⟨i1, i2, i3⟩ := qq_l_inj (by omega) (by omega) (by omega) (by omega) a2 (by omega) e
        rw [← i1, ← i2, ho] at a4
        exact Bool.noConfusion a4)).2.2.1
      rw [g6, pp_eq (by omega) (by omega)] at E
      rw [← E] at e02
      exact ⟨_, σ, τ, made, cpl, pc_out (by omega) hsl e4 N1 r3 r10 g5, pr_outF (by omega) hp (by omega) N2 LD e02 r3 r11, hR⟩
  · refine ⟨qq_m, σ, τ, made, cpl, ?_, ?_, hR⟩
    · simp (disch := omega) only [f_Mesh_output, N1, pp_b2, pp_0, pp_1, pp_n1, if_true]
    · simp (disch := omega) only [f_rRef_output, N2, pp_b2, pp_0, pp_1, pp_n1, if_true]
theorem pc_arrv {N S SD F n c C sz cr : Nat} {σ : jj_S} (hS : S ≤ 1000) (hsl : qq_s C n 5 c < S) (e4 : σ 1 4 = nI C) (N1 : f_Grid_hasNode N S SD F σ (nI n) = some (nI 1, σ)) (C1 : f_Grid_hasChannel N S SD F σ (nI c) = some (nI 1, σ)) (q3 : σ 6 (qq_s C n 5 c) = nI sz) (g5 : σ 7 (qq_s C n 5 c) = nI cr) : f_Mesh_arrival N S SD F σ (nI n) (nI c) = some (nI (sz + 8 * cr), σ) := by
  have SL := pc_slot (n := N) (S := S) (SD := SD) (F := F) (σ := σ) (C := C) (a := n) (b := 5) (c := c) e4
  unfold f_Mesh_arrival
  rw [N1, pp_b2]
  rw [if_neg (show ¬ (nI 1, σ).1 = 0 from nI_ne0 (by decide) (by decide))]
  show jj_b2 (f_Grid_hasChannel N S SD F σ (nI c)) _ = _
  rw [C1, pp_b2]
  rw [if_neg (show ¬ (nI 1, σ).1 = 0 from nI_ne0 (by decide) (by decide))]
  show jj_b2 (f_Grid_slot N S SD F σ (nI n) (nI 5) (nI c)) _ = _
  rw [SL, pp_b2]
  show jj_ck S (nI (qq_s C n 5 c)) (jj_ck S (nI (qq_s C n 5 c)) (some (σ 6 (nI (qq_s C n 5 c)).toNatClampNeg + 8 * σ 7 (nI (qq_s C n 5 c)).toNatClampNeg, σ))) = _
  rw [pp_ckE hsl (by omega), pp_ckE hsl (by omega), pp_cl (by omega), q3, g5, pp_8, pk_mul, nI_add]
theorem pr_place0 {F : Nat} {τ : jj_S} {a c : Int32} (N2 : f_rRef_isNode F τ a = some (nI 1, τ)) : f_rRef_isPlace F τ a 0 c = if c < 0 then some (nI 0, τ) else if τ 0 4 ≤ c then some (nI 0, τ) else some (nI 1, τ) := by
  unfold f_rRef_isPlace
  rw [N2, pp_b2]
  rw [if_neg (show ¬ (nI 1, τ).1 = 0 from nI_ne0 (by decide) (by decide)), if_neg (show ¬ (0 : Int32) < 0 by decide), if_neg (show ¬ (4 : Int32) < 0 by decide)]
  rfl
theorem pr_arrv {F n c C sz cr : Nat} {τ : jj_S} (hn : n < 9) (hc : c < C) (hC : C ≤ 4) (r4 : τ 0 4 = nI C) (N2 : f_rRef_isNode F τ (nI n) = some (nI 1, τ)) (q5 : τ 17 (180 + 4 * n + c) = nI sz) (g6 : τ 20 (20 * n + c) = nI cr) : f_rRef_arrival F τ (nI n) (nI c) = some (nI (sz + 8 * cr), τ) := by
  have PL : f_rRef_isPlace F τ (nI n) 0 (nI c) = some (nI 1, τ) := by
    rw [pr_place0 N2, if_neg (nI_pos (by omega)), r4, if_neg (by rw [pp_le (by omega) (by omega)]; omega)]
  unfold f_rRef_arrival
  rw [PL, pp_b2]
  simp (disch := omega) only [pp_0, pp_eq, Nat.one_ne_zero, if_false, pp_4, pp_180, pp_20, pp_8, pk_mul, nI_add, pp_ckE, pp_cl, q5, g6]
theorem qq_arrival {w h d v made cpl F : Nat} {σ τ : jj_S} (hD : qq_D w h d v) (hR : qq_Rel w h d v made cpl σ τ) (a b : Int32) : qq_call w h d v (f_Mesh_arrival (w * h) (w * h * 6 * (2 * v)) (w * h * 6 * (2 * v) * d) F σ a b) (f_rRef_arrival F τ a b) := by
  have h9 := qq_n9 hD
  have hS := qq_S216 hD
  have h2v : 2 * v ≤ 4 := by have := hD.2.2.2.2; omega
  have e4 := hR.1.1.2.2.2.2.1
  have r4 := hR.1.2.2.1.2.2.2.2
  rcases qq_node (F := F) (N := w * h) (S := w * h * 6 * (2 * v)) (SD := w * h * 6 * (2 * v) * d) hD hR a with ⟨n, hn, rfl, N1, N2⟩ | ⟨N1, N2⟩
  · rcases qq_chan (F := F) (N := w * h) (S := w * h * 6 * (2 * v)) (SD := w * h * 6 * (2 * v) * d) hD hR b with ⟨c, hc, rfl, C1⟩ | ⟨C1, C2⟩
    · have hsl : qq_s (2 * v) n 5 c < w * h * 6 * (2 * v) := qq_s_lt hn (by omega) hc
      obtain ⟨sz, fi, q1, q2, q3, q4, q5, q6⟩ := qq_Lsz hR.2.2.2.2.2.1 hn (show 5 < 6 by omega) hc
      obtain ⟨sz', fi', cr, bk, g1, g2, g3, g4, g5, g6, g7, g8, g9, -⟩ := hR.2.2.2.2.2.1 n 0 c hn (by omega) hc
      have g5 : σ 7 (qq_s (2 * v) n 5 c) = nI cr := g5
      rw [qq_l5] at q5
      rw [qq_l4 (by decide), show 4 * (5 * n + 0) + c = 20 * n + c by omega] at g6
      exact ⟨_, σ, τ, made, cpl, pc_arrv (by omega) hsl e4 N1 C1 q3 g5, pr_arrv (by omega) hc h2v r4 N2 q5 g6, hR⟩
    · have PL : f_rRef_isPlace F τ (nI n) 0 b = some (nI 0, τ) := by
        rw [pr_place0 N2]
        rcases C2 with C2 | ⟨C2, C3⟩
        · rw [if_pos C2]
        · rw [if_neg C2, r4, if_pos C3]
      refine ⟨qq_m, σ, τ, made, cpl, ?_, ?_, hR⟩
      · unfold f_Mesh_arrival
        rw [N1, pp_b2]
        rw [if_neg (show ¬ (nI 1, σ).1 = 0 from nI_ne0 (by decide) (by decide))]
        show jj_b2 (f_Grid_hasChannel (w * h) (w * h * 6 * (2 * v)) (w * h * 6 * (2 * v) * d) F σ b) _ = _
        rw [C1, pp_b2]
        rw [if_pos (show (nI 0, σ).1 = 0 from rfl)]
        rfl
      · unfold f_rRef_arrival
        rw [PL, pp_b2]
        rw [if_pos (show (nI 0, τ).1 = 0 from rfl)]
        rfl
  · refine ⟨qq_m, σ, τ, made, cpl, ?_, ?_, hR⟩
    · simp (disch := omega) only [f_Mesh_arrival, N1, pp_b2, pp_0, pp_1, pp_n1, if_true]
    · simp (disch := omega) only [f_rRef_arrival, f_rRef_isPlace, N2, pp_b2, pp_0, pp_1, pp_n1, if_true]
theorem qq_nodes {w h d v made cpl F N S SD : Nat} {σ τ : jj_S} (hR : qq_Rel w h d v made cpl σ τ) : qq_call w h d v (f_Mesh_nodes N S SD F σ) (f_rRef_nodes F τ) :=
  ⟨σ 1 5, σ, τ, made, cpl, rfl, by unfold f_rRef_nodes; rw [hR.1.2.2.1.1, hR.1.2.2.1.2.1, pk_mul, hR.1.1.2.2.2.2.2], hR⟩
theorem qq_ticks {w h d v made cpl F N S SD : Nat} {σ τ : jj_S} (hR : qq_Rel w h d v made cpl σ τ) : qq_call w h d v (f_Mesh_ticks N S SD F σ) (f_rRef_ticks F τ) :=
  ⟨σ 0 5, σ, τ, made, cpl, rfl, by unfold f_rRef_ticks; rw [hR.2.1.2.2.2.2.1], hR⟩
theorem qq_replies {w h d v made cpl F N S SD : Nat} {σ τ : jj_S} (hR : qq_Rel w h d v made cpl σ τ) : qq_call w h d v (f_Mesh_replies N S SD F σ) (f_rRef_replies F τ) :=
  ⟨σ 17 2, σ, τ, made, cpl, rfl, by unfold f_rRef_replies; rw [hR.2.1.2.2.1, hR.2.1.2.2.2.1], hR⟩
theorem qq_sent {w h d v made cpl F N S SD : Nat} {σ τ : jj_S} (hR : qq_Rel w h d v made cpl σ τ) : qq_call w h d v (f_Mesh_sent N S SD F σ) (f_rRef_sent F τ) :=
  ⟨σ 2 8, σ, τ, made, cpl, rfl, by unfold f_rRef_sent; rw [hR.2.1.2.2.2.2.2], hR⟩
