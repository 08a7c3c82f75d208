/-! THE PARTS TAKING AND SENDING, whole -/
theorem qq_takeAll {w h d v made cpl F : Nat} {σ τ : jj_S} {x : Int32} {K : jj_S → Int32 → Int32 → Option jj_S} (hF : 300 ≤ F) (hD : qq_D w h d v) (hR : qq_Rel w h d v made cpl σ τ) (hx : x = τ 0 15) :
    ∃ (σ' τ' : jj_S) (cpl' : Nat), f_Ifs_takeAll (w * h) (w * h * 6 * (2 * v)) (w * h * 6 * (2 * v) * d) F σ x = some σ' ∧ jj_lp2 (b_rRef_tick_31 F K) F τ (nI (w * h)) (nI 0) = K τ' (nI (w * h)) (nI (w * h)) ∧ qq_Rel w h d v made cpl' σ' τ' ∧ τ' 0 15 = x := by
  have h9 := qq_n9 hD
  have h2v : 2 * v ≤ 4 := by have := hD.2.2.2.2; omega
  unfold f_Ifs_takeAll
  rw [pp_0]
  refine pp_w22 (P := fun o1 o2 => ∃ (σ' τ' : jj_S) (cpl' : Nat), o1 = some σ' ∧ o2 = K τ' (nI (w * h)) (nI (w * h)) ∧ qq_Rel w h d v made cpl' σ' τ' ∧ τ' 0 15 = x) (I := fun _ σ1 τ1 => ∃ c, qq_Rel w h d v made c σ1 τ1 ∧ τ1 0 15 = x) (e := w * h) ?_ ?_ F F 0 σ τ (by omega) (by omega) (by omega) ⟨cpl, hR, hx.symm⟩
  · intro rec rec' σ1 τ1 ⟨c, hR1, h15⟩
    have e5 := hR1.1.1.2.2.2.2.2
    simp (disch := omega) only [b_Ifs_takeAll_2, b_rRef_tick_31, e5, pp_le, Nat.le_refl, if_true]
    exact ⟨σ1, τ1, c, rfl, rfl, hR1, h15⟩
  · intro rec rec' i σ1 τ1 hi ⟨c, hR1, h15⟩ ih
    have e5 := hR1.1.1.2.2.2.2.2
    have hni : ¬ (w * h ≤ i) := by omega
    simp (disch := omega) only [b_Ifs_takeAll_2, b_rRef_tick_31, e5, pp_le, hni, if_false, pp_0]
    refine pp_w33 (P := fun o1 o2 => ∃ (σ' τ' : jj_S) (cpl' : Nat), o1 = some σ' ∧ o2 = K τ' (nI (w * h)) (nI (w * h)) ∧ qq_Rel w h d v made cpl' σ' τ' ∧ τ' 0 15 = x) (I := fun _ σ1 τ1 => ∃ c, qq_Rel w h d v made c σ1 τ1 ∧ τ1 0 15 = x) (e := 2 * v) ?_ ?_ F F 0 σ1 τ1 (by omega) (by omega) (by omega) ⟨c, hR1, h15⟩
    · intro rec2 rec2' σ2 τ2 ⟨c2, hR2, h15'⟩
      have e4 := hR2.1.1.2.2.2.2.1
      have r4 := hR2.1.2.2.1.2.2.2.2
      simp (disch := omega) only [b_Ifs_takeAll_15, b_rRef_tick_38, e4, r4, pp_le, Nat.le_refl, if_true, pp_1, nI_add]
      exact ih σ2 τ2 ⟨c2, hR2, h15'⟩
    · intro rec2 rec2' j σ2 τ2 hj ⟨c2, hR2, h15'⟩ ih2
      have r4 := hR2.1.2.2.1.2.2.2.2
      have hnj : ¬ (2 * v ≤ j) := by omega
      obtain ⟨σ', τ', cpl', k1, k2, k3, k4⟩ := qq_takeAt (F := F) (n := i) (c := j) hF hD hR2 hi hj h15'.symm
      rw [k1]
      simp (disch := omega) only [b_rRef_tick_38, r4, pp_le, hnj, if_false, k2, pp_b1, pp_1, nI_add]
      exact ih2 σ' τ' ⟨cpl', k3, by rw [k4]; exact h15'⟩
theorem qq_sendAll {w h d v made cpl F : Nat} {σ τ : jj_S} {K : jj_S → Int32 → Int32 → Option jj_S} (hF : 300 ≤ F) (hD : qq_D w h d v) (hR : qq_Rel w h d v made cpl σ τ) :
    ∃ (σ' τ' : jj_S), f_Ifs_sendAll (w * h) (w * h * 6 * (2 * v)) (w * h * 6 * (2 * v) * d) F σ = some σ' ∧ jj_lp2 (b_rRef_tick_66 F K) F τ (nI (w * h)) (nI 0) = K τ' (nI (w * h)) (nI (w * h)) ∧ qq_Rel w h d v made cpl σ' τ' ∧ τ' 0 15 = τ 0 15 := by
  have h9 := qq_n9 hD
  unfold f_Ifs_sendAll
  rw [pp_0]
  refine pp_w12 (P := fun o1 o2 => ∃ (σ' τ' : jj_S), o1 = some σ' ∧ o2 = K τ' (nI (w * h)) (nI (w * h)) ∧ qq_Rel w h d v made cpl σ' τ' ∧ τ' 0 15 = τ 0 15) (I := fun _ σ1 τ1 => qq_Rel w h d v made cpl σ1 τ1 ∧ τ1 0 15 = τ 0 15) (e := w * h) ?_ ?_ F F 0 σ τ (by omega) (by omega) (by omega) ⟨hR, rfl⟩
  · intro rec rec' σ1 τ1 ⟨hR1, h15⟩
    have e5 := hR1.1.1.2.2.2.2.2
    simp (disch := omega) only [b_Ifs_sendAll_2, b_rRef_tick_66, e5, pp_le, Nat.le_refl, if_true]
    exact ⟨σ1, τ1, rfl, rfl, hR1, h15⟩
  · intro rec rec' i σ1 τ1 hi ⟨hR1, h15⟩ ih
    have e5 := hR1.1.1.2.2.2.2.2
    have hni : ¬ (w * h ≤ i) := by omega
    rcases qq_sndp (F := F) (n := i) hF hD hR1 hi with ⟨a1, a2⟩ | ⟨σ', τ', a1, a2, a3, a4⟩
    · rcases qq_sndq (F := F) (n := i) hF hD hR1 hi with ⟨b1, b2⟩ | ⟨σ', τ', b1, b2, b3, b4⟩
      · simp (disch := omega) only [b_Ifs_sendAll_2, b_rRef_tick_66, e5, pp_le, hni, if_false, a1, a2, b1, b2, pp_b2, pp_b1, pp_0, if_true, pp_1, nI_add]
        exact ih σ1 τ1 ⟨hR1, h15⟩
      · simp (disch := omega) only [b_Ifs_sendAll_2, b_rRef_tick_66, e5, pp_le, hni, if_false, a1, a2, b1, b2, pp_b2, pp_b1, pp_0, if_true, pp_1, nI_add]
        exact ih σ' τ' ⟨b3, by rw [b4]; exact h15⟩
    · simp (disch := omega) only [b_Ifs_sendAll_2, b_rRef_tick_66, e5, pp_le, hni, if_false, a1, a2, pp_b2, pp_b1, pp_0, pp_1, pp_eq, Nat.one_ne_zero, nI_add]
      exact ih σ' τ' ⟨a3, by rw [a4]; exact h15⟩
