/-! ARRIVAL -/
def qq_ar (S d : Nat) (fi sz : Nat → Nat) (σ σ' : jj_S) (i : Nat) : Prop :=
  (∀ s, s < i → σ' 8 s = qq_m ∧ σ' 9 s = nI 0 ∧ σ' 7 s = σ 7 s + σ 9 s ∧ (σ 8 s = qq_m → σ' 6 s = σ 6 s ∧ ∀ j, j < d → σ' 4 (s * d + j) = σ 4 (s * d + j)) ∧ (σ 8 s ≠ qq_m → σ' 6 s = nI (sz s + 1) ∧ ∀ j, j < d → σ' 4 (s * d + j) = if j = (fi s + sz s) % d then σ 8 s else σ 4 (s * d + j))) ∧
  (∀ s, i ≤ s → s < S → σ' 8 s = σ 8 s ∧ σ' 9 s = σ 9 s ∧ σ' 7 s = σ 7 s ∧ σ' 6 s = σ 6 s ∧ ∀ j, j < d → σ' 4 (s * d + j) = σ 4 (s * d + j)) ∧ σ' 2 8 = nI 0 ∧ σ' 2 0 = σ 2 0 ∧ ∀ k, k ≠ 2 → k ≠ 4 → k ≠ 6 → k ≠ 7 → k ≠ 8 → k ≠ 9 → σ' k = σ k
set_option maxHeartbeats 1000000 in
theorem pc_arrive {n S d F : Nat} {σ : jj_S} {fi sz : Nat → Nat} (hd : 1 ≤ d) (hd4 : d ≤ 4) (hS : S ≤ 216) (hF : 300 ≤ F) (e0 : σ 2 0 = nI d) (e5 : ∀ s, s < S → σ 5 s = nI (fi s) ∧ fi s < d) (e6 : ∀ s, s < S → σ 6 s = nI (sz s) ∧ sz s ≤ 4) : pp_S (f_Links_arriveAll n S (S * d) F σ) (fun σ' => qq_ar S d fi sz σ σ' S) := by
  simp only [f_Links_arriveAll, pp_st, pp_0]
  refine pp_lp1 (e := S) (I := fun i σ' => qq_ar S d fi sz σ σ' i) ?_ ?_ F 0 _ (by omega) (by omega) ?_
  · intro rec σ' h
    simp (disch := omega) only [b_Links_arriveAll_7, Nat.le_refl, pp_le, if_true]
    exact pp_some h
  · intro rec i τ hi ⟨h1, h2, h3, h4, h5⟩ ih
    obtain ⟨g8, g9, g7, g6, g4⟩ := h2 i (Nat.le_refl _) hi
    obtain ⟨a5, a5'⟩ := e5 i hi
    obtain ⟨a6, a6'⟩ := e6 i hi
    have t5 : τ 5 i = nI (fi i) := by rw [h5 5 (by decide) (by decide) (by decide) (by decide) (by decide) (by decide)]; exact a5
    have t6 : τ 6 i = nI (sz i) := by rw [g6]; exact a6
    have t0 : τ 2 0 = nI d := by rw [h4]; exact e0
    have hm : (fi i + sz i) % d < d := Nat.mod_lt _ (by omega)
    have hx : i * d + (fi i + sz i) % d < S * d := qq_sd_lt hi hm
    have hSd : S * d ≤ 216 * 4 := Nat.mul_le_mul hS hd4
    have hn : ¬ (S ≤ i) := by omega
    by_cases h8 : σ 8 i = qq_m
    · have t8 : τ 8 i = qq_m := by rw [g8]; exact h8
      simp (disch := omega) only [b_Links_arriveAll_7, pp_le, hn, if_false, pp_ckE, pp_cl, pp_1, pp_n1, t8, if_true, pp_st, nI_add, jj_up_ne, pp_0]
      refine ih _ ⟨?_, ?_, ?_, ?_, ?_⟩
      · intro s hs
        by_cases hsi : s = i
        · subst hsi
          simp (disch := omega) only [jj_up_ne, jj_up_same, pk_us]
          refine ⟨t8, trivial, by rw [g7, g9], fun _ => ⟨g6, g4⟩, fun hh => absurd h8 hh⟩
        · simp (disch := omega) only [jj_up_ne, jj_up_same, pk_un]
          exact h1 s (by omega)
      · intro s hs1 hs2
        simp (disch := omega) only [jj_up_ne, jj_up_same, pk_un]
        exact h2 s (by omega) hs2
      · simp (disch := omega) only [jj_up_ne]; exact h3
      · simp (disch := omega) only [jj_up_ne]; exact h4
      · intro k k2 k4 k6 k7 k8 k9
        rw [jj_up_ne k9, jj_up_ne k7]; exact h5 k k2 k4 k6 k7 k8 k9
    · have t8 : ¬ τ 8 i = qq_m := by rw [g8]; exact h8
      simp (disch := omega) only [b_Links_arriveAll_7, pp_le, hn, if_false, pp_ckE, pp_nzE, pp_cl, pp_1, pp_n1, t8, pp_st, nI_add, pk_mul, jj_up_ne, pp_0, t0, t5, t6, pp_rem]
      refine ih _ ⟨?_, ?_, ?_, ?_, ?_⟩
      · intro s hs
        by_cases hsi : s = i
        · subst hsi
          simp (disch := omega) only [jj_up_ne, jj_up_same, pk_us]
          refine ⟨trivial, trivial, by rw [g7, g9], fun hh => absurd hh h8, fun _ => ⟨trivial, fun j hj => ?_⟩⟩
          by_cases hjm : j = (fi s + sz s) % d
          · subst hjm
            rw [pk_us, if_pos rfl, g8]
          · rw [if_neg hjm, pk_un (fun e => hjm (qq_dj hj hm e).2)]
            exact g4 j hj
        · simp (disch := omega) only [jj_up_ne, jj_up_same, pk_un]
          obtain ⟨b1, b2, b3, b4, b5⟩ := h1 s (by omega)
          refine ⟨b1, b2, b3, fun hh => ⟨(b4 hh).1, fun j hj => ?_⟩, fun hh => ⟨(b5 hh).1, fun j hj => ?_⟩⟩
          · rw [pk_un (fun e => hsi (qq_dj hj hm e).1)]; exact (b4 hh).2 j hj
          · rw [pk_un (fun e => hsi (qq_dj hj hm e).1)]; exact (b5 hh).2 j hj
      · intro s hs1 hs2
        simp (disch := omega) only [jj_up_ne, jj_up_same, pk_un]
        obtain ⟨b1, b2, b3, b4, b5⟩ := h2 s (by omega) hs2
        refine ⟨b1, b2, b3, b4, fun j hj => ?_⟩
        rw [pk_un (fun e => absurd (qq_dj hj hm e).1 (by omega))]; exact b5 j hj
      · simp (disch := omega) only [jj_up_ne]; exact h3
      · simp (disch := omega) only [jj_up_ne]; exact h4
      · intro k k2 k4 k6 k7 k8 k9
        rw [jj_up_ne k9, jj_up_ne k7, jj_up_ne k8, jj_up_ne k6, jj_up_ne k4]; exact h5 k k2 k4 k6 k7 k8 k9
  · refine ⟨fun s hs => absurd hs (by omega), fun s _ hs => ?_, ?_, ?_, ?_⟩
    · simp (disch := omega) only [jj_up_ne]
      exact ⟨trivial, trivial, trivial, trivial, fun _ _ => trivial⟩
    · simp (disch := omega) only [jj_up_same, pk_us]
    · simp (disch := omega) only [jj_up_same, pk_un]
    · intro k k2 k4 k6 k7 k8 k9
      rw [jj_up_ne k2]
def qq_rr (sz : Nat → Nat) (τ τ' : jj_S) (i : Nat) : Prop :=
  (∀ l, l < i → τ' 19 l = qq_m ∧ τ' 21 l = nI 0 ∧ τ' 20 l = τ 20 l + τ 21 l ∧ (τ 19 l = qq_m → τ' 17 l = τ 17 l ∧ ∀ j, j < 4 → τ' 18 (4 * l + j) = τ 18 (4 * l + j)) ∧ (τ 19 l ≠ qq_m → τ' 17 l = nI (sz l + 1) ∧ ∀ j, j < 4 → τ' 18 (4 * l + j) = if j = sz l then τ 19 l else τ 18 (4 * l + j))) ∧
  (∀ l, i ≤ l → l < 216 → τ' 19 l = τ 19 l ∧ τ' 21 l = τ 21 l ∧ τ' 20 l = τ 20 l ∧ τ' 17 l = τ 17 l ∧ ∀ j, j < 4 → τ' 18 (4 * l + j) = τ 18 (4 * l + j)) ∧ ∀ k, k ≠ 17 → k ≠ 18 → k ≠ 19 → k ≠ 20 → k ≠ 21 → τ' k = τ k
set_option maxHeartbeats 1000000 in
theorem pr_arrive {F : Nat} {τ : jj_S} {sz : Nat → Nat} (hF : 300 ≤ F) (e17 : ∀ l, l < 216 → τ 17 l = nI (sz l) ∧ sz l ≤ 4) (e19 : ∀ l, l < 216 → τ 19 l = qq_m ∨ (¬ τ 19 l < 0 ∧ sz l ≤ 3)) : pp_S (f_rRef_arrive F τ) (fun τ' => qq_rr sz τ τ' 216) := by
  simp only [f_rRef_arrive, pp_0]
  refine pp_lp1 (e := 216) (I := fun i τ' => qq_rr sz τ τ' i) ?_ ?_ F 0 _ (by omega) (by omega) ?_
  · intro rec τ' h
    simp (disch := omega) only [b_rRef_arrive_2, pp_216, Nat.le_refl, pp_le, if_true]
    exact pp_some h
  · intro rec i ρ hi ⟨h1, h2, h5⟩ ih
    obtain ⟨g8, g9, g7, g6, g4⟩ := h2 i (Nat.le_refl _) hi
    obtain ⟨a6, a6'⟩ := e17 i hi
    have t6 : ρ 17 i = nI (sz i) := by rw [g6]; exact a6
    have hn : ¬ (216 ≤ i) := by omega
    by_cases h8 : τ 19 i = qq_m
    · have t8 : ρ 19 i = qq_m := by rw [g8]; exact h8
      simp (disch := omega) only [b_rRef_arrive_2, pp_216, pp_le, hn, if_false, pp_ckE, pp_cl, pp_1, pp_n1, t8, pp_0, pp_mlt, if_true, pp_st, nI_add, jj_up_ne]
      refine ih _ ⟨?_, ?_, ?_⟩
      · intro s hs
        by_cases hsi : s = i
        · subst hsi
          simp (disch := omega) only [jj_up_ne, jj_up_same, pk_us]
          refine ⟨t8, trivial, by rw [g7, g9], fun _ => ⟨g6, g4⟩, fun hh => absurd h8 hh⟩
        · simp (disch := omega) only [jj_up_ne, jj_up_same, pk_un]
          exact h1 s (by omega)
      · intro s hs1 hs2
        simp (disch := omega) only [jj_up_ne, jj_up_same, pk_un]
        exact h2 s (by omega) hs2
      · intro k k2 k4 k6 k7 k8
        rw [jj_up_ne k8, jj_up_ne k7]; exact h5 k k2 k4 k6 k7 k8
    · obtain ⟨hp, h3'⟩ := (e19 i hi).resolve_left h8
      have t8 : ¬ ρ 19 i < nI 0 := by rw [g8]; exact hp
      simp (disch := omega) only [b_rRef_arrive_2, pp_216, pp_le, hn, if_false, pp_ckE, pp_cl, pp_0, pp_1, pp_n1, t8, pp_st, pp_4, nI_add, pk_mul, jj_up_ne, t6]
      refine ih _ ⟨?_, ?_, ?_⟩
      · intro s hs
        by_cases hsi : s = i
        · subst hsi
          simp (disch := omega) only [jj_up_ne, jj_up_same, pk_us]
          refine ⟨trivial, trivial, by rw [g7, g9], fun hh => absurd hh h8, fun _ => ⟨trivial, fun j hj => ?_⟩⟩
          by_cases hjm : j = sz s
          · subst hjm
            rw [pk_us, if_pos rfl, g8]
          · rw [if_neg hjm, pk_un (by omega)]
            exact g4 j hj
        · simp (disch := omega) only [jj_up_ne, jj_up_same, pk_un]
          obtain ⟨b1, b2, b3, b4, b5⟩ := h1 s (by omega)
          refine ⟨b1, b2, b3, fun hh => ⟨(b4 hh).1, fun j hj => ?_⟩, fun hh => ⟨(b5 hh).1, fun j hj => ?_⟩⟩
          · rw [pk_un (by omega)]; exact (b4 hh).2 j hj
          · rw [pk_un (by omega)]; exact (b5 hh).2 j hj
      · intro s hs1 hs2
        simp (disch := omega) only [jj_up_ne, jj_up_same, pk_un]
        obtain ⟨b1, b2, b3, b4, b5⟩ := h2 s (by omega) hs2
        exact ⟨b1, b2, b3, b4, fun j hj => b5 j hj⟩
      · intro k k2 k4 k6 k7 k8
        rw [jj_up_ne k8, jj_up_ne k7, jj_up_ne k6, jj_up_ne k2, jj_up_ne k4]; exact h5 k k2 k4 k6 k7 k8
  · exact ⟨fun s hs => absurd hs (by omega), fun s _ hs => ⟨rfl, rfl, rfl, rfl, fun _ _ => rfl⟩, fun k _ _ _ _ _ => rfl⟩
