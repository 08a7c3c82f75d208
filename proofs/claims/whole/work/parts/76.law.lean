/-! THE LAW: over the whole script -/
theorem pp_end {L p : Nat} (hL : L ≤ 3076) (hp : p ≤ 4000) : (nI L - (6 : Int32) < nI p) ↔ L < p + 6 := by
  by_cases h6 : 6 ≤ L
  · rw [pp_6, pp_subN h6, pp_ltN (by omega) (by omega)]
    omega
  · have h0 : nI L - (6 : Int32) < 0 := by
      rcases (show L = 0 ∨ L = 1 ∨ L = 2 ∨ L = 3 ∨ L = 4 ∨ L = 5 by omega) with rfl | rfl | rfl | rfl | rfl | rfl <;> decide
    exact ⟨fun _ => by omega, fun _ => pp_neglt h0 (by omega)⟩
/-- one turn's call -/
theorem qq_turn {w h d v : Nat} {o1 o2 : Option (Int32 × jj_S)} {rec : jj_S → jj_S → Int32 → Option Unit} {y : Int32} (hc : qq_call w h d v o1 o2) (ih : ∀ σ' τ' made' cpl', qq_Rel w h d v made' cpl' σ' τ' → rec σ' τ' y = some ()) : jj_b2 o1 (fun r σ' => jj_b2 o2 (fun r' τ' => if r = r' then rec σ' τ' y else none)) = some () := by
  obtain ⟨r, σ', τ', made', cpl', rfl, rfl, hR⟩ := hc
  show (if r = r then rec σ' τ' y else none) = some ()
  rw [if_pos rfl]
  exact ih σ' τ' made' cpl' hR
set_option maxHeartbeats 2000000 in
theorem qq_lawturn {w h d v made cpl F L p : Nat} {xs : Nat → Int32} {rec : jj_S → jj_S → Int32 → Option Unit} {σ τ : jj_S} (hF : 300 ≤ F) (hL : L ≤ 3076) (hp : p + 6 ≤ L) (hD : qq_D w h d v) (hR : qq_Rel w h d v made cpl σ τ) (ih : ∀ σ' τ' made' cpl', qq_Rel w h d v made' cpl' σ' τ' → rec σ' τ' (nI (p + 6)) = some ()) : b_law (w * h) (w * h * 6 * (2 * v)) (w * h * 6 * (2 * v) * d) F L xs rec σ τ (nI p) = some () := by
  have hend : ¬ (nI L - (6 : Int32) < nI p) := fun q => by
    have := (pp_end hL (by omega)).mp q
    omega
  have c0 : ∀ {β : Type} (o : Option β), jj_ck L (nI p) o = o := fun o => pp_ckE (by omega) (by omega)
  have q0 : (nI p).toNatClampNeg = p := pp_cl (by omega)
  have a1 : nI p + (1 : Int32) = nI (p + 1) := by rw [pp_1, nI_add]
  have a2 : nI p + (2 : Int32) = nI (p + 2) := by rw [pp_2, nI_add]
  have a3 : nI p + (3 : Int32) = nI (p + 3) := by rw [pp_3, nI_add]
  have a4 : nI p + (4 : Int32) = nI (p + 4) := by rw [pp_4, nI_add]
  have a5 : nI p + (5 : Int32) = nI (p + 5) := by rw [pp_5, nI_add]
  have a6 : nI p + (6 : Int32) = nI (p + 6) := by rw [pp_6, nI_add]
  have c1 : ∀ {β : Type} (o : Option β), jj_ck L (nI (p + 1)) o = o := fun o => pp_ckE (by omega) (by omega)
  have c2 : ∀ {β : Type} (o : Option β), jj_ck L (nI (p + 2)) o = o := fun o => pp_ckE (by omega) (by omega)
  have c3 : ∀ {β : Type} (o : Option β), jj_ck L (nI (p + 3)) o = o := fun o => pp_ckE (by omega) (by omega)
  have c4 : ∀ {β : Type} (o : Option β), jj_ck L (nI (p + 4)) o = o := fun o => pp_ckE (by omega) (by omega)
  have c5 : ∀ {β : Type} (o : Option β), jj_ck L (nI (p + 5)) o = o := fun o => pp_ckE (by omega) (by omega)
  have q1 : (nI (p + 1)).toNatClampNeg = p + 1 := pp_cl (by omega)
  have q2 : (nI (p + 2)).toNatClampNeg = p + 2 := pp_cl (by omega)
  have q3 : (nI (p + 3)).toNatClampNeg = p + 3 := pp_cl (by omega)
  have q4 : (nI (p + 4)).toNatClampNeg = p + 4 := pp_cl (by omega)
  have q5 : (nI (p + 5)).toNatClampNeg = p + 5 := pp_cl (by omega)
  unfold b_law
  rw [if_neg hend, c0, q0]
  simp only [a1, a2, a3, a4, a5, a6, c1, c2, c3, c4, c5, q1, q2, q3, q4, q5]
  by_cases h0 : xs p &&& (15 : Int32) = (0 : Int32)
  · rw [if_pos h0]
    exact qq_turn (qq_nodes hR) ih
  rw [if_neg h0]
  by_cases h1 : xs p &&& (15 : Int32) = (1 : Int32)
  · rw [if_pos h1]
    by_cases e : xs (p + 3) = 0
    · rw [if_pos e]
      exact qq_turn (qq_request (x := 0) hD hR (by decide) _ _ _ _) ih
    · rw [if_neg e]
      exact qq_turn (qq_request (x := 1) hD hR (by decide) _ _ _ _) ih
  rw [if_neg h1]
  by_cases h2 : xs p &&& (15 : Int32) = (2 : Int32)
  · rw [if_pos h2]
    by_cases e : xs (p + 2) = 0
    · rw [if_pos e]
      exact qq_turn (qq_hold hD hR _ _) ih
    · rw [if_neg e]
      exact qq_turn (qq_hold hD hR _ _) ih
  rw [if_neg h2]
  by_cases h3 : xs p &&& (15 : Int32) = (3 : Int32)
  · rw [if_pos h3]
    exact qq_turn (qq_run hF hD hR _) ih
  rw [if_neg h3]
  by_cases h4 : xs p &&& (15 : Int32) = (4 : Int32)
  · rw [if_pos h4]
    exact qq_turn (qq_ticks hR) ih
  rw [if_neg h4]
  by_cases h5 : xs p &&& (15 : Int32) = (5 : Int32)
  · rw [if_pos h5]
    exact qq_turn (qq_replies hR) ih
  rw [if_neg h5]
  by_cases h6 : xs p &&& (15 : Int32) = (6 : Int32)
  · rw [if_pos h6]
    exact qq_turn (qq_reply hR _ _) ih
  rw [if_neg h6]
  by_cases h7 : xs p &&& (15 : Int32) = (7 : Int32)
  · rw [if_pos h7]
    exact qq_turn (qq_memory hD hR _ _) ih
  rw [if_neg h7]
  by_cases h8 : xs p &&& (15 : Int32) = (8 : Int32)
  · rw [if_pos h8]
    exact qq_turn (qq_waiting hD hR _) ih
  rw [if_neg h8]
  by_cases h9 : xs p &&& (15 : Int32) = (9 : Int32)
  · rw [if_pos h9]
    exact qq_turn (qq_lane_c hD hR _ _ _) ih
  rw [if_neg h9]
  by_cases h10 : xs p &&& (15 : Int32) = (10 : Int32)
  · rw [if_pos h10]
    exact qq_turn (qq_output hD hR _ _ _) ih
  rw [if_neg h10]
  by_cases h11 : xs p &&& (15 : Int32) = (11 : Int32)
  · rw [if_pos h11]
    exact qq_turn (qq_arrival hD hR _ _) ih
  rw [if_neg h11]
  by_cases h12 : xs p &&& (15 : Int32) = (12 : Int32)
  · rw [if_pos h12]
    exact qq_turn (qq_sent hR) ih
  rw [if_neg h12]
  exact ih σ τ made cpl hR
theorem qq_law {w h d v F L : Nat} {xs : Nat → Int32} (hF : 300 ≤ F) (hL : L ≤ 3076) (hD : qq_D w h d v) : ∀ (k p : Nat) (σ τ : jj_S) (made cpl : Nat), p ≤ 3100 → L < p + 6 * (k + 1) → qq_Rel w h d v made cpl σ τ → jl_lp (b_law (w * h) (w * h * 6 * (2 * v)) (w * h * 6 * (2 * v) * d) F L xs) (k + 1) σ τ (nI p) = some () := by
  intro k
  induction k with
  | zero =>
    intro p σ τ made cpl hp hk hR
    show b_law (w * h) (w * h * 6 * (2 * v)) (w * h * 6 * (2 * v) * d) F L xs _ σ τ (nI p) = some ()
    unfold b_law
    rw [if_pos ((pp_end hL (by omega)).mpr (by omega))]
  | succ k ih =>
    intro p σ τ made cpl hp hk hR
    show b_law (w * h) (w * h * 6 * (2 * v)) (w * h * 6 * (2 * v) * d) F L xs (jl_lp (b_law (w * h) (w * h * 6 * (2 * v)) (w * h * 6 * (2 * v) * d) F L xs) (k + 1)) σ τ (nI p) = some ()
    by_cases hx : L < p + 6
    · unfold b_law
      rw [if_pos ((pp_end hL (by omega)).mpr hx)]
    · exact qq_lawturn hF hL (by omega) hD hR (fun σ' τ' made' cpl' hR' => ih (p + 6) σ' τ' made' cpl' (by omega) (by omega) hR')
