/-! ROUTING -/
def qq_wy (w n t : Nat) : Nat := if n % w < t % w then 1 else if t % w < n % w then 2 else if n / w < t / w then 3 else if t / w < n / w then 4 else 0
theorem pp_dint {a b : Nat} (ha : a ≤ 1000) (hb : b ≤ 1000) : (nI a - nI b).toInt = (a : Int) - b := pk_sub_toInt (by omega) (by omega)
theorem pp_d0 {a b : Nat} (ha : a ≤ 1000) (hb : b ≤ 1000) : (nI a - nI b = nI 0) = (a = b) := by
  apply propext
  constructor
  · intro h
    have h1 := congrArg Int32.toInt h
    rw [pp_dint ha hb, nI_toInt (by decide)] at h1
    omega
  · intro h
    subst h
    apply Int32.toInt_inj.mp
    rw [pp_dint ha hb, nI_toInt (by decide)]
    omega
theorem pp_dle {a b : Nat} (ha : a ≤ 1000) (hb : b ≤ 1000) : (nI a - nI b ≤ nI 0) = (a ≤ b) := by
  apply propext
  rw [Int32.le_iff_toInt_le, pp_dint ha hb, nI_toInt (by decide)]
  omega
theorem pp_dge {a b : Nat} (ha : a ≤ 1000) (hb : b ≤ 1000) : (nI 0 ≤ nI a - nI b) = (b ≤ a) := by
  apply propext
  rw [Int32.le_iff_toInt_le, pp_dint ha hb, nI_toInt (by decide)]
  omega
theorem pc_wayTo {N S SD F w n t : Nat} {σ : jj_S} (hw : 1 ≤ w) (hw3 : w ≤ 3) (hn : n < 9) (ht : t < 9) (e : σ 1 0 = nI w) : f_Routers_wayTo N S SD F σ (nI n) (nI t) = some (nI (qq_wy w n t), σ) := by
  have m1 := Nat.mod_lt n (show 0 < w by omega)
  have m2 := Nat.mod_lt t (show 0 < w by omega)
  have q1 := Nat.div_le_self n w
  have q2 := Nat.div_le_self t w
  have c1 : ∀ a, a < 9 → f_Grid_column N S SD F σ (nI a) = some (nI (a % w), σ) := fun a ha => by
    simp (disch := omega) only [f_Grid_column, e, pp_nzE, pp_rem]
  have c2 : ∀ a, a < 9 → f_Grid_row N S SD F σ (nI a) = some (nI (a / w), σ) := fun a ha => by
    simp (disch := omega) only [f_Grid_row, e, pp_nzE, pp_div]
  simp (disch := omega) only [f_Routers_wayTo, c1 n hn, c1 t ht, c2 n hn, c2 t ht, pp_b2, pp_lt, pp_0, pp_d0, pp_dle, pp_1, pp_2, pp_3, pp_4]
  unfold qq_wy
  generalize n % w = a at *
  generalize t % w = b at *
  generalize n / w = a' at *
  generalize t / w = b' at *
  repeat' split
  all_goals first | rfl | (exfalso; omega)
theorem pr_route1 {F n l k p j w t : Nat} {τ : jj_S} (hl : l < 180) (hk : k < 400) (hp : p < 2) (hj : j < 4) (hw : 1 ≤ w) (hw3 : w ≤ 3) (hn : n < 9) (ht : t < 9) (e0 : τ 0 0 = nI w) (e22 : τ 22 l = nI 0) (e17 : τ 17 l ≠ nI 0) (e18 : τ 18 (4 * l) = nI (4 * (2 * k + p) + j)) (et : (if p = 0 then τ 2 k else τ 1 k) = nI t) : f_rRef_route F τ (nI n) (nI l) = some (jj_up (jj_up τ 23 l (nI (qq_wy w n t))) 22 l (nI 1)) := by
  have m1 := Nat.mod_lt n (show 0 < w by omega)
  have m2 := Nat.mod_lt t (show 0 < w by omega)
  have q1 := Nat.div_le_self n w
  have q2 := Nat.div_le_self t w
  have g1 : nI (4 * (2 * k + p) + j) / nI 4 = nI (2 * k + p) := by rw [pp_div (by omega) (by omega) (by omega)]; congr 1; omega
  have T := pr_target (F := F) (τ := τ) hk hp
  rw [et] at T
  simp (disch := omega) only [f_rRef_route, pp_ckE, pp_cl, e22, e17, pp_0, if_true, if_false, pp_4, pk_mul, e18, pp_nzE, g1, T, pp_b2, e0, pp_rem, pp_lt]
  simp (disch := omega) only [pp_div, pp_lt, pp_dle, pp_dge, pp_st, pp_1, pp_2, pp_3, jj_up_ne]
  unfold qq_wy
  generalize n % w = a at *
  generalize t % w = b at *
  generalize n / w = a' at *
  generalize t / w = b' at *
  repeat' split
  all_goals first | rfl | (exfalso; omega)
theorem pr_route0 {F n l : Nat} {τ : jj_S} (hl : l < 180) (h : ¬ (τ 22 l = nI 0 ∧ τ 17 l ≠ nI 0)) : f_rRef_route F τ (nI n) (nI l) = some τ := by
  unfold f_rRef_route
  rw [pp_ckE hl (by decide), pp_cl (by omega)]
  by_cases h22 : τ 22 l = nI 0
  · have h17 : τ 17 l = nI 0 := by
      rcases Classical.em (τ 17 l = nI 0) with q | q
      · exact q
      · exact absurd ⟨h22, q⟩ h
    rw [if_pos (show τ 22 l = (0 : Int32) from h22), pp_ckE (by omega) (by decide), if_pos (show τ 17 l = (0 : Int32) from h17)]
  · rw [if_neg (show ¬ τ 22 l = (0 : Int32) from h22)]
theorem qq_geo3 {w h d v n t : Nat} (hD : qq_D w h d v) (hn : n < w * h) (ht : t < w * h) : qq_wy w n t < 5 ∧ qq_o w h n (qq_wy w n t) = true := by
  have h9 := qq_n9 hD
  have k := qq_all (P := fun w h n t => decide ((1 ≤ w ∧ 1 ≤ h ∧ n < w * h ∧ t < w * h) → qq_wy w n t < 5 ∧ qq_o w h n (qq_wy w n t) = true)) 4 4 9 9 (by decide +kernel) w h n t (by have := hD.1.2; omega) (by have := hD.2.1.2; omega) (by omega) (by omega)
  exact of_decide_eq_true k ⟨hD.1.1, hD.2.1.1, hn, ht⟩
