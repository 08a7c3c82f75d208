/-! ARRIVAL keeps the relation -/
theorem qq_modne {d a i j : Nat} (hd : 1 ≤ d) (hd4 : d ≤ 4) (hij : i < j) (hj : j < d) : (a + i) % d ≠ (a + j) % d := by
  rcases (show d = 1 ∨ d = 2 ∨ d = 3 ∨ d = 4 by omega) with rfl | rfl | rfl | rfl <;> omega
theorem qq_Lsz {w h d v made : Nat} {σ τ : jj_S} (hL : qq_LT w h d v made σ τ) {n sd c : Nat} (hn : n < w * h) (hs : sd < 6) (hc : c < 2 * v) : ∃ sz fi : Nat, sz ≤ d ∧ fi < d ∧ σ 6 (qq_s (2 * v) n sd c) = nI sz ∧ σ 5 (qq_s (2 * v) n sd c) = nI fi ∧ τ 17 (qq_l n sd c) = nI sz ∧ (τ 19 (qq_l n sd c) ≠ qq_m → sz + 1 ≤ d) := by
  obtain ⟨sz, fi, cr, bk, h1, h2, h3, h4, h5, h6, h7, h8, h9, _⟩ := hL n sd c hn hs hc
  refine ⟨sz, fi, by omega, h1, h2, h4, h3, fun hne => ?_⟩
  rw [if_neg hne] at h9
  omega
/-- where a token stood before the arrival -/
def qq_ra (τ : jj_S) (t a i : Nat) : Nat × Nat × Nat := if t = 2 ∧ τ 19 a ≠ qq_m ∧ i = (τ 17 a).toNatClampNeg then (3, a, 0) else (t, a, i)
theorem qq_Kar {cpl : Nat} {τ τ' : jj_S} (hsz : ∀ l, l < 216 → τ 17 l = nI (τ 17 l).toNatClampNeg ∧ (τ 17 l).toNatClampNeg ≤ 4) (h3 : ∀ l, l < 216 → τ 19 l ≠ qq_m → (τ 17 l).toNatClampNeg ≤ 3) (hr : qq_rr (fun l => (τ 17 l).toNatClampNeg) τ τ' 216) {t a i k p : Nat} (hK : qq_KT cpl τ' t a i k p) : t ≠ 3 ∧ qq_KT cpl τ (qq_ra τ t a i).1 (qq_ra τ t a i).2.1 (qq_ra τ t a i).2.2 k p := by
  obtain ⟨h1, -, h5⟩ := hr
  obtain ⟨hk, hK⟩ := hK
  have f3 : τ' 3 = τ 3 := h5 3 (by decide) (by decide) (by decide) (by decide) (by decide)
  have f7 : τ' 7 = τ 7 := h5 7 (by decide) (by decide) (by decide) (by decide) (by decide)
  have f11 : τ' 11 = τ 11 := h5 11 (by decide) (by decide) (by decide) (by decide) (by decide)
  have f12 : τ' 12 = τ 12 := h5 12 (by decide) (by decide) (by decide) (by decide) (by decide)
  have f14 : τ' 14 = τ 14 := h5 14 (by decide) (by decide) (by decide) (by decide) (by decide)
  have f15 : τ' 15 = τ 15 := h5 15 (by decide) (by decide) (by decide) (by decide) (by decide)
  rw [f3, f7, f11, f12, f14, f15] at hK
  rcases hK with ⟨rfl, hK⟩ | ⟨rfl, hK⟩ | ⟨rfl, hp, ha, ⟨sz, e1, e2, e3⟩, j, hj, e4⟩ | ⟨rfl, hp, ha, rfl, j, hj, e4⟩ | ⟨rfl, hK⟩
  · exact ⟨by decide, hk, by simp only [qq_ra]; exact Or.inl ⟨rfl, hK⟩⟩
  · exact ⟨by decide, hk, by simp only [qq_ra]; exact Or.inr (Or.inl ⟨rfl, hK⟩)⟩
  · refine ⟨by decide, hk, ?_⟩
    obtain ⟨g1, g2, g3, g4, g5⟩ := h1 a ha
    obtain ⟨s1, s2⟩ := hsz a ha
    by_cases hm : τ 19 a = qq_m
    · have e : qq_ra τ 2 a i = (2, a, i) := by unfold qq_ra; rw [if_neg (fun q => q.2.1 hm)]
      rw [e]
      refine Or.inr (Or.inr (Or.inl ⟨rfl, hp, ha, ⟨sz, by rw [← (g4 hm).1]; exact e1, e2, e3⟩, j, hj, ?_⟩))
      rw [← (g4 hm).2 i (by omega)]; exact e4
    · obtain ⟨g6, g7⟩ := g5 hm
      have g6 : τ' 17 a = nI ((τ 17 a).toNatClampNeg + 1) := g6
      have g7 : ∀ j, j < 4 → τ' 18 (4 * a + j) = if j = (τ 17 a).toNatClampNeg then τ 19 a else τ 18 (4 * a + j) := g7
      rw [g6, pp_eq (by omega) (by omega)] at e1
      have e5 := g7 i (by omega)
      by_cases hi : i = (τ 17 a).toNatClampNeg
      · have e : qq_ra τ 2 a i = (3, a, 0) := by unfold qq_ra; rw [if_pos ⟨rfl, hm, hi⟩]
        rw [e]
        rw [if_pos hi] at e5
        exact Or.inr (Or.inr (Or.inr (Or.inl ⟨rfl, hp, ha, rfl, j, hj, by rw [← e5]; exact e4⟩)))
      · have e : qq_ra τ 2 a i = (2, a, i) := by unfold qq_ra; rw [if_neg (fun q => hi q.2.2)]
        rw [e]
        rw [if_neg hi] at e5
        exact Or.inr (Or.inr (Or.inl ⟨rfl, hp, ha, ⟨_, s1, s2, (show i < _ by omega)⟩, j, hj, by rw [← e5]; exact e4⟩))
  · exfalso
    obtain ⟨g1, -⟩ := h1 a ha
    have hl := qq_len_in (τ 3 k) p
    rw [g1, pp_m1' (by omega)] at e4
    exact e4
  · exact ⟨by decide, hk, by simp only [qq_ra]; exact Or.inr (Or.inr (Or.inr (Or.inr ⟨rfl, hK⟩)))⟩
set_option maxHeartbeats 1000000 in
theorem qq_arr {w h d v made cpl : Nat} {σ τ σ1 τ1 σ' τ' : jj_S} {x : Int32} (hD : qq_D w h d v) (hR : qq_Rel w h d v made cpl σ τ)
    (a1 : ∀ k, k ≠ 0 → σ1 k = σ k) (a2 : σ1 0 5 = x) (b1 : ∀ k, k ≠ 0 → τ1 k = τ k) (b2 : ∀ j, j ≠ 15 → j ≠ 16 → τ1 0 j = τ 0 j) (b3 : τ1 0 15 = x) (b4 : τ1 0 16 = nI 0)
    (hc : qq_ar (w * h * 6 * (2 * v)) d (fun s => (σ1 5 s).toNatClampNeg) (fun s => (σ1 6 s).toNatClampNeg) σ1 σ' (w * h * 6 * (2 * v))) (hr : qq_rr (fun l => (τ1 17 l).toNatClampNeg) τ1 τ' 216) : qq_Rel w h d v made cpl σ' τ' := by
  obtain ⟨hZ, hM, hP, hW, hQ, hL, hRt, hE, hU, hV⟩ := hR
  obtain ⟨⟨d1, d2⟩, ⟨d3, d4⟩, ⟨d5, d6⟩, ⟨d7, d8⟩⟩ := id hD
  have h9 := qq_n9 hD
  obtain ⟨c1, -, c3, c4, c5⟩ := id hc
  obtain ⟨r1, -, r5⟩ := id hr
  have s : ∀ k, k ≠ 0 → k ≠ 2 → k ≠ 4 → k ≠ 6 → k ≠ 7 → k ≠ 8 → k ≠ 9 → σ' k = σ k := fun k k0 k2 k4 k6 k7 k8 k9 => by rw [c5 k k2 k4 k6 k7 k8 k9, a1 k k0]
  have t : ∀ k, k ≠ 0 → k ≠ 17 → k ≠ 18 → k ≠ 19 → k ≠ 20 → k ≠ 21 → τ' k = τ k := fun k k0 k2 k4 k6 k7 k8 => by rw [r5 k k2 k4 k6 k7 k8, b1 k k0]
  have t0 : τ' 0 = τ1 0 := r5 0 (by decide) (by decide) (by decide) (by decide) (by decide)
  have s0 : σ' 0 = σ1 0 := c5 0 (by decide) (by decide) (by decide) (by decide) (by decide) (by decide)
  have s20 : σ' 2 0 = σ 2 0 := by rw [c4, a1 2 (by decide)]
  have hlane : ∀ l, l < 216 → τ 17 l = nI (τ 17 l).toNatClampNeg ∧ (τ 17 l).toNatClampNeg ≤ 4 ∧ (τ 19 l ≠ qq_m → (τ 17 l).toNatClampNeg ≤ 3) := by
    intro l hl
    by_cases hv : ∃ n sd c, n < w * h ∧ sd < 6 ∧ c < 2 * v ∧ l = qq_l n sd c
    · obtain ⟨n, sd, c, hn, hs, hc', rfl⟩ := hv
      obtain ⟨sz, fi, q1, q2, q3, q4, q5, q6⟩ := qq_Lsz hL hn hs hc'
      rw [q5, pp_cl (by omega)]
      exact ⟨rfl, by omega, fun hne => by have := q6 hne; omega⟩
    · have := hE l hl (fun n sd c hn hs hc' _ e => hv ⟨n, sd, c, hn, hs, hc', e⟩)
      rw [this.1]
      exact ⟨rfl, by decide, fun hne => absurd this.2.1 hne⟩
  rw [b1 17 (by decide)] at hr
  have hrr : qq_rr (fun l => (τ 17 l).toNatClampNeg) τ1 τ' 216 := hr
  have hK : ∀ {t a i k p : Nat}, qq_KT cpl τ' t a i k p → t ≠ 3 ∧ qq_KT cpl τ (qq_ra τ t a i).1 (qq_ra τ t a i).2.1 (qq_ra τ t a i).2.2 k p := by
    intro t a i k p hKK
    have e : qq_rr (fun l => (τ1 17 l).toNatClampNeg) τ1 τ' 216 := by rw [b1 17 (by decide)]; exact hrr
    have hk2 := qq_Kar (cpl := cpl) (τ := τ1) (τ' := τ') (fun l hl => by rw [b1 17 (by decide)]; exact ⟨(hlane l hl).1, (hlane l hl).2.1⟩) (fun l hl => by rw [b1 17 (by decide), b1 19 (by decide)]; exact (hlane l hl).2.2) e hKK
    have e2 : qq_ra τ1 t a i = qq_ra τ t a i := by unfold qq_ra; rw [b1 17 (by decide), b1 19 (by decide)]
    rw [e2] at hk2
    refine ⟨hk2.1, ?_⟩
    have hk3 := hk2.2
    unfold qq_KT at hk3 ⊢
    rw [b1 3 (by decide), b1 7 (by decide), b1 11 (by decide), b1 12 (by decide), b1 14 (by decide), b1 15 (by decide), b1 17 (by decide), b1 18 (by decide), b1 19 (by decide)] at hk3
    exact hk3
  refine ⟨?_, ?_, ?_, ?_, ?_, ?_, ?_, ?_, ?_, ?_⟩
  · unfold qq_Z at hZ ⊢
    rw [s 1 (by decide) (by decide) (by decide) (by decide) (by decide) (by decide) (by decide), s 3 (by decide) (by decide) (by decide) (by decide) (by decide) (by decide) (by decide), s 20 (by decide) (by decide) (by decide) (by decide) (by decide) (by decide) (by decide), s 24 (by decide) (by decide) (by decide) (by decide) (by decide) (by decide) (by decide), s20, t0, b2 0 (by decide) (by decide), b2 1 (by decide) (by decide), b2 2 (by decide) (by decide), b2 3 (by decide) (by decide), b2 4 (by decide) (by decide)]
    exact hZ
  · unfold qq_M at hM ⊢
    rw [s 10 (by decide) (by decide) (by decide) (by decide) (by decide) (by decide) (by decide), s 17 (by decide) (by decide) (by decide) (by decide) (by decide) (by decide) (by decide), t0, s0, b2 5 (by decide) (by decide), b2 12 (by decide) (by decide), a2, b3, b4, c3]
    exact ⟨hM.1, hM.2.1, hM.2.2.1, hM.2.2.2.1, rfl, rfl⟩
  · unfold qq_PT at hP ⊢
    rw [s 11 (by decide) (by decide) (by decide) (by decide) (by decide) (by decide) (by decide), s 12 (by decide) (by decide) (by decide) (by decide) (by decide) (by decide) (by decide), s 13 (by decide) (by decide) (by decide) (by decide) (by decide) (by decide) (by decide), s 14 (by decide) (by decide) (by decide) (by decide) (by decide) (by decide) (by decide), s 18 (by decide) (by decide) (by decide) (by decide) (by decide) (by decide) (by decide), s 19 (by decide) (by decide) (by decide) (by decide) (by decide) (by decide) (by decide), t 1 (by decide) (by decide) (by decide) (by decide) (by decide) (by decide), t 2 (by decide) (by decide) (by decide) (by decide) (by decide) (by decide), t 3 (by decide) (by decide) (by decide) (by decide) (by decide) (by decide), t 4 (by decide) (by decide) (by decide) (by decide) (by decide) (by decide), t 7 (by decide) (by decide) (by decide) (by decide) (by decide) (by decide), t 8 (by decide) (by decide) (by decide) (by decide) (by decide) (by decide)]
    exact hP
  · unfold qq_WT at hW ⊢
    rw [s 28 (by decide) (by decide) (by decide) (by decide) (by decide) (by decide) (by decide), s 29 (by decide) (by decide) (by decide) (by decide) (by decide) (by decide) (by decide), t 9 (by decide) (by decide) (by decide) (by decide) (by decide) (by decide), t 10 (by decide) (by decide) (by decide) (by decide) (by decide) (by decide)]
    exact hW
  · unfold qq_QT at hQ ⊢
    rw [s 21 (by decide) (by decide) (by decide) (by decide) (by decide) (by decide) (by decide), s 22 (by decide) (by decide) (by decide) (by decide) (by decide) (by decide) (by decide), s 23 (by decide) (by decide) (by decide) (by decide) (by decide) (by decide) (by decide), s 25 (by decide) (by decide) (by decide) (by decide) (by decide) (by decide) (by decide), s 26 (by decide) (by decide) (by decide) (by decide) (by decide) (by decide) (by decide), s 27 (by decide) (by decide) (by decide) (by decide) (by decide) (by decide) (by decide), t 3 (by decide) (by decide) (by decide) (by decide) (by decide) (by decide), t 11 (by decide) (by decide) (by decide) (by decide) (by decide) (by decide), t 12 (by decide) (by decide) (by decide) (by decide) (by decide) (by decide), t 13 (by decide) (by decide) (by decide) (by decide) (by decide) (by decide), t 14 (by decide) (by decide) (by decide) (by decide) (by decide) (by decide), t 15 (by decide) (by decide) (by decide) (by decide) (by decide) (by decide), t 16 (by decide) (by decide) (by decide) (by decide) (by decide) (by decide)]
    exact hQ
  · intro n sd c hn hs hc'
    obtain ⟨sz, fi, cr, bk, g1, g2, g3, g4, g5, g6, g7, g8, g9, g10, g11⟩ := hL n sd c hn hs hc'
    have hsl : qq_s (2 * v) n sd c < w * h * 6 * (2 * v) := qq_s_lt hn hs hc'
    obtain ⟨q1, q2, -⟩ := qq_geo hD hn hs
    have hfl : qq_s (2 * v) (qq_f w h n sd).1 (qq_f w h n sd).2 c < w * h * 6 * (2 * v) := qq_s_lt q1 q2 hc'
    have hll := (qq_l_lt (n := n) (sd := sd) (c := c) (by omega) hs (by omega)).1
    generalize qq_s (2 * v) n sd c = ss at *
    generalize qq_s (2 * v) (qq_f w h n sd).1 (qq_f w h n sd).2 c = ff at *
    generalize qq_l n sd c = ll at *
    obtain ⟨x1, x2, x3, x4, x5⟩ := c1 ss hsl
    obtain ⟨y1, y2, y3, -, -⟩ := c1 ff hfl
    obtain ⟨z1, z2, z3, z4, z5⟩ := r1 ll hll
    simp only [a1 4 (by decide), a1 5 (by decide), a1 6 (by decide), a1 7 (by decide), a1 8 (by decide), a1 9 (by decide)] at x4 x5 y3
    simp only [b1 17 (by decide), b1 18 (by decide), b1 19 (by decide), b1 20 (by decide), b1 21 (by decide)] at z3 z4 z5
    have e5 : σ' 5 ss = nI fi := by rw [s 5 (by decide) (by decide) (by decide) (by decide) (by decide) (by decide) (by decide)]; exact g4
    have e7 : σ' 7 ff = nI (cr + bk) := by rw [y3, g5, g7, nI_add]
    have e20 : τ' 20 ll = nI (cr + bk) := by rw [z3, g6, g8, nI_add]
    rw [t 3 (by decide) (by decide) (by decide) (by decide) (by decide) (by decide)]
    rcases g11 with ⟨m1, m2⟩ | hF
    · rw [if_pos m2] at g9
      refine ⟨sz, fi, cr + bk, 0, g1, by rw [(x4 m1).1]; exact g2, by rw [(z4 m2).1]; exact g3, e5, e7, e20, y2, z2, by rw [if_pos z1]; omega, fun i hi => ?_, Or.inl ⟨x1, z1⟩⟩
      rw [(x4 m1).2 _ (Nat.mod_lt _ (by omega)), (z4 m2).2 i (by omega)]
      exact g10 i hi
    · have hne := qq_F_ne hP.1.1 hF
      rw [if_neg hne.2.1] at g9
      obtain ⟨u1, u2⟩ := x5 hne.1
      obtain ⟨w1, w2⟩ := z5 hne.2.1
      rw [g2, pp_cl (by omega)] at u1
      rw [g3, pp_cl (by omega)] at w1
      refine ⟨sz + 1, fi, cr + bk, 0, g1, u1, w1, e5, e7, e20, y2, z2, by rw [if_pos z1]; omega, fun i hi => ?_, Or.inl ⟨x1, z1⟩⟩
      have v1 := u2 ((fi + i) % d) (Nat.mod_lt _ (by omega))
      have v2 := w2 i (by omega)
      rw [g4, g2, pp_cl (by omega), pp_cl (by omega)] at v1
      rw [g3, pp_cl (by omega)] at v2
      rw [v1, v2]
      by_cases hi2 : i = sz
      · subst hi2
        rw [if_pos rfl, if_pos rfl]; exact hF
      · rw [if_neg (qq_modne d5 d6 (by omega) (by omega)), if_neg hi2]
        exact g10 i (by omega)
  · unfold qq_RT at hRt ⊢
    rw [s 32 (by decide) (by decide) (by decide) (by decide) (by decide) (by decide) (by decide), s 33 (by decide) (by decide) (by decide) (by decide) (by decide) (by decide) (by decide), s 34 (by decide) (by decide) (by decide) (by decide) (by decide) (by decide) (by decide), s 35 (by decide) (by decide) (by decide) (by decide) (by decide) (by decide) (by decide), s 36 (by decide) (by decide) (by decide) (by decide) (by decide) (by decide) (by decide), s 37 (by decide) (by decide) (by decide) (by decide) (by decide) (by decide) (by decide), t 22 (by decide) (by decide) (by decide) (by decide) (by decide) (by decide), t 23 (by decide) (by decide) (by decide) (by decide) (by decide) (by decide), t 24 (by decide) (by decide) (by decide) (by decide) (by decide) (by decide), t 25 (by decide) (by decide) (by decide) (by decide) (by decide) (by decide), t 26 (by decide) (by decide) (by decide) (by decide) (by decide) (by decide), t 27 (by decide) (by decide) (by decide) (by decide) (by decide) (by decide)]
    exact hRt
  · intro l hl hno
    obtain ⟨z1, z2, z3, z4, z5⟩ := r1 l hl
    have e1 := hE l hl hno
    rw [b1 19 (by decide), b1 17 (by decide)] at z4
    exact ⟨by rw [(z4 e1.2.1).1]; exact e1.1, z1, by rw [z3, b1 20 (by decide), b1 21 (by decide), e1.2.2.1, e1.2.2.2, nI_add, Nat.add_zero], z2⟩
  · refine qq_U_of hU (qq_ra τ) (fun t a i k p q => ⟨p, (hK q).2⟩) (fun t a i t' a' i' k p p' q q' e => ?_)
    have n1 := (hK q).1
    have n2 := (hK q').1
    unfold qq_ra at e
    split at e <;> split at e
    · rename_i u1 u2
      injection e with e1 e2
      injection e2 with e2 e3
      subst e2
      exact ⟨u1.1.trans u2.1.symm, rfl, u1.2.2.trans u2.2.2.symm⟩
    · injection e with e1 e2
      exact absurd e1.symm n2
    · injection e with e1 e2
      exact absurd e1 n1
    · injection e with e1 e2
      injection e2 with e2 e3
      exact ⟨e1, e2, e3⟩
  · intro t1 a i k p q
    have := hV _ _ _ _ _ (hK q).2
    rw [s 15 (by decide) (by decide) (by decide) (by decide) (by decide) (by decide) (by decide), t 5 (by decide) (by decide) (by decide) (by decide) (by decide) (by decide), t 6 (by decide) (by decide) (by decide) (by decide) (by decide) (by decide)]
    exact this
