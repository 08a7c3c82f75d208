/-! SENDING a flit, COMPLETING a reply, SERVING a request keep the relation -/
/-- a flit in hand: if it is its packet's last one, no token of its number stands anywhere -/
def qq_free (cpl made : Nat) (c15 : Nat → Int32) (τ : jj_S) (rf : Int32) : Prop := ∀ k p j : Nat, k < 400 → p < 2 → j + 1 = qq_len (τ 3 k) p → rf = nI (4 * (2 * k + p) + j) → (k < made ∧ c15 k = (if p = 0 then τ 5 k else τ 6 k)) ∧ ∀ t a i p', ¬ qq_KT cpl τ t a i k p'
theorem qq_S216 {w h d v : Nat} (hD : qq_D w h d v) : w * h * 6 * (2 * v) ≤ 216 := by
  have h9 := qq_n9 hD
  have a1 : w * h * 6 ≤ 54 := by omega
  have a2 : 2 * v ≤ 4 := by have := hD.2.2.2.2; omega
  exact Nat.le_trans (Nat.mul_le_mul a1 a2) (by decide)
set_option maxHeartbeats 1000000 in
theorem qq_send {w h d v made cpl F n sd c : Nat} {σ τ : jj_S} {cf rf : Int32} (hD : qq_D w h d v) (hR : qq_Rel w h d v made cpl σ τ) (hn : n < w * h) (hs : sd < 6) (hon : qq_o w h n sd = true) (hc : c < 2 * v) (hcr : τ 20 (qq_l n sd c) ≠ nI 0) (hFl : qq_F made (τ 3) cf rf) (hfree : qq_free cpl made (σ 15) τ rf) :
    ∃ σ1 τ1 : jj_S, f_Links_send (w * h) (w * h * 6 * (2 * v)) (w * h * 6 * (2 * v) * d) F σ (nI (qq_s (2 * v) (qq_f w h n sd).1 (qq_f w h n sd).2 c)) cf = some σ1 ∧ f_rRef_send F τ (nI (qq_l n sd c)) rf = some τ1 ∧ qq_Rel w h d v made cpl σ1 τ1 ∧ (∀ k, k ≠ 2 → k ≠ 7 → k ≠ 8 → σ1 k = σ k) ∧ (∀ j, j ≠ 8 → σ1 2 j = σ 2 j) ∧ (∀ k, k ≠ 0 → k ≠ 19 → k ≠ 20 → τ1 k = τ k) ∧ (∀ j, j ≠ 16 → τ1 0 j = τ 0 j) ∧ (∀ l, l ≠ qq_l n sd c → τ1 20 l = τ 20 l) := by
  obtain ⟨hZ, hM, hP, hW, hQ, hL, hRt, hE, hU, hV⟩ := hR
  obtain ⟨⟨d1, d2⟩, ⟨d3, d4⟩, ⟨d5, d6⟩, ⟨d7, d8⟩⟩ := id hD
  have h9 := qq_n9 hD
  have hm := hP.1.1
  obtain ⟨sz, fi, cr, bk, g1, g2, g3, g4, g5, g6, g7, g8, g9, g10, g11⟩ := hL n sd c hn hs hc
  have hsl : qq_s (2 * v) n sd c < w * h * 6 * (2 * v) := qq_s_lt hn hs hc
  obtain ⟨q1, q2, q3⟩ := qq_geo hD hn hs
  have hfl : qq_s (2 * v) (qq_f w h n sd).1 (qq_f w h n sd).2 c < w * h * 6 * (2 * v) := qq_s_lt q1 q2 hc
  have hll := (qq_l_lt (n := n) (sd := sd) (c := c) (by omega) hs (by omega)).1
  have hS := qq_S216 hD
  have e3 := hZ.2.2.2 _ _ c q1 q2 hc
  rw [q3] at e3
  have hcrp : 1 ≤ cr := by
    rcases Nat.eq_zero_or_pos cr with h0 | h0
    · rw [h0] at g6; exact absurd g6 hcr
    · exact h0
  have T1 := pc_send (n := w * h) (SD := w * h * 6 * (2 * v) * d) (F := F) (σ := σ) (x := cf) hfl (by omega) hsl hcrp e3 g5
  have T2 := pr_send (F := F) (τ := τ) (x := rf) hll hcrp g6
  have hne := qq_F_ne hm hFl
  have hKs : ∀ {t a i k p : Nat}, qq_KT cpl (jj_up (jj_up (jj_up τ 19 (qq_l n sd c) rf) 20 (qq_l n sd c) (nI (cr - 1))) 0 16 (τ 0 16 + 1)) t a i k p → ((t = 3 ∧ a = qq_l n sd c ∧ i = 0) ∧ k < 400 ∧ p < 2 ∧ ∃ j, j + 1 = qq_len (τ 3 k) p ∧ rf = nI (4 * (2 * k + p) + j)) ∨ qq_KT cpl τ t a i k p := by
    intro t a i k p hK
    obtain ⟨hk, hK⟩ := hK
    simp (disch := omega) only [jj_up_ne, jj_up_same] at hK
    rcases hK with hK | hK | hK | ⟨rfl, hp, ha, rfl, j, hj, e4⟩ | hK
    · exact Or.inr ⟨hk, Or.inl hK⟩
    · exact Or.inr ⟨hk, Or.inr (Or.inl hK)⟩
    · exact Or.inr ⟨hk, Or.inr (Or.inr (Or.inl hK))⟩
    · by_cases hal : a = qq_l n sd c
      · subst hal
        rw [pk_us] at e4
        exact Or.inl ⟨⟨rfl, rfl, rfl⟩, hk, hp, j, hj, e4⟩
      · rw [pk_un hal] at e4
        exact Or.inr ⟨hk, Or.inr (Or.inr (Or.inr (Or.inl ⟨rfl, hp, ha, rfl, j, hj, e4⟩)))⟩
    · exact Or.inr ⟨hk, Or.inr (Or.inr (Or.inr (Or.inr hK)))⟩
  refine ⟨_, _, T1, T2, ⟨?_, ?_, ?_, ?_, ?_, ?_, ?_, ?_, ?_, ?_⟩, fun k k2 k7 k8 => by rw [jj_up_ne k2, jj_up_ne k8, jj_up_ne k7], fun j hj => by simp (disch := omega) only [jj_up_same, jj_up_ne, pk_un], fun k k0 k9 k20 => by rw [jj_up_ne k0, jj_up_ne k20, jj_up_ne k9], fun j hj => by simp (disch := omega) only [jj_up_same, jj_up_ne, pk_un], fun l hl => by simp (disch := omega) only [jj_up_same, jj_up_ne, pk_un]⟩
  · unfold qq_Z at hZ ⊢
    simp (disch := omega) only [jj_up_ne, jj_up_same, pk_un]; exact hZ
  · unfold qq_M at hM ⊢
    simp (disch := omega) only [jj_up_ne, jj_up_same, pk_un, pk_us]
    exact ⟨hM.1, hM.2.1, hM.2.2.1, hM.2.2.2.1, hM.2.2.2.2.1, by rw [hM.2.2.2.2.2]⟩
  · unfold qq_PT at hP ⊢
    simp (disch := omega) only [jj_up_ne]; exact hP
  · unfold qq_WT at hW ⊢
    simp (disch := omega) only [jj_up_ne]; exact hW
  · unfold qq_QT at hQ ⊢
    simp (disch := omega) only [jj_up_ne]; exact hQ
  · intro n' sd' c' hn' hs' hc'
    obtain ⟨u1, u2, u3⟩ := qq_geo hD hn' hs'
    have hL' := hL n' sd' c' hn' hs' hc'
    simp (disch := omega) only [jj_up_ne, jj_up_same]
    by_cases he : n' = n ∧ sd' = sd ∧ c' = c
    · obtain ⟨rfl, rfl, rfl⟩ := he
      refine ⟨sz, fi, cr - 1, bk, g1, g2, g3, g4, pk_us, pk_us, g7, g8, ?_, g10, Or.inr ?_⟩
      · rw [pk_us, if_neg hne.2.1]; omega
      · rw [pk_us, pk_us]; exact hFl
    · have n1 : qq_s (2 * v) n' sd' c' ≠ qq_s (2 * v) n sd c := fun e => he (qq_s_inj hs' hc' hs hc e)
      have n2 : qq_s (2 * v) (qq_f w h n' sd').1 (qq_f w h n' sd').2 c' ≠ qq_s (2 * v) (qq_f w h n sd).1 (qq_f w h n sd).2 c := fun e => by
        obtain ⟨i1, i2, i3⟩ := qq_s_inj u2 hc' q2 hc e
        rw [i1, i2, q3] at u3
        injection u3 with j1 j2
        exact he ⟨j1.symm, j2.symm, i3⟩
      have n3 : qq_l n' sd' c' ≠ qq_l n sd c := fun e => he (qq_l_inj (by omega) (by omega) hs' (by omega) hs (by omega) e)
      rw [qq_L, pk_un n1, pk_un n2, pk_un n3, pk_un n3]
      exact hL'
  · unfold qq_RT at hRt ⊢
    simp (disch := omega) only [jj_up_ne]; exact hRt
  · intro l hl hno
    have := hE l hl hno
    simp (disch := omega) only [jj_up_ne, jj_up_same]
    rw [pk_un (hno n sd c hn hs hc hon), pk_un (hno n sd c hn hs hc hon)]
    exact this
  · intro t a i t' a' i' k p p' h1 h2
    rcases hKs h1 with ⟨⟨rfl, rfl, rfl⟩, x1, x2, j, x3, x4⟩ | h1 <;> rcases hKs h2 with ⟨⟨rfl, rfl, rfl⟩, y1, y2, j', y3, y4⟩ | h2
    · exact ⟨rfl, rfl, rfl⟩
    · exact absurd h2 ((hfree k p j x1 x2 x3 x4).2 _ _ _ _)
    · exact absurd h1 ((hfree k p' j' y1 y2 y3 y4).2 _ _ _ _)
    · exact hU _ _ _ _ _ _ _ _ _ h1 h2
  · intro t a i k p h1
    simp (disch := omega) only [jj_up_ne]
    rcases hKs h1 with ⟨-, x1, x2, j, x3, x4⟩ | h1
    · exact (hfree k p j x1 x2 x3 x4).1
    · exact hV _ _ _ _ _ h1
theorem qq_pig : ∀ (n m : Nat) (f : Nat → Nat), (∀ i, i < m → f i < n) → (∀ i j, i < m → j < m → f i = f j → i = j) → m ≤ n := by
  intro n
  induction n with
  | zero =>
    intro m f h1 h2
    rcases Nat.eq_zero_or_pos m with h | h
    · omega
    · exact absurd (h1 0 h) (by omega)
  | succ n ih =>
    intro m f h1 h2
    cases m with
    | zero => omega
    | succ m =>
      have := ih m (fun i => if f i = n then f m else f i) (fun i hi => by
        show (if f i = n then f m else f i) < n
        have a1 := h1 i (by omega)
        have a2 := h1 m (by omega)
        split
        · rename_i e
          have : f m ≠ n := fun e2 => absurd (h2 i m (by omega) (by omega) (by rw [e, e2])) (by omega)
          omega
        · omega) (fun i j hi hj e => by
        have e : (if f i = n then f m else f i) = (if f j = n then f m else f j) := e
        split at e <;> split at e
        · rename_i u1 u2
          exact h2 i j (by omega) (by omega) (by rw [u1, u2])
        · exact absurd (h2 m j (by omega) (by omega) e) (by omega)
        · exact absurd (h2 i m (by omega) (by omega) e) (by omega)
        · exact h2 i j (by omega) (by omega) e)
      omega
/-- a reply becomes complete -/
theorem qq_done {w h d v made cpl k : Nat} {σ τ : jj_S} (hR : qq_Rel w h d v made cpl σ τ) (hk : k < made) (hv : σ 15 k = τ 6 k) (hfr : ∀ t a i p', ¬ qq_KT cpl τ t a i k p') : cpl < 400 ∧ qq_Rel w h d v made (cpl + 1) (jj_up (jj_up (jj_up σ 18 cpl (nI k)) 19 cpl (τ 0 15)) 17 2 (nI (cpl + 1))) (jj_up (jj_up (jj_up τ 7 cpl (nI k)) 8 cpl (τ 0 15)) 0 12 (nI (cpl + 1))) := by
  obtain ⟨hZ, hM, hP, hW, hQ, hL, hRt, hE, hU, hV⟩ := hR
  have hm := hP.1.1
  have hdn : ∀ j, j < cpl → ∃ k', k' < made ∧ τ 7 j = nI k' ∧ qq_KT cpl τ 4 0 j k' 1 := fun j hj => by
    obtain ⟨⟨k', a1, a2, a3⟩, -⟩ := hP.2 j hj
    exact ⟨k', a1, a3, by omega, Or.inr (Or.inr (Or.inr (Or.inr ⟨rfl, rfl, rfl, hj, a3⟩)))⟩
  have hcp : cpl + 1 ≤ made := by
    refine qq_pig made (cpl + 1) (fun j => if j < cpl then (τ 7 j).toNatClampNeg else k) (fun i hi => ?_) (fun i j hi hj e => ?_)
    · show (if i < cpl then (τ 7 i).toNatClampNeg else k) < made
      split
      · rename_i hic
        obtain ⟨k', a1, a2, a3⟩ := hdn i hic
        rw [a2, pp_cl (by omega)]; exact a1
      · exact hk
    · have e : (if i < cpl then (τ 7 i).toNatClampNeg else k) = (if j < cpl then (τ 7 j).toNatClampNeg else k) := e
      split at e <;> split at e
      · rename_i u1 u2
        obtain ⟨k1, a1, a2, a3⟩ := hdn i u1
        obtain ⟨k2, b1, b2, b3⟩ := hdn j u2
        rw [a2, b2, pp_cl (by omega), pp_cl (by omega)] at e
        subst e
        exact (hU _ _ _ _ _ _ _ _ _ a3 b3).2.2
      · rename_i u1 u2
        obtain ⟨k1, a1, a2, a3⟩ := hdn i u1
        rw [a2, pp_cl (by omega)] at e
        subst e
        exact absurd a3 (hfr _ _ _ _)
      · rename_i u1 u2
        obtain ⟨k1, a1, a2, a3⟩ := hdn j u2
        rw [a2, pp_cl (by omega)] at e
        subst e
        exact absurd a3 (hfr _ _ _ _)
      · omega
  have hKs : ∀ {t a i k1 p : Nat}, qq_KT (cpl + 1) (jj_up (jj_up (jj_up τ 7 cpl (nI k)) 8 cpl (τ 0 15)) 0 12 (nI (cpl + 1))) t a i k1 p → ((t = 4 ∧ a = 0 ∧ i = cpl) ∧ k1 = k ∧ p = 1) ∨ qq_KT cpl τ t a i k1 p := by
    intro t a i k1 p hK
    obtain ⟨hk1, hK⟩ := hK
    simp (disch := omega) only [jj_up_ne, jj_up_same] at hK
    rcases hK with hK | hK | hK | hK | ⟨rfl, hp, ha, hi, e⟩
    · exact Or.inr ⟨hk1, Or.inl hK⟩
    · exact Or.inr ⟨hk1, Or.inr (Or.inl hK)⟩
    · exact Or.inr ⟨hk1, Or.inr (Or.inr (Or.inl hK))⟩
    · exact Or.inr ⟨hk1, Or.inr (Or.inr (Or.inr (Or.inl hK)))⟩
    · by_cases hic : i = cpl
      · subst hic
        rw [pk_us, pp_eq (by omega) (by omega)] at e
        exact Or.inl ⟨⟨rfl, ha, rfl⟩, e.symm, hp⟩
      · rw [pk_un hic] at e
        exact Or.inr ⟨hk1, Or.inr (Or.inr (Or.inr (Or.inr ⟨rfl, hp, ha, by omega, e⟩)))⟩
  refine ⟨by omega, ?_, ?_, ?_, ?_, ?_, ?_, ?_, ?_, ?_, ?_⟩
  · unfold qq_Z at hZ ⊢
    simp (disch := omega) only [jj_up_ne, jj_up_same, pk_un]; exact hZ
  · unfold qq_M at hM ⊢
    simp (disch := omega) only [jj_up_ne, jj_up_same, pk_un, pk_us]
    exact ⟨hM.1, hM.2.1, trivial, trivial, hM.2.2.2.2.1, hM.2.2.2.2.2⟩
  · unfold qq_PT at hP ⊢
    simp (disch := omega) only [jj_up_ne, jj_up_same]
    refine ⟨hP.1, fun j hj => ?_⟩
    by_cases hjc : j = cpl
    · subst hjc
      rw [pk_us, pk_us, pk_us, pk_us]
      exact ⟨⟨k, hk, rfl, rfl⟩, rfl⟩
    · rw [pk_un hjc, pk_un hjc, pk_un hjc, pk_un hjc]
      exact hP.2 j (by omega)
  · unfold qq_WT at hW ⊢
    simp (disch := omega) only [jj_up_ne]; exact hW
  · unfold qq_QT at hQ ⊢
    simp (disch := omega) only [jj_up_ne]; exact hQ
  · unfold qq_LT at hL ⊢
    simp (disch := omega) only [jj_up_ne]; exact hL
  · unfold qq_RT at hRt ⊢
    simp (disch := omega) only [jj_up_ne]; exact hRt
  · simp (disch := omega) only [jj_up_ne]; exact hE
  · intro t a i t' a' i' k1 p p' h1 h2
    rcases hKs h1 with ⟨⟨e1, e2, e3⟩, e4, -⟩ | g1 <;> rcases hKs h2 with ⟨⟨x1, x2, x3⟩, x4, -⟩ | g2
    · exact ⟨e1.trans x1.symm, e2.trans x2.symm, e3.trans x3.symm⟩
    · rw [e4] at g2; exact absurd g2 (hfr _ _ _ _)
    · rw [x4] at g1; exact absurd g1 (hfr _ _ _ _)
    · exact hU _ _ _ _ _ _ _ _ _ g1 g2
  · intro t a i k1 p h1
    simp (disch := omega) only [jj_up_ne]
    rcases hKs h1 with ⟨-, rfl, rfl⟩ | h1
    · exact ⟨hk, by rw [if_neg (by decide)]; exact hv⟩
    · exact hV _ _ _ _ _ h1
