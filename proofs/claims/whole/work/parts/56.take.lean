/-! TAKING A FLIT OUT of a lane keeps the relation -/
theorem qq_modstep {d fi i : Nat} (hd : 1 ≤ d) (hd4 : d ≤ 4) (hfi : fi < d) (hi : i < d) : ((fi + 1) % d + i) % d = (fi + (i + 1)) % d := by
  rcases (show d = 1 ∨ d = 2 ∨ d = 3 ∨ d = 4 by omega) with rfl | rfl | rfl | rfl <;> omega
def qq_rt (l t a i : Nat) : Nat × Nat × Nat := if t = 2 ∧ a = l then (2, a, i + 1) else (t, a, i)
/-- tokens behind the taking, and where they stood -/
theorem qq_Ktk {cpl l sz : Nat} {τ τ1 : jj_S} (hl : l < 216) (hsz1 : 1 ≤ sz) (hsz4 : sz ≤ 4) (e17 : τ 17 l = nI sz) (f17 : τ1 17 = upd (τ 17) l (nI (sz - 1))) (f18 : τ1 18 = qq_sh (τ 18) l (sz - 1)) (hf : ∀ k, k ≠ 17 → k ≠ 18 → k ≠ 21 → τ1 k = τ k) {t a i k p : Nat} (hK : qq_KT cpl τ1 t a i k p) : qq_KT cpl τ (qq_rt l t a i).1 (qq_rt l t a i).2.1 (qq_rt l t a i).2.2 k p := by
  obtain ⟨hk, hK⟩ := hK
  simp (disch := omega) only [hf] at hK
  rcases hK with ⟨rfl, hK⟩ | ⟨rfl, hK⟩ | ⟨rfl, hp, ha, ⟨sz', e1, e2, e3⟩, j, hj, e4⟩ | ⟨rfl, hK⟩ | ⟨rfl, hK⟩
  · exact ⟨hk, by simp only [qq_rt]; exact Or.inl ⟨rfl, hK⟩⟩
  · exact ⟨hk, by simp only [qq_rt]; exact Or.inr (Or.inl ⟨rfl, hK⟩)⟩
  · refine ⟨hk, ?_⟩
    rw [f17] at e1
    rw [f18] at e4
    by_cases hal : a = l
    · subst hal
      rw [pk_us, pp_eq (by omega) (by omega)] at e1
      have e : qq_rt a 2 a i = (2, a, i + 1) := by unfold qq_rt; rw [if_pos ⟨rfl, rfl⟩]
      rw [e]
      have e5 : qq_sh (τ 18) a (sz - 1) (4 * a + i) = τ 18 (4 * a + (i + 1)) := by unfold qq_sh; rw [if_pos (by omega)]; rfl
      rw [e5] at e4
      exact Or.inr (Or.inr (Or.inl ⟨rfl, hp, ha, ⟨sz, e17, hsz4, (show i + 1 < sz by omega)⟩, j, hj, e4⟩))
    · rw [pk_un hal] at e1
      have e : qq_rt l 2 a i = (2, a, i) := by unfold qq_rt; rw [if_neg (fun q => hal q.2)]
      rw [e]
      have e5 : qq_sh (τ 18) l (sz - 1) (4 * a + i) = τ 18 (4 * a + i) := by unfold qq_sh; rw [if_neg (by omega)]
      rw [e5] at e4
      exact Or.inr (Or.inr (Or.inl ⟨rfl, hp, ha, ⟨sz', e1, e2, e3⟩, j, hj, e4⟩))
  · exact ⟨hk, by simp only [qq_rt]; exact Or.inr (Or.inr (Or.inr (Or.inl ⟨rfl, hK⟩)))⟩
  · exact ⟨hk, by simp only [qq_rt]; exact Or.inr (Or.inr (Or.inr (Or.inr ⟨rfl, hK⟩)))⟩
set_option maxHeartbeats 1000000 in
theorem qq_take {w h d v made cpl F n sd c : Nat} {σ τ : jj_S} (hF : 300 ≤ F) (hD : qq_D w h d v) (hR : qq_Rel w h d v made cpl σ τ) (hn : n < w * h) (hs : sd < 6) (hc : c < 2 * v) (hpos : τ 17 (qq_l n sd c) ≠ nI 0) :
    ∃ (cf rf : Int32) (σ1 τ1 : jj_S), f_Links_firstFlit (w * h) (w * h * 6 * (2 * v)) (w * h * 6 * (2 * v) * d) F σ (nI (qq_s (2 * v) n sd c)) = some (cf, σ) ∧ f_Links_takeOut (w * h) (w * h * 6 * (2 * v)) (w * h * 6 * (2 * v) * d) F σ (nI (qq_s (2 * v) n sd c)) = some (cf, σ1) ∧ f_rRef_take F τ (nI (qq_l n sd c)) = some (rf, τ1) ∧ rf = τ 18 (4 * qq_l n sd c) ∧ qq_F made (τ 3) cf rf ∧ qq_Rel w h d v made cpl σ1 τ1 ∧ (∀ k, k ≠ 5 → k ≠ 6 → k ≠ 9 → σ1 k = σ k) ∧ (∀ k, k ≠ 17 → k ≠ 18 → k ≠ 21 → τ1 k = τ k) ∧
      (∀ k p j : Nat, k < 400 → p < 2 → j + 1 = qq_len (τ 3 k) p → rf = nI (4 * (2 * k + p) + j) → (k < made ∧ σ 15 k = (if p = 0 then τ 5 k else τ 6 k)) ∧ ∀ t a i p', ¬ qq_KT cpl τ1 t a i k p') := by
  obtain ⟨hZ, hM, hP, hW, hQ, hL, hRt, hE, hU, hV⟩ := hR
  obtain ⟨⟨d1, d2⟩, ⟨d3, d4⟩, ⟨d5, d6⟩, ⟨d7, d8⟩⟩ := id hD
  have h9 := qq_n9 hD
  have hm := hP.1.1
  obtain ⟨sz, fi, cr, bk, g1, g2, g3, g4, g5, g6, g7, g8, g9, g10, g11⟩ := hL n sd c hn hs hc
  have hsl : qq_s (2 * v) n sd c < w * h * 6 * (2 * v) := qq_s_lt hn hs hc
  obtain ⟨q1, q2, q3⟩ := qq_geo hD hn hs
  have hfl : qq_s (2 * v) (qq_f w h n sd).1 (qq_f w h n sd).2 c < w * h * 6 * (2 * v) := qq_s_lt q1 q2 hc
  have hll := (qq_l_lt (n := n) (sd := sd) (c := c) (by omega) hs (by omega)).1
  have hS : w * h * 6 * (2 * v) ≤ 216 := by
    have a1 : w * h * 6 ≤ 54 := by omega
    have a2 : 2 * v ≤ 4 := by omega
    exact Nat.le_trans (Nat.mul_le_mul a1 a2) (by decide)
  have hSD : w * h * 6 * (2 * v) * d ≤ 864 := Nat.le_trans (Nat.mul_le_mul hS d6) (by decide)
  have e3 := hZ.2.2.2 n sd c hn hs hc
  have e0 := hZ.2.1.1
  have hszp : 1 ≤ sz := by
    rcases Nat.eq_zero_or_pos sz with h0 | h0
    · rw [h0] at g3; exact absurd g3 hpos
    · exact h0
  have hix : qq_s (2 * v) n sd c * d + fi < w * h * 6 * (2 * v) * d := qq_sd_lt hsl g1
  have hsz4 : sz ≤ 4 := by omega
  have T1 := pc_firstFlit (n := w * h) (F := F) (σ := σ) hsl (by omega) (by omega) hix e0 g4
  have T2 := pc_takeOut (n := w * h) (F := F) (σ := σ) hsl (by omega) (by omega) d5 d6 g1 hszp hsz4 hfl (by omega) hix e0 g4 g2 e3 g7
  obtain ⟨⟨rf, τ1⟩, T3, T4, f17, f18, f21, hf⟩ := pr_take (F := F) (by omega) hll hszp hsz4 (by omega) g3 g8
  have T4 : rf = τ 18 (4 * qq_l n sd c) := T4
  have f17 : τ1 17 = upd (τ 17) (qq_l n sd c) (nI (sz - 1)) := f17
  have f18 : τ1 18 = qq_sh (τ 18) (qq_l n sd c) (sz - 1) := f18
  have f21 : τ1 21 = upd (τ 21) (qq_l n sd c) (nI (bk + 1)) := f21
  have hf : ∀ k, k ≠ 17 → k ≠ 18 → k ≠ 21 → τ1 k = τ k := hf
  have hFl : qq_F made (τ 3) (σ 4 (qq_s (2 * v) n sd c * d + fi)) rf := by
    have := g10 0 (by omega)
    rw [Nat.add_zero, Nat.mod_eq_of_lt g1, Nat.add_zero] at this
    rw [T4]; exact this
  refine ⟨_, rf, _, τ1, T1, T2, T3, T4, hFl, ?_, fun k k5 k6 k9 => by rw [jj_up_ne k9, jj_up_ne k6, jj_up_ne k5], hf, ?_⟩
  · refine ⟨?_, ?_, ?_, ?_, ?_, ?_, ?_, ?_, ?_, ?_⟩
    · unfold qq_Z at hZ ⊢
      simp (disch := omega) only [jj_up_ne, hf]; exact hZ
    · unfold qq_M at hM ⊢
      simp (disch := omega) only [jj_up_ne, hf]; exact hM
    · unfold qq_PT at hP ⊢
      simp (disch := omega) only [jj_up_ne, hf]; exact hP
    · unfold qq_WT at hW ⊢
      simp (disch := omega) only [jj_up_ne, hf]; exact hW
    · unfold qq_QT at hQ ⊢
      simp (disch := omega) only [jj_up_ne, hf]; exact hQ
    · intro n' sd' c' hn' hs' hc'
      obtain ⟨u1, u2, u3⟩ := qq_geo hD hn' hs'
      have hL' := hL n' sd' c' hn' hs' hc'
      simp (disch := omega) only [jj_up_ne, jj_up_same, hf, f17, f18, f21]
      by_cases he : n' = n ∧ sd' = sd ∧ c' = c
      · obtain ⟨rfl, rfl, rfl⟩ := he
        refine ⟨sz - 1, (fi + 1) % d, cr, bk + 1, Nat.mod_lt _ (by omega), pk_us, pk_us, pk_us, g5, g6, pk_us, pk_us, by omega, fun i hi => ?_, g11⟩
        have e5 : qq_sh (τ 18) (qq_l n' sd' c') (sz - 1) (4 * qq_l n' sd' c' + i) = τ 18 (4 * qq_l n' sd' c' + (i + 1)) := by unfold qq_sh; rw [if_pos (by omega)]; rfl
        rw [e5, qq_modstep d5 d6 g1 (by omega)]
        exact g10 (i + 1) (by omega)
      · have n1 : qq_s (2 * v) n' sd' c' ≠ qq_s (2 * v) n sd c := fun e => he (qq_s_inj hs' hc' hs hc e)
        have n2 : qq_s (2 * v) (qq_f w h n' sd').1 (qq_f w h n' sd').2 c' ≠ qq_s (2 * v) (qq_f w h n sd).1 (qq_f w h n sd).2 c := fun e => by
          obtain ⟨i1, i2, i3⟩ := qq_s_inj u2 hc' q2 hc e
          rw [i1, i2, q3] at u3
          injection u3 with j1 j2
          exact he ⟨j1.symm, j2.symm, i3⟩
        have n3 : qq_l n' sd' c' ≠ qq_l n sd c := fun e => he (qq_l_inj (by omega) (by omega) hs' (by omega) hs (by omega) e)
        obtain ⟨sz', fi', cr', bk', k1, k2, k3, k4, k5, k6, k7, k8, k9, k10, k11⟩ := hL'
        refine ⟨sz', fi', cr', bk', k1, by rw [pk_un n1]; exact k2, by rw [pk_un n3]; exact k3, by rw [pk_un n1]; exact k4, k5, k6, by rw [pk_un n2]; exact k7, by rw [pk_un n3]; exact k8, k9, fun i hi => ?_, k11⟩
        have e5 : qq_sh (τ 18) (qq_l n sd c) (sz - 1) (4 * qq_l n' sd' c' + i) = τ 18 (4 * qq_l n' sd' c' + i) := by
          unfold qq_sh; rw [if_neg (by omega)]
        rw [e5]
        exact k10 i hi
    · unfold qq_RT at hRt ⊢
      simp (disch := omega) only [jj_up_ne, hf]; exact hRt
    · intro l hl hno
      have := hE l hl hno
      have hon : qq_o w h n sd = true := by
        cases ho : qq_o w h n sd with
        | true => rfl
        | false =>
          refine absurd (hE (qq_l n sd c) hll (fun n' sd' c' a1 a2 a3 a4 e => ?_)).1 hpos
          obtain ⟨e1, e2, e3⟩ := qq_l_inj (by omega) (by omega) hs (by omega) a2 (by omega) e
          rw [← e1, ← e2, ho] at a4
          exact Bool.noConfusion a4
      rw [f17, f21, hf 19 (by decide) (by decide) (by decide), hf 20 (by decide) (by decide) (by decide), pk_un (hno n sd c hn hs hc hon), pk_un (hno n sd c hn hs hc hon)]
      exact this
    · refine qq_U_of hU (qq_rt (qq_l n sd c)) (fun t a i k p q => ⟨p, qq_Ktk hll hszp hsz4 g3 f17 f18 hf q⟩) (fun t a i t' a' i' k p p' q q' e => ?_)
      unfold qq_rt at e
      split at e <;> split at e
      · rename_i u1 u2
        injection e with e1 e2
        injection e2 with e2 e3
        exact ⟨u1.1.trans u2.1.symm, e2, by omega⟩
      · rename_i u1 u2
        injection e with e1 e2
        injection e2 with e2 e3
        exact absurd ⟨e1.symm, by rw [← e2]; exact u1.2⟩ u2
      · rename_i u1 u2
        injection e with e1 e2
        injection e2 with e2 e3
        exact absurd ⟨e1, by rw [e2]; exact u2.2⟩ u1
      · injection e with e1 e2
        injection e2 with e2 e3
        exact ⟨e1, e2, e3⟩
    · intro t a i k p q
      have := hV _ _ _ _ _ (qq_Ktk hll hszp hsz4 g3 f17 f18 hf q)
      simp (disch := omega) only [jj_up_ne, hf]
      exact this
  · intro k p j hk hp hj hrf
    have h0 : qq_KT cpl τ 2 (qq_l n sd c) 0 k p := ⟨hk, Or.inr (Or.inr (Or.inl ⟨rfl, hp, hll, ⟨sz, g3, hsz4, (show 0 < sz by omega)⟩, j, hj, by rw [Nat.add_zero, ← T4]; exact hrf⟩))⟩
    refine ⟨hV _ _ _ _ _ h0, fun t a i p' q => ?_⟩
    obtain ⟨x1, x2, x3⟩ := hU _ _ _ _ _ _ _ _ _ h0 (qq_Ktk hll hszp hsz4 g3 f17 f18 hf q)
    unfold qq_rt at x1 x2 x3
    split at x3
    · exact absurd x3 (by simp)
    · rename_i hne
      rw [if_neg hne] at x1 x2
      exact hne ⟨x1.symm, x2.symm⟩
