theorem qq_route {w h d v made cpl : Nat} {σ τ σ' τ' : jj_S} (hD : qq_D w h d v) (hR : qq_Rel w h d v made cpl σ τ) (hI : qq_rI w h v σ τ σ' (w * h) 0 0) (hJ : qq_rJ w (w * h) τ τ' (20 * (w * h))) : qq_Rel w h d v made cpl σ' τ' ∧ τ' 0 15 = τ 0 15 := by
  obtain ⟨hZ, hM, hP, hW, hQ, hL, hRt, hE, hU, hV⟩ := hR
  have h9 := qq_n9 hD
  have hd4 : d ≤ 4 := hD.2.2.1.2
  have h2v : 2 * v ≤ 4 := by have := hD.2.2.2.2; omega
  have sf := hI.1
  have tf := hJ.1
  have hRel : ∀ {n sd c : Nat}, n < w * h → sd < 6 → c < 2 * v → τ 17 (qq_l n sd c) ≠ nI 0 → qq_tg τ (qq_l n sd c) < w * h := fun hn hs hc hp => by
    obtain ⟨_, _, _, _, _, _, _, _, _, q, _⟩ := qq_tgt (F := 0) (σi := σ) hD ⟨hZ, hM, hP, hW, hQ, hL, hRt, hE, hU, hV⟩ hn hs hc hp (fun _ _ _ => rfl)
    exact q
  refine ⟨⟨?_, ?_, ?_, ?_, ?_, ?_, ?_, ?_, ?_, ?_⟩, by rw [tf 0 (by decide) (by decide)]⟩
  · unfold qq_Z at hZ ⊢
    simp (disch := omega) only [sf, tf]; exact hZ
  · unfold qq_M at hM ⊢
    simp (disch := omega) only [sf, tf]; exact hM
  · unfold qq_PT at hP ⊢
    simp (disch := omega) only [sf, tf]; exact hP
  · unfold qq_WT at hW ⊢
    simp (disch := omega) only [sf, tf]; exact hW
  · unfold qq_QT at hQ ⊢
    simp (disch := omega) only [sf, tf]; exact hQ
  · unfold qq_LT at hL ⊢
    simp (disch := omega) only [sf, tf]; exact hL
  · unfold qq_RT at hRt ⊢
    simp (disch := omega) only [sf, tf]
    refine ⟨fun n p c hn hp hc => ?_, hRt.2⟩
    obtain ⟨st, wy, tk, tn, r1, r2, r3, r4, r5, r6, r7, r8, r9, r10, r11, r12, r13⟩ := hRt.1 n p c hn hp hc
    have hl : qq_l n p c < 20 * (w * h) ∧ qq_l n p c / 20 = n := by unfold qq_l; rw [if_pos hp]; omega
    have A := hI.2 n p c hn hp hc
    have B := hJ.2 (qq_l n p c) hl.1
    by_cases hcond : qq_rc τ (qq_l n p c)
    · obtain ⟨a1, a2⟩ := A.1 ⟨by unfold qq_bf; omega, hcond⟩
      obtain ⟨b1, b2⟩ := B.1 ⟨hl.1, hcond⟩
      rw [hl.2] at b2
      obtain ⟨g1, g2⟩ := qq_geo3 hD hn (hRel hn (show p < 6 by omega) hc hcond.2)
      exact ⟨1, _, tk, tn, by decide, g1, r3, r4, a1, b1, a2, b2, fun _ => g2, r10, r11, r12, r13⟩
    · obtain ⟨a1, a2⟩ := A.2 (fun q => hcond q.2)
      obtain ⟨b1, b2⟩ := B.2 (fun q => hcond q.2)
      exact ⟨st, wy, tk, tn, r1, r2, r3, r4, by rw [a1]; exact r5, by rw [b1]; exact r6, by rw [a2]; exact r7, by rw [b2]; exact r8, r9, r10, r11, r12, r13⟩
  · simp (disch := omega) only [tf]; exact hE
  · unfold qq_U qq_KT at hU ⊢
    simp (disch := omega) only [tf]; exact hU
  · unfold qq_V qq_KT at hV ⊢
    simp (disch := omega) only [sf, tf]; exact hV
