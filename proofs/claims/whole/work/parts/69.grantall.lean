/-! GRANTING, whole -/
def qq_ask (τ : jj_S) (n p c o : Nat) : Prop := τ 22 (qq_l n p c) = nI 1 ∧ τ 23 (qq_l n p c) = nI o
/-- the outputs that a lane ahead of (n, p, c) asked for -/
def qq_gP (τ : jj_S) (n p c : Nat) : Nat → Nat → Nat → Prop := fun n' o' c' => ∃ p', p' < 5 ∧ qq_bf n' p' c' n p c ∧ qq_ask τ n' p' c' o'
def qq_gC (w h v : Nat) (σ τ σi : jj_S) (n p c : Nat) : Prop := (∀ k, k ≠ 32 → k ≠ 34 → k ≠ 35 → σi k = σ k) ∧ qq_gI w h v τ (qq_gP τ n p c) (qq_c3 (2 * v) 32 σi) (qq_c3 (2 * v) 34 σi) (qq_c3 (2 * v) 35 σi)
theorem qq_gC_eq {w h v n p c n2 p2 c2 : Nat} {σ τ σi : jj_S} (hI : qq_gC w h v σ τ σi n p c) (he : ∀ n' p' c', n' < w * h → p' < 5 → c' < 2 * v → (qq_bf n' p' c' n p c ↔ qq_bf n' p' c' n2 p2 c2)) : qq_gC w h v σ τ σi n2 p2 c2 :=
  ⟨hI.1, qq_gI_cong hI.2 (fun n' o' c' a1 a2 a3 _ => ⟨fun ⟨p', b1, b2, b3⟩ => ⟨p', b1, (he n' p' c' a1 b1 a3).mp b2, b3⟩, fun ⟨p', b1, b2, b3⟩ => ⟨p', b1, (he n' p' c' a1 b1 a3).mpr b2, b3⟩⟩)⟩
/-- a lane that stands at stage 1 now stood there at the beginning; one that stood there and doesn't now has won where it asked -/
theorem qq_g_now {w h v n p c : Nat} {τ : jj_S} {Pr : Nat → Nat → Nat → Prop} {fs fk ft : Nat → Nat → Nat → Int32} (hI : qq_gI w h v τ Pr fs fk ft) (hn : n < w * h) (hp : p < 5) (hc : c < 2 * v) : (fs n p c = nI 1 → τ 22 (qq_l n p c) = nI 1) ∧ (fs n p c ≠ nI 1 → τ 22 (qq_l n p c) = nI 1 → ∃ o, o < 5 ∧ Pr n o c ∧ τ 23 (qq_l n p c) = nI o) := by
  obtain ⟨h1, h2, h3⟩ := hI
  by_cases hw : ∃ o i, o < 5 ∧ Pr n o c ∧ qq_gG τ n o c i ∧ p = (qq_gt τ n o c + i) % 5
  · obtain ⟨o, i, ho, hP, hG, hpe⟩ := hw
    have e := (h1 n o c i hn ho hc hP hG).2.2
    rw [← hpe] at e
    have hA := hG.2.2.1
    rw [← hpe] at hA
    exact ⟨fun q => hA.1, fun _ _ => ⟨o, ho, hP, hA.2⟩⟩
  · have e := h3 n p c hn hp hc (fun o i ho q => hw ⟨o, i, ho, q⟩)
    exact ⟨fun q => by rw [← e]; exact q, fun q q2 => absurd (e.trans q2) q⟩
set_option maxHeartbeats 1000000 in
theorem pc_grantAll {w h d v made cpl F : Nat} {σ τ : jj_S} (hF : 300 ≤ F) (hD : qq_D w h d v) (hR : qq_Rel w h d v made cpl σ τ) : pp_S (f_Routers_grantAll (w * h) (w * h * 6 * (2 * v)) (w * h * 6 * (2 * v) * d) F σ) (fun σ' => qq_gC w h v σ τ σ' (w * h) 0 0) := by
  have h9 := qq_n9 hD
  have hS := qq_S216 hD
  have h2v : 2 * v ≤ 4 := by have := hD.2.2.2.2; omega
  have e4 := hR.1.1.2.2.2.2.1
  have e5 := hR.1.1.2.2.2.2.2
  unfold f_Routers_grantAll
  rw [pp_0]
  refine pp_lp1 (e := w * h) (I := fun i σi => qq_gC w h v σ τ σi i 0 0) ?_ ?_ F 0 σ (by omega) (by omega) ?_
  · intro rec σi hI
    simp (disch := omega) only [b_Routers_grantAll_2, hI.1, e5, pp_le, Nat.le_refl, if_true]
    exact pp_some hI
  · intro rec n σi hn hI ih
    have hnn : ¬ (w * h ≤ n) := by omega
    simp (disch := omega) only [b_Routers_grantAll_2, hI.1, e5, pp_le, hnn, if_false, pp_0]
    refine pp_lp2 (e := 5) (I := fun p σi => qq_gC w h v σ τ σi n p 0) ?_ ?_ F 0 σi (by omega) (by omega) hI
    · intro rec2 σj hJ
      simp (disch := omega) only [b_Routers_grantAll_15, pp_5, pp_le, Nat.le_refl, if_true, pp_1, nI_add]
      exact ih σj (qq_gC_eq hJ (fun n' p' c' a1 a2 a3 => by unfold qq_bf; omega))
    · intro rec2 p σj hp hJ ih2
      have hnp : ¬ (5 ≤ p) := by omega
      simp (disch := omega) only [b_Routers_grantAll_15, pp_5, pp_le, hnp, if_false, pp_0]
      refine pp_lp3 (e := 2 * v) (I := fun c σi => qq_gC w h v σ τ σi n p c) ?_ ?_ F 0 σj (by omega) (by omega) hJ
      · intro rec3 σk hK
        simp (disch := omega) only [b_Routers_grantAll_22, hK.1, e4, pp_le, Nat.le_refl, if_true, pp_1, nI_add]
        exact ih2 σk (qq_gC_eq hK (fun n' p' c' a1 a2 a3 => by unfold qq_bf; omega))
      · intro rec3 c σk hc hK ih3
        have hnc : ¬ (2 * v ≤ c) := by omega
        have e4k : σk 1 4 = nI (2 * v) := by rw [hK.1 1 (by decide) (by decide) (by decide)]; exact e4
        have SL := pc_slot (n := w * h) (S := w * h * 6 * (2 * v)) (SD := w * h * 6 * (2 * v) * d) (F := F) (σ := σk) (C := 2 * v) (a := n) (b := p) (c := c) e4k
        have hsl : qq_s (2 * v) n p c < w * h * 6 * (2 * v) := qq_s_lt hn (by omega) hc
        obtain ⟨st, wy, tk, tn, r1, r2, r3, r4, r5, r6, r7, r8, r9, r10, r11, r12, r13⟩ := hR.2.2.2.2.2.2.1.1 n p c hn hp hc
        have k33 : σk 33 (qq_s (2 * v) n p c) = nI wy := by rw [hK.1 33 (by decide) (by decide) (by decide)]; exact r7
        obtain ⟨now1, now2⟩ := qq_g_now hK.2 hn hp hc
        by_cases h1 : σk 32 (qq_s (2 * v) n p c) = nI 1
        · obtain ⟨σ2, T, fr2, hI2⟩ := pc_gone (n := n) (o := wy) (c := c) hF hD hR hK.1 hK.2 hn r2 hc
          have B : b_Routers_grantAll_22 (w * h) (w * h * 6 * (2 * v)) (w * h * 6 * (2 * v) * d) F (fun σ4 x1_5 x2_6 x3_7 => rec2 σ4 x1_5 (x2_6 + (1 : Int32))) rec3 σk (nI n) (nI p) (nI c) = rec3 σ2 (nI n) (nI p) (nI (c + 1)) := by
            clear hI hJ hK ih ih2 ih3 hR r9 now1 now2 hI2
            simp (disch := omega) only [b_Routers_grantAll_22, e4k, pp_le, hnc, if_false, SL, pp_b2, pp_ckE, pp_cl, h1, pp_1, if_true, k33, T, pp_b1, nI_add]
          simp only [pp_1] at B ⊢
          rw [B]
          have t22 : τ 22 (qq_l n p c) = nI 1 := now1 h1
          refine ih3 _ ⟨fr2, qq_gI_cong hI2 (fun n' o' c' a1 a2 a3 _ => ⟨fun q => ?_, fun q => ?_⟩)⟩
          · rcases q with ⟨p', b1, b2, b3⟩ | ⟨rfl, rfl, rfl⟩
            · exact ⟨p', b1, by unfold qq_bf at b2 ⊢; omega, b3⟩
            · exact ⟨p, hp, by unfold qq_bf; omega, t22, r8⟩
          · obtain ⟨p', b1, b2, b3⟩ := q
            by_cases he : n' = n ∧ p' = p ∧ c' = c
            · obtain ⟨rfl, rfl, rfl⟩ := he
              have := b3.2
              rw [r8, pp_eq (by omega) (by omega)] at this
              exact Or.inr ⟨rfl, this.symm, rfl⟩
            · exact Or.inl ⟨p', b1, by unfold qq_bf at b2 ⊢; omega, b3⟩
        · have B : b_Routers_grantAll_22 (w * h) (w * h * 6 * (2 * v)) (w * h * 6 * (2 * v) * d) F (fun σ4 x1_5 x2_6 x3_7 => rec2 σ4 x1_5 (x2_6 + (1 : Int32))) rec3 σk (nI n) (nI p) (nI c) = rec3 σk (nI n) (nI p) (nI (c + 1)) := by
            clear hI hJ hK ih ih2 ih3 hR r9 now1 now2
            simp (disch := omega) only [b_Routers_grantAll_22, e4k, pp_le, hnc, if_false, SL, pp_b2, pp_ckE, pp_cl, h1, pp_1, nI_add]
          simp only [pp_1] at B ⊢
          rw [B]
          refine ih3 _ ⟨hK.1, qq_gI_cong hK.2 (fun n' o' c' a1 a2 a3 _ => ⟨fun q => ?_, fun q => ?_⟩)⟩
          · obtain ⟨p', b1, b2, b3⟩ := q
            exact ⟨p', b1, by unfold qq_bf at b2 ⊢; omega, b3⟩
          · obtain ⟨p', b1, b2, b3⟩ := q
            by_cases he : n' = n ∧ p' = p ∧ c' = c
            · obtain ⟨rfl, rfl, rfl⟩ := he
              obtain ⟨o, ho, hP, hw⟩ := now2 h1 b3.1
              have := b3.2
              rw [hw, pp_eq (by omega) (by omega)] at this
              rw [← this]
              exact hP
            · exact ⟨p', b1, by unfold qq_bf at b2 ⊢; omega, b3⟩
  · refine ⟨fun _ _ _ _ => rfl, fun n' o' c' i a1 a2 a3 hP _ => ?_, fun n' o' c' a1 a2 a3 _ => ?_, fun n' p' c' a1 a2 a3 _ => ?_⟩
    · obtain ⟨p', b1, b2, -⟩ := hP
      exact absurd b2 (by unfold qq_bf; omega)
    · obtain ⟨st, wy, tk, tn, r1, r2, r3, r4, r5, r6, r7, r8, r9, r10, r11, r12, r13⟩ := hR.2.2.2.2.2.2.1.1 n' o' c' a1 a2 a3
      exact ⟨r10.trans r11.symm, r12.trans r13.symm⟩
    · obtain ⟨st, wy, tk, tn, r1, r2, r3, r4, r5, r6, r7, r8, r9, r10, r11, r12, r13⟩ := hR.2.2.2.2.2.2.1.1 n' p' c' a1 a2 a3
      exact r5.trans r6.symm
theorem qq_gC_all {w h v : Nat} {σ τ σi : jj_S} (hI : qq_gC w h v σ τ σi (w * h) 0 0) : qq_gI w h v τ (fun _ _ _ => True) (qq_c3 (2 * v) 32 σi) (qq_c3 (2 * v) 34 σi) (qq_c3 (2 * v) 35 σi) :=
  qq_gI_cong hI.2 (fun n o c a1 a2 a3 ⟨i, hG⟩ => ⟨fun _ => trivial, fun _ => ⟨(qq_gt τ n o c + i) % 5, Nat.mod_lt _ (by decide), by unfold qq_bf; omega, hG.2.2.1⟩⟩)
/-- the reference, output by output -/
def qq_gR (w h v : Nat) (τ τi : jj_S) (i : Nat) : Prop := (∀ k, k ≠ 22 → k ≠ 24 → k ≠ 25 → τi k = τ k) ∧ qq_gI w h v τ (fun n o c => qq_l n o c < i) (qq_r3 22 τi) (qq_r3 24 τi) (qq_r3 25 τi)
set_option maxHeartbeats 1000000 in
theorem pr_grantAll {w h d v made cpl F : Nat} {σ τ : jj_S} {K : jj_S → Int32 → Int32 → Option jj_S} (hF : 300 ≤ F) (hD : qq_D w h d v) (hR : qq_Rel w h d v made cpl σ τ) : ∃ τ', jj_lp2 (b_rRef_tick_102 F K) F τ (nI (w * h)) (nI 0) = K τ' (nI (w * h)) (nI (20 * (w * h))) ∧ qq_gR w h v τ τ' (20 * (w * h)) := by
  have h9 := qq_n9 hD
  have h2v : 2 * v ≤ 4 := by have := hD.2.2.2.2; omega
  have e04 := hR.1.2.2.1.2.2.2.2
  have key : ∀ (k i : Nat) (τi : jj_S), i ≤ 20 * (w * h) → 20 * (w * h) < i + k → qq_gR w h v τ τi i → ∃ τ', jj_lp2 (b_rRef_tick_102 F K) k τi (nI (w * h)) (nI i) = K τ' (nI (w * h)) (nI (20 * (w * h))) ∧ qq_gR w h v τ τ' (20 * (w * h)) := by
    intro k
    induction k with
    | zero => intro i τi a1 a2; omega
    | succ k ih =>
      intro i τi a1 a2 hJ
      show ∃ τ', b_rRef_tick_102 F K (jj_lp2 (b_rRef_tick_102 F K) k) τi (nI (w * h)) (nI i) = _ ∧ _
      have e4 : τi 0 4 = nI (2 * v) := by rw [hJ.1 0 (by decide) (by decide) (by decide)]; exact e04
      rcases Nat.lt_or_ge i (20 * (w * h)) with hi | hi
      · have hni : ¬ (20 * (w * h) ≤ i) := by omega
        obtain ⟨l1, l2, l3⟩ := qq_lane (v := v) hi
        rcases Nat.lt_or_ge (i % 4) (2 * v) with hcv | hcv
        · obtain ⟨τ2, T, fr2, hI2⟩ := pr_gone (n := i / 20) (o := i / 4 % 5) (c := i % 4) hF hD hR hJ.1 hJ.2 l2 l3 hcv
          have hnc : ¬ (2 * v ≤ i % 4) := by omega
          have B : b_rRef_tick_102 F K (jj_lp2 (b_rRef_tick_102 F K) k) τi (nI (w * h)) (nI i) = jj_lp2 (b_rRef_tick_102 F K) k τ2 (nI (w * h)) (nI (i + 1)) := by
            clear ih hI2 hJ hR
            simp (disch := omega) only [b_rRef_tick_102, pp_20, pp_4, pp_5, pk_mul, pp_le, hni, if_false, pp_nzE, pp_rem, e4, hnc]
            have g4 : nI i / nI 4 = nI (i / 4) := pp_div (by omega) (by omega) (by omega)
            simp (disch := omega) only [g4, pp_rem]
            simp (disch := omega) only [pp_div, T, pp_b1, pp_1, nI_add]
          rw [B]
          refine ih (i + 1) τ2 (by omega) (by omega) ⟨fr2, qq_gI_cong hI2 (fun n' o' c' b1 b2 b3 _ => ⟨fun q => ?_, fun q => ?_⟩)⟩
          · rcases q with q | ⟨rfl, rfl, rfl⟩
            · omega
            · omega
          · by_cases he : qq_l n' o' c' = i
            · rw [l1] at he
              exact Or.inr (qq_l_inj (by omega) (by omega) (by omega) (by omega) (by omega) (by omega) he)
            · exact Or.inl (by omega)
        · have B : b_rRef_tick_102 F K (jj_lp2 (b_rRef_tick_102 F K) k) τi (nI (w * h)) (nI i) = jj_lp2 (b_rRef_tick_102 F K) k τi (nI (w * h)) (nI (i + 1)) := by
            clear ih hJ hR
            simp (disch := omega) only [b_rRef_tick_102, pp_20, pp_4, pp_5, pk_mul, pp_le, hni, if_false, pp_nzE, pp_rem, e4, hcv, if_true, pp_1, nI_add]
          rw [B]
          refine ih (i + 1) τi (by omega) (by omega) ⟨hJ.1, qq_gI_cong hJ.2 (fun n' o' c' b1 b2 b3 _ => ⟨fun q => by omega, fun q => ?_⟩)⟩
          have : qq_l n' o' c' ≠ i := fun he => by
            rw [qq_l4 b2] at he
            omega
          omega
      · obtain rfl : i = 20 * (w * h) := by omega
        refine ⟨τi, ?_, hJ⟩
        simp (disch := omega) only [b_rRef_tick_102, pp_20, pk_mul, pp_le, Nat.le_refl, if_true]
  refine key F 0 τ (by omega) (by omega) ⟨fun _ _ _ _ => rfl, fun n' o' c' i a1 a2 a3 hP _ => ?_, fun n' o' c' a1 a2 a3 _ => ⟨rfl, rfl⟩, fun n' p' c' a1 a2 a3 _ => rfl⟩
  exact absurd hP (by omega)
theorem qq_gR_all {w h v : Nat} {τ τi : jj_S} (h2v : 2 * v ≤ 4) (hI : qq_gR w h v τ τi (20 * (w * h))) : qq_gI w h v τ (fun _ _ _ => True) (qq_r3 22 τi) (qq_r3 24 τi) (qq_r3 25 τi) :=
  qq_gI_cong hI.2 (fun n o c a1 a2 a3 _ => ⟨fun _ => trivial, fun _ => by rw [qq_l4 a2]; omega⟩)
set_option maxHeartbeats 1000000 in
theorem qq_grant {w h d v made cpl : Nat} {σ τ σ' τ' : jj_S} (hD : qq_D w h d v) (hR : qq_Rel w h d v made cpl σ τ) (hC : qq_gC w h v σ τ σ' (w * h) 0 0) (hG : qq_gR w h v τ τ' (20 * (w * h))) : qq_Rel w h d v made cpl σ' τ' ∧ τ' 0 15 = τ 0 15 := by
  have h2v : 2 * v ≤ 4 := by have := hD.2.2.2.2; omega
  have A := qq_gC_all hC
  have B := qq_gR_all h2v hG
  have sf := hC.1
  have tf := hG.1
  obtain ⟨hZ, hM, hP, hW, hQ, hL, hRt, hE, hU, hV⟩ := hR
  refine ⟨⟨?_, ?_, ?_, ?_, ?_, ?_, ?_, ?_, ?_, ?_⟩, by rw [tf 0 (by decide) (by decide) (by decide)]⟩
  · unfold qq_Z at hZ ⊢
    simp (disch := omega) only [sf, tf]; exact hZ
  · unfold qq_M at hM ⊢
    simp (disch := omega) only [sf, tf]; exact hM
  · unfold qq_PT at hP ⊢
    simp (disch := omega) only [sf, tf]; exact hP
  · unfold qq_WT at hW ⊢
    simp (disch := omega) only [sf, tf]; exact hW
  · unfold qq_QT at hQ ⊢
    simp (disch := omega) only [sf, tf]; exact hQ
  · unfold qq_LT at hL ⊢
    simp (disch := omega) only [sf, tf]; exact hL
  · unfold qq_RT at hRt ⊢
    simp (disch := omega) only [sf, tf]
    refine ⟨fun n p c hn hp hc => ?_, hRt.2⟩
    obtain ⟨st, wy, tk, tn, r1, r2, r3, r4, r5, r6, r7, r8, r9, r10, r11, r12, r13⟩ := hRt.1 n p c hn hp hc
    have X : ∃ st', st' ≤ 2 ∧ (st' ≠ 0 → st ≠ 0) ∧ σ' 32 (qq_s (2 * v) n p c) = nI st' ∧ τ' 22 (qq_l n p c) = nI st' := by
      by_cases hw : ∃ o i, o < 5 ∧ qq_gG τ n o c i ∧ p = (qq_gt τ n o c + i) % 5
      · obtain ⟨o, i, ho, hGi, hpe⟩ := hw
        have x1 := (A.1 n o c i hn ho hc trivial hGi).2.2
        have x2 := (B.1 n o c i hn ho hc trivial hGi).2.2
        rw [← hpe] at x1 x2
        have hA := hGi.2.2.1
        rw [← hpe] at hA
        have := hA.1
        rw [r6, pp_eq (by omega) (by omega)] at this
        exact ⟨2, by decide, fun _ => by omega, x1, x2⟩
      · have x1 := A.2.2 n p c hn hp hc (fun o i ho q => hw ⟨o, i, ho, q.2⟩)
        have x2 := B.2.2 n p c hn hp hc (fun o i ho q => hw ⟨o, i, ho, q.2⟩)
        exact ⟨st, r1, fun q => q, x1.trans r6, x2.trans r6⟩
    have Y : ∃ tk' tn', tk' < 2 ∧ tn' < 5 ∧ σ' 34 (qq_s (2 * v) n p c) = nI tk' ∧ τ' 24 (qq_l n p c) = nI tk' ∧ σ' 35 (qq_s (2 * v) n p c) = nI tn' ∧ τ' 25 (qq_l n p c) = nI tn' := by
      by_cases hw : ∃ i, qq_gG τ n p c i
      · obtain ⟨i, hGi⟩ := hw
        obtain ⟨x1, x2, -⟩ := A.1 n p c i hn hp hc trivial hGi
        obtain ⟨y1, y2, -⟩ := B.1 n p c i hn hp hc trivial hGi
        exact ⟨1, _, by decide, Nat.mod_lt _ (by decide), x1, y1, x2, y2⟩
      · obtain ⟨x1, x2⟩ := A.2.1 n p c hn hp hc (fun i q => hw ⟨i, q.2⟩)
        obtain ⟨y1, y2⟩ := B.2.1 n p c hn hp hc (fun i q => hw ⟨i, q.2⟩)
        exact ⟨tk, tn, r3, r4, x1.trans r11, y1.trans r11, x2.trans r13, y2.trans r13⟩
    obtain ⟨st', x1, x2, x3, x4⟩ := X
    obtain ⟨tk', tn', y1, y2, y3, y4, y5, y6⟩ := Y
    exact ⟨st', wy, tk', tn', x1, r2, y1, y2, x3, x4, r7, r8, fun q => r9 (x2 q), y3, y4, y5, y6⟩
  · simp (disch := omega) only [tf]; exact hE
  · unfold qq_U qq_KT at hU ⊢
    simp (disch := omega) only [tf]; exact hU
  · unfold qq_V qq_KT at hV ⊢
    simp (disch := omega) only [sf, tf]; exact hV
