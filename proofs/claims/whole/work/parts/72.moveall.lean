/-! MOVING, whole -/
theorem qq_RT_same {w h v : Nat} {σ τ σ' τ' : jj_S} (hT : qq_RT w h v σ τ) (sf : ∀ k, k ≠ 31 → σ' k = σ k) (tf : ∀ k, k ≠ 28 → τ' k = τ k) : qq_RT w h v σ' τ' := by
  unfold qq_RT at hT ⊢
  simp (disch := omega) only [sf, tf]; exact hT
theorem qq_rd_same {w h n p c : Nat} {τ τ' : jj_S} (tf : ∀ k, k ≠ 28 → τ' k = τ k) : qq_rd w h τ' n p c ↔ qq_rd w h τ n p c := by
  unfold qq_rd
  simp (disch := omega) only [tf]
set_option maxHeartbeats 1000000 in
theorem qq_names {w h d v made cpl F n : Nat} {σ τ : jj_S} {K K' : jj_S → Int32 → Int32 → Option jj_S} (hF : 300 ≤ F) (hD : qq_D w h d v) (hR : qq_Rel w h d v made cpl σ τ) (hn : n < w * h) :
    ∃ σ' τ', jj_lp2 (b_Routers_moveAll_15 (w * h) (w * h * 6 * (2 * v)) (w * h * 6 * (2 * v) * d) F K) F σ (nI n) (nI 0) = K σ' (nI n) (nI 5) ∧ jj_lp2 (b_rRef_move_2 F K') F τ (nI n) (nI 0) = K' τ' (nI n) (nI 5) ∧ qq_Rel w h d v made cpl σ' τ' ∧ qq_J w h v σ' τ' n 0 ∧ τ' 0 15 = τ 0 15 := by
  have h9 := qq_n9 hD
  have h2v : 2 * v ≤ 4 := by have := hD.2.2.2.2; omega
  refine pp_w22 (P := fun o1 o2 => ∃ σ' τ', o1 = K σ' (nI n) (nI 5) ∧ o2 = K' τ' (nI n) (nI 5) ∧ qq_Rel w h d v made cpl σ' τ' ∧ qq_J w h v σ' τ' n 0 ∧ τ' 0 15 = τ 0 15) (I := fun p σi τi => (∀ k, k ≠ 31 → σi k = σ k) ∧ (∀ k, k ≠ 28 → τi k = τ k) ∧ ∀ p', p' < p → σi 31 p' = τi 28 p' ∧ (τi 28 p' = qq_m ∨ ∃ ch, ch < 2 * v ∧ τi 28 p' = nI ch ∧ qq_rd w h τ n p' ch)) (e := 5) ?_ ?_ F F 0 σ τ (by omega) (by omega) (by omega) ⟨fun _ _ => rfl, fun _ _ => rfl, fun p' q => absurd q (by omega)⟩
  · intro rec rec' σi τi ⟨a1, a2, a3⟩
    simp (disch := omega) only [b_Routers_moveAll_15, b_rRef_move_2, pp_5, pp_le, Nat.le_refl, if_true]
    refine ⟨σi, τi, rfl, rfl, qq_Rel_rt hR (fun k k1 _ _ _ _ => a1 k k1) (fun k _ _ _ _ k1 => a2 k k1) (qq_RT_same hR.2.2.2.2.2.2.1 a1 a2), fun p hp => ?_, by rw [a2 0 (by decide)]⟩
    obtain ⟨b1, b2⟩ := a3 p hp
    refine ⟨b1, ?_⟩
    rcases b2 with b2 | ⟨ch, c1, c2, c3⟩
    · exact Or.inl b2
    · obtain ⟨d1, d2, wy, d3, d4, d5, d6⟩ := c3
      refine Or.inr ⟨ch, wy, c1, d3, c2, ?_, fun _ => ⟨d4, ?_, ?_⟩⟩
      · rw [a2 23 (by decide)]; exact d5
      · rw [a2 17 (by decide)]; exact d1
      · rw [a2 20 (by decide)]; exact d6
  · intro rec rec' p σi τi hp ⟨a1, a2, a3⟩ ih
    have hRi : qq_Rel w h d v made cpl σi τi := qq_Rel_rt hR (fun k k1 _ _ _ _ => a1 k k1) (fun k _ _ _ _ k1 => a2 k k1) (qq_RT_same hR.2.2.2.2.2.2.1 a1 a2)
    obtain ⟨r, N1, N2, N3⟩ := qq_name (F := F) hF hD hRi hn hp
    have hnp : ¬ (5 ≤ p) := by omega
    have B1 : b_Routers_moveAll_15 (w * h) (w * h * 6 * (2 * v)) (w * h * 6 * (2 * v) * d) F K rec σi (nI n) (nI p) = rec (jj_up σi 31 p r) (nI n) (nI (p + 1)) := by
      clear ih a1 a2 a3 hR hRi N3
      simp (disch := omega) only [b_Routers_moveAll_15, pp_5, pp_le, hnp, if_false, N1, pp_b2, pp_ckE, pp_cl, pp_st, pp_1, nI_add]
    have B2 : b_rRef_move_2 F K' rec' τi (nI n) (nI p) = rec' (jj_up τi 28 p r) (nI n) (nI (p + 1)) := by
      clear ih a1 a2 a3 hR hRi N3
      simp (disch := omega) only [b_rRef_move_2, pp_5, pp_le, hnp, if_false, N2, pp_b2, pp_ckE, pp_cl, pp_st, pp_1, nI_add]
    rw [B1, B2]
    refine ih _ _ ⟨fun k k1 => by rw [jj_up_ne k1]; exact a1 k k1, fun k k1 => by rw [jj_up_ne k1]; exact a2 k k1, fun p' hp' => ?_⟩
    rw [jj_up_same, jj_up_same]
    by_cases he : p' = p
    · subst he
      rw [pk_us, pk_us]
      refine ⟨rfl, ?_⟩
      rcases N3 with N3 | ⟨ch, c1, c2, c3⟩
      · exact Or.inl N3
      · exact Or.inr ⟨ch, c1, c2, (qq_rd_same a2).mp c3⟩
    · rw [pk_un he, pk_un he]
      exact a3 p' (by omega)
set_option maxHeartbeats 1000000 in
theorem qq_moves {w h d v made cpl F n : Nat} {σ τ : jj_S} {K K' : jj_S → Int32 → Int32 → Option jj_S} (hF : 300 ≤ F) (hD : qq_D w h d v) (hR : qq_Rel w h d v made cpl σ τ) (hn : n < w * h) (hJ : qq_J w h v σ τ n 0) :
    ∃ σ' τ', jj_lp2 (b_Routers_moveAll_40 (w * h) (w * h * 6 * (2 * v)) (w * h * 6 * (2 * v) * d) F K) F σ (nI n) (nI 0) = K σ' (nI n) (nI 5) ∧ jj_lp2 (b_rRef_move_27 F K') F τ (nI n) (nI 0) = K' τ' (nI n) (nI 5) ∧ qq_Rel w h d v made cpl σ' τ' ∧ τ' 0 15 = τ 0 15 := by
  refine pp_w22 (P := fun o1 o2 => ∃ σ' τ', o1 = K σ' (nI n) (nI 5) ∧ o2 = K' τ' (nI n) (nI 5) ∧ qq_Rel w h d v made cpl σ' τ' ∧ τ' 0 15 = τ 0 15) (I := fun o σi τi => qq_Rel w h d v made cpl σi τi ∧ qq_J w h v σi τi n o ∧ τi 0 15 = τ 0 15) (e := 5) ?_ ?_ F F 0 σ τ (by omega) (by omega) (by omega) ⟨hR, hJ, rfl⟩
  · intro rec rec' σi τi ⟨a1, a2, a3⟩
    simp (disch := omega) only [b_Routers_moveAll_40, b_rRef_move_27, pp_5, pp_le, Nat.le_refl, if_true]
    exact ⟨σi, τi, rfl, rfl, a1, a3⟩
  · intro rec rec' o σi τi ho ⟨a1, a2, a3⟩ ih
    have hno : ¬ (5 ≤ o) := by omega
    rcases qq_choose (F := F) hF hD a1 hn ho a2 with ⟨C1, C2⟩ | ⟨p, ch, hp, hch, h28, h23, C1, C2⟩
    · have B1 : b_Routers_moveAll_40 (w * h) (w * h * 6 * (2 * v)) (w * h * 6 * (2 * v) * d) F K rec σi (nI n) (nI o) = rec σi (nI n) (nI (o + 1)) := by
        clear ih a1 a2 a3
        simp (disch := omega) only [b_Routers_moveAll_40, pp_5, pp_le, hno, if_false, C1, pp_b2, pp_1, pp_n1, if_true, nI_add]
      have B2 : b_rRef_move_27 F K' rec' τi (nI n) (nI o) = rec' τi (nI n) (nI (o + 1)) := by
        clear ih a1 a2 a3
        simp (disch := omega) only [b_rRef_move_27, pp_5, pp_le, hno, if_false, C2, pp_b1, pp_1, nI_add]
      rw [B1, B2]
      refine ih _ _ ⟨a1, fun p hp => ?_, a3⟩
      obtain ⟨b1, b2⟩ := a2 p hp
      refine ⟨b1, ?_⟩
      rcases b2 with b2 | ⟨ch, wy, c1, c2, c3, c4, c5⟩
      · exact Or.inl b2
      · exact Or.inr ⟨ch, wy, c1, c2, c3, c4, fun q => c5 (by omega)⟩
    · obtain ⟨σ', τ', M1, M2, M3, M4, M5⟩ := qq_move (F := F) hF hD a1 hn ho a2 hp hch h28 h23
      rw [M2] at C2
      have B1 : b_Routers_moveAll_40 (w * h) (w * h * 6 * (2 * v)) (w * h * 6 * (2 * v) * d) F K rec σi (nI n) (nI o) = rec σ' (nI n) (nI (o + 1)) := by
        clear ih a1 a2 a3 M3 M4
        simp (disch := omega) only [b_Routers_moveAll_40, pp_5, pp_le, hno, if_false, C1, pp_b2, pp_1, pp_n1, pp_m1, M1, pp_b1, nI_add]
      have B2 : b_rRef_move_27 F K' rec' τi (nI n) (nI o) = rec' τ' (nI n) (nI (o + 1)) := by
        clear ih a1 a2 a3 M3 M4
        simp (disch := omega) only [b_rRef_move_27, pp_5, pp_le, hno, if_false, C2, pp_b1, pp_1, nI_add]
      rw [B1, B2]
      exact ih _ _ ⟨M3, M4, by rw [M5]; exact a3⟩
theorem qq_moveAll {w h d v made cpl F : Nat} {σ τ : jj_S} {K : jj_S → Int32 → Int32 → Option jj_S} (hF : 300 ≤ F) (hD : qq_D w h d v) (hR : qq_Rel w h d v made cpl σ τ) :
    ∃ (σ' τ' : jj_S), f_Routers_moveAll (w * h) (w * h * 6 * (2 * v)) (w * h * 6 * (2 * v) * d) F σ = some σ' ∧ jj_lp2 (b_rRef_tick_84 F K) F τ (nI (w * h)) (nI 0) = K τ' (nI (w * h)) (nI (w * h)) ∧ qq_Rel w h d v made cpl σ' τ' ∧ τ' 0 15 = τ 0 15 := by
  have h9 := qq_n9 hD
  unfold f_Routers_moveAll
  rw [pp_0]
  refine pp_w12 (P := fun o1 o2 => ∃ (σ' τ' : jj_S), o1 = some σ' ∧ o2 = K τ' (nI (w * h)) (nI (w * h)) ∧ qq_Rel w h d v made cpl σ' τ' ∧ τ' 0 15 = τ 0 15) (I := fun _ σ1 τ1 => qq_Rel w h d v made cpl σ1 τ1 ∧ τ1 0 15 = τ 0 15) (e := w * h) ?_ ?_ F F 0 σ τ (by omega) (by omega) (by omega) ⟨hR, rfl⟩
  · intro rec rec' σ1 τ1 ⟨hR1, h15⟩
    have e5 := hR1.1.1.2.2.2.2.2
    simp (disch := omega) only [b_Routers_moveAll_2, b_rRef_tick_84, e5, pp_le, Nat.le_refl, if_true]
    exact ⟨σ1, τ1, rfl, rfl, hR1, h15⟩
  · intro rec rec' n σ1 τ1 hn ⟨hR1, h15⟩ ih
    have e5 := hR1.1.1.2.2.2.2.2
    have hnn : ¬ (w * h ≤ n) := by omega
    obtain ⟨σ2, τ2, N1, N2, hR2, hJ2, t2⟩ := qq_names (F := F) (K := fun σ4 x1_5 x2_6 => jj_lp2 (b_Routers_moveAll_40 (w * h) (w * h * 6 * (2 * v)) (w * h * 6 * (2 * v) * d) F (fun σ10 x1_11 x2_12 => rec σ10 (x1_11 + (1 : Int32)))) F σ4 x1_5 (0 : Int32)) (K' := fun σ4 x1_5 x2_6 => jj_lp2 (b_rRef_move_27 F (fun σ8 x1_9 x2_10 => some σ8)) F σ4 x1_5 (0 : Int32)) hF hD hR1 hn
    obtain ⟨σ3, τ3, M1, M2, hR3, t3⟩ := qq_moves (F := F) (K := fun σ10 x1_11 x2_12 => rec σ10 (x1_11 + (1 : Int32))) (K' := fun σ8 x1_9 x2_10 => some σ8) hF hD hR2 hn hJ2
    have B1 : b_Routers_moveAll_2 (w * h) (w * h * 6 * (2 * v)) (w * h * 6 * (2 * v) * d) F (fun σ13 x1_14 => some σ13) rec σ1 (nI n) = rec σ3 (nI (n + 1)) := by
      unfold b_Routers_moveAll_2
      rw [e5, if_neg (by rw [pp_le (by omega) (by omega)]; exact hnn)]
      refine N1.trans (M1.trans ?_)
      show rec σ3 (nI n + 1) = _
      rw [pp_1, nI_add]
    have B2 : f_rRef_move F τ1 (nI n) = some τ3 := N2.trans M2
    rw [B1]
    have B3 : b_rRef_tick_84 F K rec' τ1 (nI (w * h)) (nI n) = rec' τ3 (nI (w * h)) (nI (n + 1)) := by
      clear ih hR1 hR2 hR3 hJ2 N1 N2 M1 M2
      simp (disch := omega) only [b_rRef_tick_84, pp_le, hnn, if_false, B2, pp_b1, pp_1, nI_add]
    rw [B3]
    exact ih σ3 τ3 ⟨hR3, by rw [t3, t2]; exact h15⟩
/-! A TICK -/
theorem qq_lanes {w h d v made cpl : Nat} {σ τ : jj_S} (hD : qq_D w h d v) (hR : qq_Rel w h d v made cpl σ τ) : ∀ l, l < 216 → (τ 17 l = nI (τ 17 l).toNatClampNeg ∧ (τ 17 l).toNatClampNeg ≤ 4) ∧ (τ 19 l = qq_m ∨ (¬ τ 19 l < 0 ∧ (τ 17 l).toNatClampNeg ≤ 3)) := by
  intro l hl
  have hd4 : d ≤ 4 := hD.2.2.1.2
  by_cases hv : ∃ n sd c, n < w * h ∧ sd < 6 ∧ c < 2 * v ∧ l = qq_l n sd c
  · obtain ⟨n, sd, c, hn, hs, hc', rfl⟩ := hv
    obtain ⟨sz, fi, cr, bk, g1, g2, g3, g4, g5, g6, g7, g8, g9, g10, g11⟩ := hR.2.2.2.2.2.1 n sd c hn hs hc'
    rw [g3, pp_cl (by omega)]
    refine ⟨⟨rfl, by omega⟩, ?_⟩
    rcases g11 with g11 | g11
    · exact Or.inl g11.2
    · have ne := qq_F_ne hR.2.2.1.1.1 g11
      rw [if_neg ne.2.1] at g9
      exact Or.inr ⟨ne.2.2.1, by omega⟩
  · have := hR.2.2.2.2.2.2.2.1 l hl (fun n sd c hn hs hc' _ e => hv ⟨n, sd, c, hn, hs, hc', e⟩)
    rw [this.1]
    exact ⟨⟨rfl, by decide⟩, Or.inl this.2.1⟩
set_option maxHeartbeats 1000000 in
theorem qq_tick {w h d v made cpl F : Nat} {σ τ : jj_S} (hF : 300 ≤ F) (hD : qq_D w h d v) (hR : qq_Rel w h d v made cpl σ τ) :
    ∃ (σ' τ' : jj_S) (cpl' : Nat), f_Mesh_tick (w * h) (w * h * 6 * (2 * v)) (w * h * 6 * (2 * v) * d) F σ = some σ' ∧ f_rRef_tick F τ = some τ' ∧ qq_Rel w h d v made cpl' σ' τ' := by
  have h9 := qq_n9 hD
  have hS := qq_S216 hD
  have h1v : 1 ≤ v := hD.2.2.2.1
  have hd1 : 1 ≤ d := hD.2.2.1.1
  have hd4 : d ≤ 4 := hD.2.2.1.2
  have hLn := qq_lanes hD hR
  have h15 : σ 0 5 = τ 0 15 := hR.2.1.2.2.2.2.1
  -- the arrival
  have a1 : ∀ k, k ≠ 0 → jj_up σ 0 5 (σ 0 5 + 1) k = σ k := fun k hk => jj_up_ne hk
  have b1 : ∀ k, k ≠ 0 → jj_up (jj_up τ 0 15 (τ 0 15 + 1)) 0 16 0 k = τ k := fun k hk => by rw [jj_up_ne hk, jj_up_ne hk]
  obtain ⟨σ2, A1, A2⟩ := pc_arrive (n := w * h) (S := w * h * 6 * (2 * v)) (d := d) (F := F) (σ := jj_up σ 0 5 (σ 0 5 + 1)) (fi := fun s => (jj_up σ 0 5 (σ 0 5 + 1) 5 s).toNatClampNeg) (sz := fun s => (jj_up σ 0 5 (σ 0 5 + 1) 6 s).toNatClampNeg) hd1 hd4 hS hF (by rw [a1 2 (by decide)]; exact hR.1.2.1.1)
    (fun s hs => by
      obtain ⟨n, sd, c, hn, hsd, hc, rfl⟩ := qq_slot (by omega) hs
      obtain ⟨sz, fi, q1, q2, q3, q4, q5, q6⟩ := qq_Lsz hR.2.2.2.2.2.1 hn hsd hc
      show jj_up σ 0 5 (σ 0 5 + 1) 5 _ = nI (jj_up σ 0 5 (σ 0 5 + 1) 5 _).toNatClampNeg ∧ (jj_up σ 0 5 (σ 0 5 + 1) 5 _).toNatClampNeg < d
      rw [a1 5 (by decide), q4, pp_cl (by omega)]
      exact ⟨rfl, q2⟩)
    (fun s hs => by
      obtain ⟨n, sd, c, hn, hsd, hc, rfl⟩ := qq_slot (by omega) hs
      obtain ⟨sz, fi, q1, q2, q3, q4, q5, q6⟩ := qq_Lsz hR.2.2.2.2.2.1 hn hsd hc
      show jj_up σ 0 5 (σ 0 5 + 1) 6 _ = nI (jj_up σ 0 5 (σ 0 5 + 1) 6 _).toNatClampNeg ∧ (jj_up σ 0 5 (σ 0 5 + 1) 6 _).toNatClampNeg ≤ 4
      rw [a1 6 (by decide), q3, pp_cl (by omega)]
      exact ⟨rfl, by omega⟩)
  obtain ⟨τ2, B1, B2⟩ := pr_arrive (F := F) (τ := jj_up (jj_up τ 0 15 (τ 0 15 + 1)) 0 16 0) (sz := fun l => (jj_up (jj_up τ 0 15 (τ 0 15 + 1)) 0 16 0 17 l).toNatClampNeg) hF
    (fun l hl => by
      show jj_up (jj_up τ 0 15 (τ 0 15 + 1)) 0 16 0 17 l = nI (jj_up (jj_up τ 0 15 (τ 0 15 + 1)) 0 16 0 17 l).toNatClampNeg ∧ (jj_up (jj_up τ 0 15 (τ 0 15 + 1)) 0 16 0 17 l).toNatClampNeg ≤ 4
      rw [b1 17 (by decide)]; exact (hLn l hl).1)
    (fun l hl => by
      show jj_up (jj_up τ 0 15 (τ 0 15 + 1)) 0 16 0 19 l = qq_m ∨ (¬ jj_up (jj_up τ 0 15 (τ 0 15 + 1)) 0 16 0 19 l < 0 ∧ (jj_up (jj_up τ 0 15 (τ 0 15 + 1)) 0 16 0 17 l).toNatClampNeg ≤ 3)
      rw [b1 17 (by decide), b1 19 (by decide)]; exact (hLn l hl).2)
  have hR2 := qq_arr (x := τ 0 15 + 1) hD hR a1 (by rw [jj_up_same, pk_us, h15]) b1 (fun j j1 j2 => by rw [jj_up_same, pk_un j2, jj_up_same, pk_un j1]) (by rw [jj_up_same, pk_un (by decide), jj_up_same, pk_us]) (by rw [jj_up_same, pk_us]; rfl) A2 B2
  -- the rest
  obtain ⟨σ3, τ3, cpl3, T1, T2, hR3, t3⟩ := qq_takeAll (F := F) (K := fun σ10 x1_11 x2_12 => jj_lp2 (b_rRef_tick_66 F (fun σ14 x1_15 x2_16 => jj_lp2 (b_rRef_tick_84 F (fun σ18 x1_19 x2_20 => jj_lp2 (b_rRef_tick_102 F (fun σ22 x1_23 x2_24 => jj_lp2 (b_rRef_tick_144 F (fun σ26 x1_27 x2_28 => some σ26)) F σ22 x1_23 (0 : Int32))) F σ18 x1_19 (0 : Int32))) F σ14 x1_15 (0 : Int32))) F σ10 x1_11 (0 : Int32)) (x := σ2 0 5) hF hD hR2 hR2.2.1.2.2.2.2.1
  obtain ⟨σ4, τ4, S1, S2, hR4, t4⟩ := qq_sendAll (F := F) (K := fun σ14 x1_15 x2_16 => jj_lp2 (b_rRef_tick_84 F (fun σ18 x1_19 x2_20 => jj_lp2 (b_rRef_tick_102 F (fun σ22 x1_23 x2_24 => jj_lp2 (b_rRef_tick_144 F (fun σ26 x1_27 x2_28 => some σ26)) F σ22 x1_23 (0 : Int32))) F σ18 x1_19 (0 : Int32))) F σ14 x1_15 (0 : Int32)) hF hD hR3
  obtain ⟨σ5, τ5, M1, M2, hR5, t5⟩ := qq_moveAll (F := F) (K := fun σ18 x1_19 x2_20 => jj_lp2 (b_rRef_tick_102 F (fun σ22 x1_23 x2_24 => jj_lp2 (b_rRef_tick_144 F (fun σ26 x1_27 x2_28 => some σ26)) F σ22 x1_23 (0 : Int32))) F σ18 x1_19 (0 : Int32)) hF hD hR4
  obtain ⟨σ6, G1, G2⟩ := pc_grantAll (F := F) hF hD hR5
  obtain ⟨τ6, H1, H2⟩ := pr_grantAll (F := F) (K := fun σ22 x1_23 x2_24 => jj_lp2 (b_rRef_tick_144 F (fun σ26 x1_27 x2_28 => some σ26)) F σ22 x1_23 (0 : Int32)) hF hD hR5
  have hR6 := (qq_grant hD hR5 G2 H2).1
  obtain ⟨σ7, I1, I2⟩ := pc_routeAll (F := F) hF hD hR6
  obtain ⟨τ7, J1, J2⟩ := pr_routeAll (F := F) (K := fun σ26 x1_27 x2_28 => some σ26) hF hD hR6
  have hR7 := (qq_route hD hR6 I2 J2).1
  refine ⟨σ7, τ7, cpl3, ?_, ?_, hR7⟩
  · unfold f_Mesh_tick
    rw [pp_st, A1, pp_b1, T1, pp_b1, S1, pp_b1, M1, pp_b1, G1, pp_b1, I1, pp_b1]
  · have hw : τ 0 0 * τ 0 1 = nI (w * h) := by rw [hR.1.2.2.1.1, hR.1.2.2.1.2.1, pk_mul]
    unfold f_rRef_tick
    rw [hw, pp_lt, pp_st, pp_st, B1, pp_b1]
    exact T2.trans (S2.trans (M2.trans (H1.trans J1)))
