/-! THE PART ROUTING, whole -/
def qq_tg (τ : jj_S) (l : Nat) : Nat := (if (τ 18 (4 * l)).toNatClampNeg / 4 % 2 = 0 then τ 2 ((τ 18 (4 * l)).toNatClampNeg / 8) else τ 1 ((τ 18 (4 * l)).toNatClampNeg / 8)).toNatClampNeg
theorem qq_tgt {w h d v made cpl F n sd c : Nat} {σ τ σi : jj_S} (hD : qq_D w h d v) (hR : qq_Rel w h d v made cpl σ τ) (hn : n < w * h) (hs : sd < 6) (hc : c < 2 * v) (hpos : τ 17 (qq_l n sd c) ≠ nI 0) (hi : ∀ k, k ≠ 32 → k ≠ 33 → σi k = σ k) :
    ∃ (k p j : Nat) (cf : Int32), τ 18 (4 * qq_l n sd c) = nI (4 * (2 * k + p) + j) ∧ k < 400 ∧ p < 2 ∧ j < 4 ∧ (if p = 0 then τ 2 k else τ 1 k) = nI (qq_tg τ (qq_l n sd c)) ∧ qq_tg τ (qq_l n sd c) < w * h ∧ f_Links_firstFlit (w * h) (w * h * 6 * (2 * v)) (w * h * 6 * (2 * v) * d) F σi (nI (qq_s (2 * v) n sd c)) = some (cf, σi) ∧ f_Packets_goal (w * h) (w * h * 6 * (2 * v)) (w * h * 6 * (2 * v) * d) F σi cf = some (nI (qq_tg τ (qq_l n sd c)), σi) := by
  obtain ⟨hZ, hM, hP, hW, hQ, hL, hRt, hE, hU, hV⟩ := hR
  obtain ⟨⟨d1, d2⟩, ⟨d3, d4⟩, ⟨d5, d6⟩, ⟨d7, d8⟩⟩ := id hD
  have h9 := qq_n9 hD
  have hm := hP.1.1
  obtain ⟨sz, fi, cr, bk, g1, g2, g3, g4, g5, g6, g7, g8, g9, g10, g11⟩ := hL n sd c hn hs hc
  have hsl : qq_s (2 * v) n sd c < w * h * 6 * (2 * v) := qq_s_lt hn hs hc
  have hS := qq_S216 hD
  have hSD : w * h * 6 * (2 * v) * d ≤ 864 := Nat.le_trans (Nat.mul_le_mul hS d6) (by decide)
  have hszp : 1 ≤ sz := by
    rcases Nat.eq_zero_or_pos sz with h0 | h0
    · rw [h0] at g3; exact absurd g3 hpos
    · exact h0
  have hFl := g10 0 (by omega)
  rw [Nat.add_zero, Nat.mod_eq_of_lt g1, Nat.add_zero] at hFl
  obtain ⟨k, p, j, hk, hp, hj, e1, e2⟩ := hFl
  have hl := qq_len_in (τ 3 k) p
  obtain ⟨fr, to, x, wd, p1, p2, p3, p4, p5, p6, p7, p8, -⟩ := hP.1.2 k hk
  have et : qq_tg τ (qq_l n sd c) = if p = 0 then to else fr := by
    unfold qq_tg
    rw [e1, pp_cl (by omega), show (4 * (2 * k + p) + j) / 4 % 2 = p by omega, show (4 * (2 * k + p) + j) / 8 = k by omega, p8, p6]
    split <;> exact pp_cl (by omega)
  have T1 := pc_firstFlit (n := w * h) (F := F) (σ := σi) (d := d) (fi := fi) hsl (by omega) (by omega) (qq_sd_lt hsl g1) (by rw [hi 2 (by decide) (by decide)]; exact hZ.2.1.1) (by rw [hi 5 (by decide) (by decide)]; exact g4)
  rw [hi 4 (by decide) (by decide), e2] at T1
  have ht : (if j + 1 = qq_len (τ 3 k) p then 1 else 0) < 2 := by split <;> decide
  refine ⟨k, p, j, _, e1, by omega, hp, by omega, ?_, ?_, T1, ?_⟩
  · rw [et, p8, p6]; split <;> rfl
  · rw [et]; split <;> assumption
  · rw [pc_goal (by omega) hp ht, hi 12 (by decide) (by decide), hi 11 (by decide) (by decide), et, p7, p5]
    split <;> rfl
def qq_bf (n' p' c' n p c : Nat) : Prop := n' < n ∨ (n' = n ∧ (p' < p ∨ (p' = p ∧ c' < c)))
def qq_rc (τ : jj_S) (l : Nat) : Prop := τ 22 l = nI 0 ∧ τ 17 l ≠ nI 0
def qq_rI (w h v : Nat) (σ τ σi : jj_S) (n p c : Nat) : Prop := (∀ k, k ≠ 32 → k ≠ 33 → σi k = σ k) ∧ ∀ n' p' c', n' < w * h → p' < 5 → c' < 2 * v → (qq_bf n' p' c' n p c ∧ qq_rc τ (qq_l n' p' c') → σi 32 (qq_s (2 * v) n' p' c') = nI 1 ∧ σi 33 (qq_s (2 * v) n' p' c') = nI (qq_wy w n' (qq_tg τ (qq_l n' p' c')))) ∧ (¬ (qq_bf n' p' c' n p c ∧ qq_rc τ (qq_l n' p' c')) → σi 32 (qq_s (2 * v) n' p' c') = σ 32 (qq_s (2 * v) n' p' c') ∧ σi 33 (qq_s (2 * v) n' p' c') = σ 33 (qq_s (2 * v) n' p' c'))
theorem qq_rI_eq {w h v n p c n2 p2 c2 : Nat} {σ τ σi : jj_S} (hI : qq_rI w h v σ τ σi n p c) (he : ∀ n' p' c', n' < w * h → p' < 5 → c' < 2 * v → (qq_bf n' p' c' n p c ↔ qq_bf n' p' c' n2 p2 c2)) : qq_rI w h v σ τ σi n2 p2 c2 := by
  refine ⟨hI.1, fun n' p' c' a1 a2 a3 => ?_⟩
  have := hI.2 n' p' c' a1 a2 a3
  rw [he n' p' c' a1 a2 a3] at this
  exact this
set_option maxHeartbeats 1000000 in
theorem pc_routeAll {w h d v made cpl F : Nat} {σ τ : jj_S} (hF : 300 ≤ F) (hD : qq_D w h d v) (hR : qq_Rel w h d v made cpl σ τ) : pp_S (f_Routers_routeAll (w * h) (w * h * 6 * (2 * v)) (w * h * 6 * (2 * v) * d) F σ) (fun σ' => qq_rI w h v σ τ σ' (w * h) 0 0) := by
  have h9 := qq_n9 hD
  have hS := qq_S216 hD
  have h2v : 2 * v ≤ 4 := by have := hD.2.2.2.2; omega
  have hd4 : d ≤ 4 := hD.2.2.1.2
  have e4 := hR.1.1.2.2.2.2.1
  have e5 := hR.1.1.2.2.2.2.2
  have e0 := hR.1.1.1
  unfold f_Routers_routeAll
  rw [pp_0]
  refine pp_lp1 (e := w * h) (I := fun i σi => qq_rI w h v σ τ σi i 0 0) ?_ ?_ F 0 σ (by omega) (by omega) ?_
  · intro rec σi hI
    simp (disch := omega) only [b_Routers_routeAll_2, hI.1, e5, pp_le, Nat.le_refl, if_true]
    exact pp_some hI
  · intro rec n σi hn hI ih
    have hnn : ¬ (w * h ≤ n) := by omega
    simp (disch := omega) only [b_Routers_routeAll_2, hI.1, e5, pp_le, hnn, if_false, pp_0]
    refine pp_lp2 (e := 5) (I := fun p σi => qq_rI w h v σ τ σi n p 0) ?_ ?_ F 0 σi (by omega) (by omega) hI
    · intro rec2 σj hJ
      simp (disch := omega) only [b_Routers_routeAll_15, pp_5, pp_le, Nat.le_refl, if_true, pp_1, nI_add]
      exact ih σj (qq_rI_eq hJ (fun n' p' c' a1 a2 a3 => by unfold qq_bf; omega))
    · intro rec2 p σj hp hJ ih2
      have hnp : ¬ (5 ≤ p) := by omega
      simp (disch := omega) only [b_Routers_routeAll_15, pp_5, pp_le, hnp, if_false, pp_0]
      refine pp_lp3 (e := 2 * v) (I := fun c σi => qq_rI w h v σ τ σi n p c) ?_ ?_ F 0 σj (by omega) (by omega) hJ
      · intro rec3 σk hK
        simp (disch := omega) only [b_Routers_routeAll_22, hK.1, e4, pp_le, Nat.le_refl, if_true, pp_1, nI_add]
        exact ih2 σk (qq_rI_eq hK (fun n' p' c' a1 a2 a3 => by unfold qq_bf; omega))
      · intro rec3 c σk hc hK ih3
        have hnc : ¬ (2 * v ≤ c) := by omega
        have SL := pc_slot (n := w * h) (S := w * h * 6 * (2 * v)) (SD := w * h * 6 * (2 * v) * d) (F := F) (σ := σk) (C := 2 * v) (a := n) (b := p) (c := c) (by rw [hK.1 1 (by decide) (by decide)]; exact e4)
        have hsl : qq_s (2 * v) n p c < w * h * 6 * (2 * v) := qq_s_lt hn (by omega) hc
        obtain ⟨st, wy, tk, tn, r1, r2, r3, r4, r5, r6, r7, r8, r9, r10, r11, r12, r13⟩ := hR.2.2.2.2.2.2.1.1 n p c hn hp hc
        obtain ⟨sz, fi, q1, q2, q3, q4, q5, q6⟩ := qq_Lsz hR.2.2.2.2.2.1 hn (show p < 6 by omega) hc
        have old := (hK.2 n p c hn hp hc).2 (fun q => by have := q.1; unfold qq_bf at this; omega)
        have k6 : σk 6 (qq_s (2 * v) n p c) = nI sz := by rw [hK.1 6 (by decide) (by decide)]; exact q3
        have k32 : σk 32 (qq_s (2 * v) n p c) = nI st := by rw [old.1]; exact r5
        by_cases hcond : qq_rc τ (qq_l n p c)
        · have st0 : st = 0 := by have := hcond.1; rw [r6, pp_eq (by omega) (by omega)] at this; exact this
          have sz0 : ¬ sz ≤ 0 := by
            intro hz
            have : sz = 0 := by omega
            rw [this] at q5
            exact hcond.2 q5
          subst st0
          obtain ⟨k, p', j, cf, t1, t2, t3, t4, t5, t6, t7, t8⟩ := qq_tgt (F := F) (σi := σk) hD hR hn (show p < 6 by omega) hc hcond.2 hK.1
          have WT := pc_wayTo (N := w * h) (S := w * h * 6 * (2 * v)) (SD := w * h * 6 * (2 * v) * d) (F := F) (w := w) (n := n) (t := qq_tg τ (qq_l n p c)) (σ := σk) hD.1.1 hD.1.2 (by omega) (by omega) (by rw [hK.1 1 (by decide) (by decide)]; exact e0)
          have e4k : σk 1 4 = nI (2 * v) := by rw [hK.1 1 (by decide) (by decide)]; exact e4
          have B : b_Routers_routeAll_22 (w * h) (w * h * 6 * (2 * v)) (w * h * 6 * (2 * v) * d) F (fun σ11 x1_12 x2_13 x3_14 => rec2 σ11 x1_12 (x2_13 + (1 : Int32))) rec3 σk (nI n) (nI p) (nI c) = rec3 (jj_up (jj_up σk 33 (qq_s (2 * v) n p c) (nI (qq_wy w n (qq_tg τ (qq_l n p c))))) 32 (qq_s (2 * v) n p c) (nI 1)) (nI n) (nI p) (nI (c + 1)) := by
            clear hI hJ hK ih ih2 ih3 old hR r9
            simp (disch := omega) only [b_Routers_routeAll_22, e4k, pp_le, hnc, if_false, SL, pp_b2, pp_ckE, pp_cl, k32, pp_0, if_true, k6, sz0, t7, t8, WT, pp_st, pp_1, nI_add]
          simp only [pp_1] at B ⊢
          rw [B]
          refine ih3 _ ⟨fun q q1 q2 => by rw [jj_up_ne q1, jj_up_ne q2]; exact hK.1 q q1 q2, fun n' p' c' a1 a2 a3 => ?_⟩
          have hKK := hK.2 n' p' c' a1 a2 a3
          simp (disch := omega) only [jj_up_ne, jj_up_same]
          by_cases he : n' = n ∧ p' = p ∧ c' = c
          · obtain ⟨rfl, rfl, rfl⟩ := he
            exact ⟨fun _ => ⟨pk_us, pk_us⟩, fun q => absurd ⟨by unfold qq_bf; omega, hcond⟩ q⟩
          · have n1 : qq_s (2 * v) n' p' c' ≠ qq_s (2 * v) n p c := fun e => he (qq_s_inj (by omega) a3 (by omega) hc e)
            have bb : qq_bf n' p' c' n p (c + 1) ↔ qq_bf n' p' c' n p c := by unfold qq_bf; omega
            rw [pk_un n1, pk_un n1, bb]
            exact hKK
        · have B : b_Routers_routeAll_22 (w * h) (w * h * 6 * (2 * v)) (w * h * 6 * (2 * v) * d) F (fun σ11 x1_12 x2_13 x3_14 => rec2 σ11 x1_12 (x2_13 + (1 : Int32))) rec3 σk (nI n) (nI p) (nI c) = rec3 σk (nI n) (nI p) (nI (c + 1)) := by
            have e4k : σk 1 4 = nI (2 * v) := by rw [hK.1 1 (by decide) (by decide)]; exact e4
            by_cases st0 : st = 0
            · have sz0 : sz ≤ 0 := by
                rcases Nat.eq_zero_or_pos sz with q | q
                · omega
                · exact absurd ⟨by rw [r6, st0], by rw [q5, ne_eq, pp_eq (by omega) (by omega)]; omega⟩ hcond
              subst st0
              clear hI hJ hK ih ih2 ih3 old hR r9
              simp (disch := omega) only [b_Routers_routeAll_22, e4k, pp_le, hnc, if_false, SL, pp_b2, pp_ckE, pp_cl, k32, pp_0, if_true, k6, sz0, pp_1, nI_add]
            · clear hI hJ hK ih ih2 ih3 old hR r9
              simp (disch := omega) only [b_Routers_routeAll_22, e4k, pp_le, hnc, if_false, SL, pp_b2, pp_ckE, pp_cl, k32, pp_0, pp_eq, st0, pp_1, nI_add]
          simp only [pp_1] at B ⊢
          rw [B]
          refine ih3 _ ⟨hK.1, fun n' p' c' a1 a2 a3 => ?_⟩
          have hKK := hK.2 n' p' c' a1 a2 a3
          by_cases he : n' = n ∧ p' = p ∧ c' = c
          · obtain ⟨rfl, rfl, rfl⟩ := he
            exact ⟨fun q => absurd q.2 hcond, fun _ => old⟩
          · have bb : qq_bf n' p' c' n p (c + 1) ↔ qq_bf n' p' c' n p c := by unfold qq_bf; omega
            rw [bb]
            exact hKK
  · exact ⟨fun _ _ _ => rfl, fun n' p' c' _ _ _ => ⟨fun q => absurd q.1 (by unfold qq_bf; omega), fun _ => ⟨rfl, rfl⟩⟩⟩

/-- the reference's routing, lane by lane -/
def qq_rJ (w N : Nat) (τ τi : jj_S) (i : Nat) : Prop := (∀ k, k ≠ 22 → k ≠ 23 → τi k = τ k) ∧ ∀ l, l < 20 * N → (l < i ∧ qq_rc τ l → τi 22 l = nI 1 ∧ τi 23 l = nI (qq_wy w (l / 20) (qq_tg τ l))) ∧ (¬ (l < i ∧ qq_rc τ l) → τi 22 l = τ 22 l ∧ τi 23 l = τ 23 l)
theorem qq_lane {w h v l : Nat} (hl : l < 20 * (w * h)) : l = qq_l (l / 20) (l / 4 % 5) (l % 4) ∧ l / 20 < w * h ∧ l / 4 % 5 < 5 := by
  refine ⟨?_, by omega, Nat.mod_lt _ (by decide)⟩
  unfold qq_l
  rw [if_pos (Nat.mod_lt _ (by decide))]
  omega
set_option maxHeartbeats 1000000 in
theorem pr_routeAll {w h d v made cpl F : Nat} {σ τ : jj_S} {K : jj_S → Int32 → Int32 → Option jj_S} (hF : 300 ≤ F) (hD : qq_D w h d v) (hR : qq_Rel w h d v made cpl σ τ) : ∃ τ', jj_lp2 (b_rRef_tick_144 F K) F τ (nI (w * h)) (nI 0) = K τ' (nI (w * h)) (nI (20 * (w * h))) ∧ qq_rJ w (w * h) τ τ' (20 * (w * h)) := by
  have h9 := qq_n9 hD
  have h2v : 2 * v ≤ 4 := by have := hD.2.2.2.2; omega
  have key : ∀ (k i : Nat) (τi : jj_S), i ≤ 20 * (w * h) → 20 * (w * h) < i + k → qq_rJ w (w * h) τ τi i → ∃ τ', jj_lp2 (b_rRef_tick_144 F K) k τi (nI (w * h)) (nI i) = K τ' (nI (w * h)) (nI (20 * (w * h))) ∧ qq_rJ w (w * h) τ τ' (20 * (w * h)) := by
    intro k
    induction k with
    | zero => intro i τi a1 a2; omega
    | succ k ih =>
      intro i τi a1 a2 hJ
      show ∃ τ', b_rRef_tick_144 F K (jj_lp2 (b_rRef_tick_144 F K) k) τi (nI (w * h)) (nI i) = _ ∧ _
      rcases Nat.lt_or_ge i (20 * (w * h)) with hi | hi
      · have hni : ¬ (20 * (w * h) ≤ i) := by omega
        have old := (hJ.2 i hi).2 (fun q => by omega)
        obtain ⟨l1, l2, l3⟩ := qq_lane (v := v) hi
        have hrc : qq_rc τi i ↔ qq_rc τ i := by unfold qq_rc; rw [old.1, hJ.1 17 (by decide) (by decide)]
        obtain ⟨τ2, hr, hJ2⟩ : ∃ τ2, f_rRef_route F τi (nI (i / 20)) (nI i) = some τ2 ∧ qq_rJ w (w * h) τ τ2 (i + 1) := by
          by_cases hcond : qq_rc τ i
          · have hcv : i % 4 < 2 * v := by
              rcases Nat.lt_or_ge (i % 4) (2 * v) with q | q
              · exact q
              · exfalso
                have := hR.2.2.2.2.2.2.2.1 i (by omega) (fun n sd c a b c' _ e => by
                  rw [e] at q l1
                  obtain ⟨x1, x2, x3⟩ := qq_l_inj (by omega) (by omega) b (by omega) (by omega) (Nat.mod_lt _ (by decide)) l1
                  omega)
                exact hcond.2 this.1
            have hpos : τ 17 (qq_l (i / 20) (i / 4 % 5) (i % 4)) ≠ nI 0 := by rw [← l1]; exact hcond.2
            obtain ⟨k', p', j, cf, t1, t2, t3, t4, t5, t6, t7, t8⟩ := qq_tgt (F := F) (σi := σ) hD hR l2 (show i / 4 % 5 < 6 by omega) hcv hpos (fun _ _ _ => rfl)
            rw [← l1] at t1 t5 t6
            refine ⟨_, pr_route1 (F := F) (n := i / 20) (l := i) (w := w) (t := qq_tg τ i) (by omega) t2 t3 t4 hD.1.1 hD.1.2 (by omega) (by omega) (by rw [hJ.1 0 (by decide) (by decide)]; exact hR.1.2.2.1.1) (hrc.mpr hcond).1 (hrc.mpr hcond).2 (by rw [hJ.1 18 (by decide) (by decide)]; exact t1) (by rw [hJ.1 1 (by decide) (by decide), hJ.1 2 (by decide) (by decide)]; exact t5), fun q q1 q2 => by rw [jj_up_ne q1, jj_up_ne q2]; exact hJ.1 q q1 q2, fun l hl => ?_⟩
            have hJl := hJ.2 l hl
            simp (disch := omega) only [jj_up_ne, jj_up_same]
            by_cases he : l = i
            · subst he
              exact ⟨fun _ => ⟨pk_us, pk_us⟩, fun q => absurd ⟨by omega, hcond⟩ q⟩
            · have bb : l < i + 1 ↔ l < i := by omega
              rw [pk_un he, pk_un he, bb]
              exact hJl
          · refine ⟨τi, pr_route0 (by omega) (fun q => hcond (hrc.mp q)), hJ.1, fun l hl => ?_⟩
            have hJl := hJ.2 l hl
            by_cases he : l = i
            · subst he
              exact ⟨fun q => absurd q.2 hcond, fun _ => old⟩
            · have bb : l < i + 1 ↔ l < i := by omega
              rw [bb]
              exact hJl
        have B : b_rRef_tick_144 F K (jj_lp2 (b_rRef_tick_144 F K) k) τi (nI (w * h)) (nI i) = jj_lp2 (b_rRef_tick_144 F K) k τ2 (nI (w * h)) (nI (i + 1)) := by
          clear ih
          simp (disch := omega) only [b_rRef_tick_144, pp_20, pk_mul, pp_le, hni, if_false, pp_nzE, pp_div, hr, pp_b1, pp_1, nI_add]
        rw [B]
        exact ih (i + 1) τ2 (by omega) (by omega) hJ2
      · obtain rfl : i = 20 * (w * h) := by omega
        refine ⟨τi, ?_, hJ⟩
        simp (disch := omega) only [b_rRef_tick_144, pp_20, pk_mul, pp_le, Nat.le_refl, if_true]
  exact key F 0 τ (by omega) (by omega) ⟨fun _ _ _ => rfl, fun l hl => ⟨fun q => by omega, fun _ => ⟨rfl, rfl⟩⟩⟩
