/-! THE PART SENDING: one node, in both systems -/
theorem pc_tl {N S SD F n k p g ln G Q : Nat} {γ : Type} {σi : jj_S} {a b : jj_S → Option γ} (eQ : σi Q 0 = nI p) (LE : f_Packets_length N S SD F σi (nI k) (nI p) = some (nI ln, σi)) (eG : σi G n = nI (g + 1)) (hg : g ≤ 100) (hl : ln ≤ 100) : jj_st σi (fun σ7 => jj_b2 (f_Packets_length N S SD F σ7 (nI k) (σ7 Q 0)) (fun r9 σ8 => if σ7 G n = r9 then a σ8 else b σ8)) = (if g + 1 = ln then a σi else b σi) := by
  rw [pp_st, eQ, LE, pp_b2]
  show (if σi G n = nI ln then a σi else b σi) = _
  rw [eG]
  by_cases h : g + 1 = ln
  · rw [if_pos h, if_pos (by rw [h])]
  · rw [if_neg h, if_neg (by rw [pp_eq (by omega) (by omega)]; exact h)]
theorem pr_tl {F n l k p x g G : Nat} {τ τb : jj_S} {rf : Int32} {a : jj_S → Option jj_S} (hk : k < 400) (hp : p < 2) (hx : x < 2) (hG : G ≠ 3) (T : f_rRef_send F τ (nI l) rf = some τb) (eG : τb G n = nI g) (e3 : τb 3 k = nI x) (hg : g ≤ 100) : jj_b1 (f_rRef_send F τ (nI l) rf) (fun σ5 => jj_st (jj_up σ5 G n (σ5 G n + nI 1)) (fun σ6 => jj_b2 (f_rRef_length F σ6 (nI (2 * k + p))) (fun r8 σ7 => if σ6 G n = r8 then a σ7 else some σ7))) = (if g + 1 = qq_len (τb 3 k) p then a (jj_up τb G n (nI (g + 1))) else some (jj_up τb G n (nI (g + 1)))) := by
  rw [T, pp_b1, pp_st, eG, nI_add]
  have e4 : jj_up τb G n (nI (g + 1)) 3 k = τb 3 k := by rw [jj_up_ne (Ne.symm hG)]
  have L := pr_length (F := F) (τ := jj_up τb G n (nI (g + 1))) (k := k) (p := p) (x := x) hk hp hx (by rw [e4]; exact e3)
  rw [L, pp_b2]
  show (if jj_up τb G n (nI (g + 1)) G n = nI (qq_len (jj_up τb G n (nI (g + 1)) 3 k) p) then _ else _) = _
  rw [e4, jj_up_same, pk_us]
  have hl := qq_len_in (τb 3 k) p
  by_cases h : g + 1 = qq_len (τb 3 k) p
  · rw [if_pos h, if_pos (by rw [h])]
  · rw [if_neg h, if_neg (by rw [pp_eq (by omega) (by omega)]; exact h)]
set_option maxHeartbeats 2000000 in
theorem qq_sndq {w h d v made cpl F n : Nat} {σ τ : jj_S} (hF : 300 ≤ F) (hD : qq_D w h d v) (hR : qq_Rel w h d v made cpl σ τ) (hn : n < w * h) :
    (f_Ifs_sendFirstq (w * h) (w * h * 6 * (2 * v)) ((w * h * 6 * (2 * v)) * d) F σ (nI n) = some (nI 0, σ) ∧ skA F (nI n) τ = some τ) ∨ ∃ σ' τ' : jj_S, f_Ifs_sendFirstq (w * h) (w * h * 6 * (2 * v)) ((w * h * 6 * (2 * v)) * d) F σ (nI n) = some (nI 1, σ') ∧ skA F (nI n) τ = some τ' ∧ qq_Rel w h d v made cpl σ' τ' ∧ τ' 0 15 = τ 0 15 := by
  obtain ⟨hZ, hM, hP, hW, hQ, hL, hRt, hE, hU, hV⟩ := id hR
  obtain ⟨⟨d1, d2⟩, ⟨d3, d4⟩, ⟨d5, d6⟩, ⟨d7, d8⟩⟩ := id hD
  have h9 := qq_n9 hD
  have hm := hP.1.1
  have hS := qq_S216 hD
  obtain ⟨ct, g, q1, q2, q3, q4, q5, q6, q7⟩ := hQ.1 n hn
  rcases Nat.eq_zero_or_pos ct with hz | hz
  · subst hz
    exact Or.inl ⟨pc_sf0q hn h9 q2, pr_sf0q (by omega) q3⟩
  · obtain ⟨k, hk, y2, y3, y4⟩ := q7 0 hz
    have hg := y4 rfl
    rw [Nat.add_zero] at y2 y3
    obtain ⟨fr, to, x, wd, p1, p2, p3, p4, p5, p6, p7, p8, p9, p10, p11, p12⟩ := hP.1.2 k hk
    have hlen := qq_len_in (τ 3 k) 0
    have hwr : σ 13 k = τ 3 k := by rw [p9, p10]
    have hch : (to + fr) % v + 0 * v < 2 * v := by
      have := Nat.mod_lt (to + fr) (show 0 < v by omega)
      omega
    have hfl : qq_s (2 * v) n 5 ((to + fr) % v + 0 * v) < (w * h * 6 * (2 * v)) := qq_s_lt hn (by decide) hch
    have CE := pc_sf1q (N := w * h) (S := (w * h * 6 * (2 * v))) (SD := (w * h * 6 * (2 * v)) * d) (F := F) (n := n) (ct := ct) (k := k) (a := fr) (b := to) (v := v) (C := 2 * v) (σ := σ) hn h9 hz q1 (by omega) (by omega) (by omega) d7 d8 hS hfl q2 y2 hZ.2.1.2.1 hZ.2.1.2.2.1 p5 p7 hZ.1.2.2.2.1 hZ.1.2.2.2.2.1
    have RE := pr_sf1q (F := F) (n := n) (ct := ct) (k := k) (a := fr) (b := to) (v := v) (τ := τ) (by omega) hz q1 (by omega) (by omega) (by omega) d7 d8 (by omega) q3 y3 p6 p8 hZ.2.2.1.2.2.2.1
    generalize (to + fr) % v + 0 * v = ch at *
    obtain ⟨sz, fi, cr, bk, g1, g2, g3, g4, g5, g6, g7, g8, g9, g10, g11⟩ := hL n 0 ch hn (by decide) hch
    rw [qq_f0] at g5 g7
    have hcr0 := g6
    rw [qq_l0] at g6
    rcases Nat.eq_zero_or_pos cr with hc0 | hc0
    · subst hc0
      refine Or.inl ⟨?_, ?_⟩
      · rw [CE, if_pos g5]
      · rw [RE, g6, if_pos (by rw [pp_le (by omega) (by omega)]; exact Nat.le_refl 0)]
    · refine Or.inr ?_
      have hcrn : τ 20 (qq_l n 0 ch) ≠ nI 0 := by rw [hcr0, ne_eq, pp_eq (by omega) (by omega)]; omega
      rw [if_neg (by rw [g5, pp_eq (by omega) (by omega)]; omega), q4, nI_add] at CE
      rw [g6, if_neg (by rw [pp_le (by omega) (by omega)]; omega), q5, nI_add] at RE
      have hll : 20 * n + ch < 216 := by omega
      have TS := pr_send (F := F) (τ := τ) (l := 20 * n + ch) (x := nI (4 * (2 * k + 0) + g)) hll hc0 g6
      obtain ⟨τb, hτb⟩ : ∃ τb, τb = jj_up (jj_up (jj_up τ 19 (20 * n + ch) (nI (4 * (2 * k + 0) + g))) 20 (20 * n + ch) (nI (cr - 1))) 0 16 (τ 0 16 + 1) := ⟨_, rfl⟩
      rw [← hτb] at TS
      have tb : ∀ q, q ≠ 0 → q ≠ 19 → q ≠ 20 → τb q = τ q := fun q a1 a2 a3 => by rw [hτb, jj_up_ne a1, jj_up_ne a3, jj_up_ne a2]
      rw [pr_tl (x := x) (g := g) (by omega) (by decide) p3 (by decide) TS (by rw [tb 13 (by decide) (by decide) (by decide)]; exact q5) (by rw [tb 3 (by decide) (by decide) (by decide)]; exact p10) (by omega), tb 3 (by decide) (by decide) (by decide)] at RE
      have LE := pc_length (n := w * h) (S := (w * h * 6 * (2 * v))) (SD := (w * h * 6 * (2 * v)) * d) (F := F) (σ := jj_up σ 23 n (nI (g + 1))) (k := k) (p := 0) (x := x) (by omega) (by decide) p3 (by rw [jj_up_ne (by decide)]; exact p9)
      rw [jj_up_ne (by decide), hwr] at LE
      have eQ : jj_up σ 23 n (nI (g + 1)) 20 0 = nI 0 := by rw [jj_up_ne (by decide)]; exact hZ.2.1.2.1
      rw [pc_tl (g := g) eQ LE (by rw [jj_up_same, pk_us]) (by omega) (by omega)] at CE
      have f1 := pc_flit (n := w * h) (S := (w * h * 6 * (2 * v))) (SD := (w * h * 6 * (2 * v)) * d) (F := F) (σ := jj_up σ 23 n (nI (g + 1))) (k := k) (p := 0) (t := 1) (by decide) (by decide)
      have f0 := pc_flit (n := w * h) (S := (w * h * 6 * (2 * v))) (SD := (w * h * 6 * (2 * v)) * d) (F := F) (σ := jj_up σ 23 n (nI (g + 1))) (k := k) (p := 0) (t := 0) (by decide) (by decide)
      rw [eQ, f1, f0, pp_b2, pp_b2] at CE
      by_cases hjl : g + 1 = qq_len (τ 3 k) 0
      · rw [if_pos hjl] at CE RE
        have e3' := hZ.2.2.2 n 5 ch hn (by decide) hch
        rw [qq_f5] at e3'
        have hsl : qq_s (2 * v) n 0 ch < (w * h * 6 * (2 * v)) := qq_s_lt hn (by decide) hch
        have TC := pc_send (n := w * h) (SD := (w * h * 6 * (2 * v)) * d) (F := F) (σ := jj_up σ 23 n (nI (g + 1))) (x := nI (4 * k + 2 * 0 + 1)) hfl (by omega) hsl hc0 (by rw [jj_up_ne (by decide)]; exact e3') (by rw [jj_up_ne (by decide)]; exact g5)
        obtain ⟨σb, hσb⟩ : ∃ σb, σb = jj_up (jj_up (jj_up (jj_up σ 23 n (nI (g + 1))) 7 (qq_s (2 * v) n 5 ch) (nI (cr - 1))) 8 (qq_s (2 * v) n 0 ch) (nI (4 * k + 2 * 0 + 1))) 2 8 (jj_up σ 23 n (nI (g + 1)) 2 8 + 1) := ⟨_, rfl⟩
        rw [← hσb] at TC
        have sb : ∀ q, q ≠ 2 → q ≠ 7 → q ≠ 8 → q ≠ 23 → σb q = σ q := fun q a1 a2 a3 a4 => by rw [hσb, jj_up_ne a1, jj_up_ne a3, jj_up_ne a2, jj_up_ne a4]
        have sbG : σb 23 = upd (σ 23) n (nI (g + 1)) := by rw [hσb, jj_up_ne (by decide), jj_up_ne (by decide), jj_up_ne (by decide), jj_up_same]
        obtain ⟨σc, RM, m1, m2, m3, m4⟩ := pc_removeq (S := (w * h * 6 * (2 * v))) (SD := (w * h * 6 * (2 * v)) * d) (σ := σb) hF hn h9 hz q1 (by rw [sb 22 (by decide) (by decide) (by decide) (by decide)]; exact q2) (by rw [sb 20 (by decide) (by decide) (by decide) (by decide)]; exact hZ.2.1.2.2.1)
        obtain ⟨τc, RM2, z1, z2⟩ := pr_shift (F := F) (τ := jj_up (jj_up (jj_up τb 13 n (nI (g + 1))) 13 n (nI 0)) 11 n (nI (ct - 1))) (n := n) (ct := ct - 1) (x2 := nI (2 * k + 0)) (x3 := nI (20 * n + ch)) hF (by omega) (by omega) (by rw [jj_up_same, pk_us])
        have w1 : ∀ i, i < ct - 1 → τc 12 (4 * n + i) = τ 12 (4 * n + i + 1) := fun i hi => by
          rw [z1]; unfold qq_sg; rw [if_pos (by omega), jj_up_ne (by decide), jj_up_ne (by decide), jj_up_ne (by decide), tb 12 (by decide) (by decide) (by decide)]
        have w1' : ∀ n' i, n' ≠ n → i < 4 → τc 12 (4 * n' + i) = τ 12 (4 * n' + i) := fun n' i hn' hi => by
          rw [z1]; unfold qq_sg; rw [if_neg (by omega), jj_up_ne (by decide), jj_up_ne (by decide), jj_up_ne (by decide), tb 12 (by decide) (by decide) (by decide)]
        have w2 : τc 11 = upd (τ 11) n (nI (ct - 1)) := by
          rw [z2 11 (by decide), jj_up_same, jj_up_ne (by decide), jj_up_ne (by decide), tb 11 (by decide) (by decide) (by decide)]
        have w3 : τc 13 = upd (τ 13) n (nI 0) := by
          rw [z2 13 (by decide), jj_up_ne (by decide), jj_up_same, jj_up_same, qq_uu, tb 13 (by decide) (by decide) (by decide)]
        have w4 : ∀ q, q ≠ 12 → q ≠ 11 → q ≠ 13 → τc q = τb q := fun q q1 q2 q3 => by
          rw [z2 q q1, jj_up_ne q2, jj_up_ne q3, jj_up_ne q3]
        obtain ⟨hRr, hv15, hnt⟩ := qq_remq (σ' := qq_mx 21 22 23 σ σc) (τ' := qq_mx 12 11 13 τ τc) hD hR hn hz q1 q3 hk y3
          (fun i hi => by rw [qq_mx_in (Or.inl rfl), m1]; unfold qq_sg; rw [if_pos (by omega), sb 21 (by decide) (by decide) (by decide) (by decide)])
          (fun n' i hn' hi => by rw [qq_mx_in (Or.inl rfl), m1]; unfold qq_sg; rw [if_neg (by omega), sb 21 (by decide) (by decide) (by decide) (by decide)])
          (by rw [qq_mx_in (Or.inr (Or.inl rfl)), m2, sb 22 (by decide) (by decide) (by decide) (by decide)])
          (by rw [qq_mx_in (Or.inr (Or.inr rfl)), m3, sbG, qq_uu])
          (fun q a1 a2 a3 => qq_mx_ne a1 a2 a3)
          (fun i hi => by rw [qq_mx_in (Or.inl rfl)]; exact w1 i hi)
          (fun n' i hn' hi => by rw [qq_mx_in (Or.inl rfl)]; exact w1' n' i hn' hi)
          (by rw [qq_mx_in (Or.inr (Or.inl rfl))]; exact w2)
          (by rw [qq_mx_in (Or.inr (Or.inr rfl))]; exact w3)
          (fun q a1 a2 a3 => qq_mx_ne a1 a2 a3)
        have t3 : qq_mx 12 11 13 τ τc 3 = τ 3 := qq_mx_ne (by decide) (by decide) (by decide)
        obtain ⟨σ1, τ1, T1, T2, hRel, sf, sf2, tf, tf0, tcr⟩ := qq_send (F := F) (n := n) (sd := 0) (c := ch) (cf := nI (4 * k + 2 * 0 + 1)) (rf := nI (4 * (2 * k + 0) + g)) hD hRr hn (by decide) rfl hch (by rw [qq_mx_ne (by decide) (by decide) (by decide)]; exact hcrn) (by rw [t3]; exact ⟨k, 0, g, hk, by decide, hg, rfl, by rw [if_pos hjl]⟩) (fun k' p' j' x1 x2 x3 x4 => by
          rw [t3] at x3
          have hl' := qq_len_in (τ 3 k') p'
          obtain ⟨rfl, rfl, rfl⟩ := qq_enc (show k < 400 by omega) x1 (by decide) x2 (by omega) (by omega) x4
          refine ⟨⟨hk, ?_⟩, hnt⟩
          rw [qq_mx_ne (by decide) (by decide) (by decide), qq_mx_ne (by decide) (by decide) (by decide), qq_mx_ne (by decide) (by decide) (by decide)]
          exact hv15)
        rw [qq_f0] at T1
        rw [qq_l0] at T2
        have T1' := pc_send (n := w * h) (SD := (w * h * 6 * (2 * v)) * d) (F := F) (σ := qq_mx 21 22 23 σ σc) (x := nI (4 * k + 2 * 0 + 1)) hfl (by omega) hsl hc0 (by rw [qq_mx_ne (by decide) (by decide) (by decide)]; exact e3') (by rw [qq_mx_ne (by decide) (by decide) (by decide)]; exact g5)
        have T2' := pr_send (F := F) (τ := qq_mx 12 11 13 τ τc) (l := 20 * n + ch) (x := nI (4 * (2 * k + 0) + g)) hll hc0 (by rw [qq_mx_ne (by decide) (by decide) (by decide)]; exact g6)
        have E1 : σ1 = σc := by
          rw [T1] at T1'
          rw [Option.some.inj T1']
          refine qq_mx3 (σi := jj_up σ 23 n (nI (g + 1))) (fun q a1 a2 a3 => jj_up_ne a3) (fun q a1 a2 a3 => ?_) (by decide) (by decide) (by decide)
          rw [m4 q a1 a2 a3, hσb, qq_mx_ne (by decide) (by decide) (by decide), jj_up_ne (k := 23) (k' := 2) (by decide)]
        have E2 : τ1 = τc := by
          rw [T2] at T2'
          rw [Option.some.inj T2']
          refine qq_mx3 (σi := τ) (fun q a1 a2 a3 => rfl) (fun q a1 a2 a3 => ?_) (by decide) (by decide) (by decide)
          rw [w4 q a1 a2 a3, hτb, qq_mx_ne (by decide) (by decide) (by decide)]
        refine ⟨σc, τc, ?_, ?_, by rw [E1, E2] at hRel; exact hRel, ?_⟩
        · rw [CE]
          show jj_b1 (f_Links_send (w * h) (w * h * 6 * (2 * v)) ((w * h * 6 * (2 * v)) * d) F (jj_up σ 23 n (nI (g + 1))) (nI (qq_s (2 * v) n 5 ch)) (nI (4 * k + 2 * 0 + 1))) _ = _
          rw [TC, pp_b1, RM]; rfl
        · rw [RE]
          show jj_lp4 (b_rRef_sendAt_210 F (fun σ12 _ _ _ _ => some σ12)) F (jj_up (jj_up (jj_up τb 13 n (nI (g + 1))) 13 n (nI 0)) 11 n (jj_up τb 13 n (nI (g + 1)) 11 n - nI 1)) (nI n) (nI (2 * k + 0)) (nI (20 * n + ch)) (nI 0) = _
          rw [jj_up_ne (by decide), tb 11 (by decide) (by decide) (by decide), q3, pp_subN hz]
          exact RM2
        · rw [w4 0 (by decide) (by decide) (by decide), hτb, jj_up_same, pk_un (by decide), jj_up_ne (by decide), jj_up_ne (by decide)]
      · rw [if_neg hjl] at CE RE
        have hR1 := qq_incq (g := g) (k := k) hD hR hn hz q1 q3 y3 (by omega) (by omega)
        obtain ⟨σ1, τ1, T1, T2, hRel, sf, sf2, tf, tf0, tcr⟩ := qq_send (F := F) (n := n) (sd := 0) (c := ch) (cf := nI (4 * k + 2 * 0 + 0)) (rf := nI (4 * (2 * k + 0) + g)) hD hR1 hn (by decide) rfl hch (by rw [jj_up_ne (by decide)]; exact hcrn) (by rw [jj_up_ne (by decide)]; exact ⟨k, 0, g, hk, by decide, hg, rfl, by rw [if_neg hjl]⟩) (fun k' p' j' x1 x2 x3 x4 => by
          rw [jj_up_ne (by decide)] at x3
          have hl' := qq_len_in (τ 3 k') p'
          obtain ⟨rfl, rfl, rfl⟩ := qq_enc (show k < 400 by omega) x1 (by decide) x2 (by omega) (by omega) x4
          exact absurd x3 hjl)
        rw [qq_f0] at T1
        rw [qq_l0] at T2
        have T3 := pr_send (F := F) (τ := jj_up τ 13 n (nI (g + 1))) (l := 20 * n + ch) (x := nI (4 * (2 * k + 0) + g)) hll hc0 (by rw [jj_up_ne (by decide)]; exact g6)
        rw [T2] at T3
        have T4 := Option.some.inj T3
        refine ⟨σ1, τ1, ?_, ?_, hRel, ?_⟩
        · rw [CE]
          show jj_b1 (f_Links_send (w * h) (w * h * 6 * (2 * v)) ((w * h * 6 * (2 * v)) * d) F (jj_up σ 23 n (nI (g + 1))) (nI (qq_s (2 * v) n 5 ch)) (nI (4 * k + 2 * 0 + 0))) _ = _
          rw [T1]; rfl
        · rw [RE, T4, hτb]
          congr 1
          rw [qq_upcm (k := 0) (by decide), qq_upcm (k := 20) (by decide), qq_upcm (k := 19) (by decide), jj_up_ne (k := 13) (k' := 0) (by decide)]
        · rw [tf0 15 (by decide), jj_up_ne (by decide)]
set_option maxHeartbeats 2000000 in
theorem qq_sndp {w h d v made cpl F n : Nat} {σ τ : jj_S} (hF : 300 ≤ F) (hD : qq_D w h d v) (hR : qq_Rel w h d v made cpl σ τ) (hn : n < w * h) :
    (f_Ifs_sendFirstp (w * h) (w * h * 6 * (2 * v)) ((w * h * 6 * (2 * v)) * d) F σ (nI n) = some (nI 0, σ) ∧ f_rRef_sendAt F τ (nI n) = skA F (nI n) τ) ∨ ∃ σ' τ' : jj_S, f_Ifs_sendFirstp (w * h) (w * h * 6 * (2 * v)) ((w * h * 6 * (2 * v)) * d) F σ (nI n) = some (nI 1, σ') ∧ f_rRef_sendAt F τ (nI n) = some τ' ∧ qq_Rel w h d v made cpl σ' τ' ∧ τ' 0 15 = τ 0 15 := by
  obtain ⟨hZ, hM, hP, hW, hQ, hL, hRt, hE, hU, hV⟩ := id hR
  obtain ⟨⟨d1, d2⟩, ⟨d3, d4⟩, ⟨d5, d6⟩, ⟨d7, d8⟩⟩ := id hD
  have h9 := qq_n9 hD
  have hm := hP.1.1
  have hS := qq_S216 hD
  obtain ⟨ct, g, q1, q2, q3, q4, q5, q6, q7⟩ := hQ.2 n hn
  rcases Nat.eq_zero_or_pos ct with hz | hz
  · subst hz
    exact Or.inl ⟨pc_sf0p hn h9 q2, pr_sf0p (by omega) q3⟩
  · obtain ⟨k, hk, y2, y3, y4⟩ := q7 0 hz
    have hg := y4 rfl
    rw [Nat.add_zero] at y2 y3
    obtain ⟨fr, to, x, wd, p1, p2, p3, p4, p5, p6, p7, p8, p9, p10, p11, p12⟩ := hP.1.2 k hk
    have hlen := qq_len_in (τ 3 k) 1
    have hwr : σ 13 k = τ 3 k := by rw [p9, p10]
    have hch : (to + fr) % v + 1 * v < 2 * v := by
      have := Nat.mod_lt (to + fr) (show 0 < v by omega)
      omega
    have hfl : qq_s (2 * v) n 5 ((to + fr) % v + 1 * v) < (w * h * 6 * (2 * v)) := qq_s_lt hn (by decide) hch
    have CE := pc_sf1p (N := w * h) (S := (w * h * 6 * (2 * v))) (SD := (w * h * 6 * (2 * v)) * d) (F := F) (n := n) (ct := ct) (k := k) (a := fr) (b := to) (v := v) (C := 2 * v) (σ := σ) hn h9 hz q1 (by omega) (by omega) (by omega) d7 d8 hS hfl q2 y2 hZ.2.1.2.2.2.1 hZ.2.1.2.2.2.2 p5 p7 hZ.1.2.2.2.1 hZ.1.2.2.2.2.1
    have RE := pr_sf1p (F := F) (n := n) (ct := ct) (k := k) (a := fr) (b := to) (v := v) (τ := τ) (by omega) hz q1 (by omega) (by omega) (by omega) d7 d8 (by omega) q3 y3 p6 p8 hZ.2.2.1.2.2.2.1
    generalize (to + fr) % v + 1 * v = ch at *
    obtain ⟨sz, fi, cr, bk, g1, g2, g3, g4, g5, g6, g7, g8, g9, g10, g11⟩ := hL n 0 ch hn (by decide) hch
    rw [qq_f0] at g5 g7
    have hcr0 := g6
    rw [qq_l0] at g6
    rcases Nat.eq_zero_or_pos cr with hc0 | hc0
    · subst hc0
      refine Or.inl ⟨?_, ?_⟩
      · rw [CE, if_pos g5]
      · rw [RE, g6, if_pos (by rw [pp_le (by omega) (by omega)]; exact Nat.le_refl 0)]
    · refine Or.inr ?_
      have hcrn : τ 20 (qq_l n 0 ch) ≠ nI 0 := by rw [hcr0, ne_eq, pp_eq (by omega) (by omega)]; omega
      rw [if_neg (by rw [g5, pp_eq (by omega) (by omega)]; omega), q4, nI_add] at CE
      rw [g6, if_neg (by rw [pp_le (by omega) (by omega)]; omega), q5, nI_add] at RE
      have hll : 20 * n + ch < 216 := by omega
      have TS := pr_send (F := F) (τ := τ) (l := 20 * n + ch) (x := nI (4 * (2 * k + 1) + g)) hll hc0 g6
      obtain ⟨τb, hτb⟩ : ∃ τb, τb = jj_up (jj_up (jj_up τ 19 (20 * n + ch) (nI (4 * (2 * k + 1) + g))) 20 (20 * n + ch) (nI (cr - 1))) 0 16 (τ 0 16 + 1) := ⟨_, rfl⟩
      rw [← hτb] at TS
      have tb : ∀ q, q ≠ 0 → q ≠ 19 → q ≠ 20 → τb q = τ q := fun q a1 a2 a3 => by rw [hτb, jj_up_ne a1, jj_up_ne a3, jj_up_ne a2]
      rw [pr_tl (x := x) (g := g) (by omega) (by decide) p3 (by decide) TS (by rw [tb 16 (by decide) (by decide) (by decide)]; exact q5) (by rw [tb 3 (by decide) (by decide) (by decide)]; exact p10) (by omega), tb 3 (by decide) (by decide) (by decide)] at RE
      have LE := pc_length (n := w * h) (S := (w * h * 6 * (2 * v))) (SD := (w * h * 6 * (2 * v)) * d) (F := F) (σ := jj_up σ 27 n (nI (g + 1))) (k := k) (p := 1) (x := x) (by omega) (by decide) p3 (by rw [jj_up_ne (by decide)]; exact p9)
      rw [jj_up_ne (by decide), hwr] at LE
      have eQ : jj_up σ 27 n (nI (g + 1)) 24 0 = nI 1 := by rw [jj_up_ne (by decide)]; exact hZ.2.1.2.2.2.1
      rw [pc_tl (g := g) eQ LE (by rw [jj_up_same, pk_us]) (by omega) (by omega)] at CE
      have f1 := pc_flit (n := w * h) (S := (w * h * 6 * (2 * v))) (SD := (w * h * 6 * (2 * v)) * d) (F := F) (σ := jj_up σ 27 n (nI (g + 1))) (k := k) (p := 1) (t := 1) (by decide) (by decide)
      have f0 := pc_flit (n := w * h) (S := (w * h * 6 * (2 * v))) (SD := (w * h * 6 * (2 * v)) * d) (F := F) (σ := jj_up σ 27 n (nI (g + 1))) (k := k) (p := 1) (t := 0) (by decide) (by decide)
      rw [eQ, f1, f0, pp_b2, pp_b2] at CE
      by_cases hjl : g + 1 = qq_len (τ 3 k) 1
      · rw [if_pos hjl] at CE RE
        have e3' := hZ.2.2.2 n 5 ch hn (by decide) hch
        rw [qq_f5] at e3'
        have hsl : qq_s (2 * v) n 0 ch < (w * h * 6 * (2 * v)) := qq_s_lt hn (by decide) hch
        have TC := pc_send (n := w * h) (SD := (w * h * 6 * (2 * v)) * d) (F := F) (σ := jj_up σ 27 n (nI (g + 1))) (x := nI (4 * k + 2 * 1 + 1)) hfl (by omega) hsl hc0 (by rw [jj_up_ne (by decide)]; exact e3') (by rw [jj_up_ne (by decide)]; exact g5)
        obtain ⟨σb, hσb⟩ : ∃ σb, σb = jj_up (jj_up (jj_up (jj_up σ 27 n (nI (g + 1))) 7 (qq_s (2 * v) n 5 ch) (nI (cr - 1))) 8 (qq_s (2 * v) n 0 ch) (nI (4 * k + 2 * 1 + 1))) 2 8 (jj_up σ 27 n (nI (g + 1)) 2 8 + 1) := ⟨_, rfl⟩
        rw [← hσb] at TC
        have sb : ∀ q, q ≠ 2 → q ≠ 7 → q ≠ 8 → q ≠ 27 → σb q = σ q := fun q a1 a2 a3 a4 => by rw [hσb, jj_up_ne a1, jj_up_ne a3, jj_up_ne a2, jj_up_ne a4]
        have sbG : σb 27 = upd (σ 27) n (nI (g + 1)) := by rw [hσb, jj_up_ne (by decide), jj_up_ne (by decide), jj_up_ne (by decide), jj_up_same]
        obtain ⟨σc, RM, m1, m2, m3, m4⟩ := pc_removep (S := (w * h * 6 * (2 * v))) (SD := (w * h * 6 * (2 * v)) * d) (σ := σb) hF hn h9 hz q1 (by rw [sb 26 (by decide) (by decide) (by decide) (by decide)]; exact q2) (by rw [sb 24 (by decide) (by decide) (by decide) (by decide)]; exact hZ.2.1.2.2.2.2)
        obtain ⟨τc, RM2⟩ : ∃ τc, τc = jj_up (jj_up (jj_up (jj_up τb 16 n (nI (g + 1))) 16 n (nI 0)) 14 n (nI (ct - 1))) 15 (2 * n) (τb 15 (2 * n + 1)) := ⟨_, rfl⟩
        have w1 : ∀ i, i < ct - 1 → τc 15 (2 * n + i) = τ 15 (2 * n + i + 1) := fun i hi => by
          obtain rfl : i = 0 := by omega
          rw [RM2, jj_up_same]
          show upd _ (2 * n) (τb 15 (2 * n + 1)) (2 * n) = τ 15 (2 * n + 1)
          rw [pk_us, tb 15 (by decide) (by decide) (by decide)]
        have w1' : ∀ n' i, n' ≠ n → i < 2 → τc 15 (2 * n' + i) = τ 15 (2 * n' + i) := fun n' i hn' hi => by
          rw [RM2, jj_up_same, pk_un (by omega), jj_up_ne (by decide), jj_up_ne (by decide), jj_up_ne (by decide), tb 15 (by decide) (by decide) (by decide)]
        have w2 : τc 14 = upd (τ 14) n (nI (ct - 1)) := by
          rw [RM2, jj_up_ne (by decide), jj_up_same, jj_up_ne (by decide), jj_up_ne (by decide), tb 14 (by decide) (by decide) (by decide)]
        have w3 : τc 16 = upd (τ 16) n (nI 0) := by
          rw [RM2, jj_up_ne (by decide), jj_up_ne (by decide), jj_up_same, jj_up_same, qq_uu, tb 16 (by decide) (by decide) (by decide)]
        have w4 : ∀ q, q ≠ 15 → q ≠ 14 → q ≠ 16 → τc q = τb q := fun q q1 q2 q3 => by
          rw [RM2, jj_up_ne q1, jj_up_ne q2, jj_up_ne q3, jj_up_ne q3]
        obtain ⟨hRr, hv15, hnt⟩ := qq_remp (σ' := qq_mx 25 26 27 σ σc) (τ' := qq_mx 15 14 16 τ τc) hD hR hn hz q1 q3 hk y3
          (fun i hi => by rw [qq_mx_in (Or.inl rfl), m1]; unfold qq_sg; rw [if_pos (by omega), sb 25 (by decide) (by decide) (by decide) (by decide)])
          (fun n' i hn' hi => by rw [qq_mx_in (Or.inl rfl), m1]; unfold qq_sg; rw [if_neg (by omega), sb 25 (by decide) (by decide) (by decide) (by decide)])
          (by rw [qq_mx_in (Or.inr (Or.inl rfl)), m2, sb 26 (by decide) (by decide) (by decide) (by decide)])
          (by rw [qq_mx_in (Or.inr (Or.inr rfl)), m3, sbG, qq_uu])
          (fun q a1 a2 a3 => qq_mx_ne a1 a2 a3)
          (fun i hi => by rw [qq_mx_in (Or.inl rfl)]; exact w1 i hi)
          (fun n' i hn' hi => by rw [qq_mx_in (Or.inl rfl)]; exact w1' n' i hn' hi)
          (by rw [qq_mx_in (Or.inr (Or.inl rfl))]; exact w2)
          (by rw [qq_mx_in (Or.inr (Or.inr rfl))]; exact w3)
          (fun q a1 a2 a3 => qq_mx_ne a1 a2 a3)
        have t3 : qq_mx 15 14 16 τ τc 3 = τ 3 := qq_mx_ne (by decide) (by decide) (by decide)
        obtain ⟨σ1, τ1, T1, T2, hRel, sf, sf2, tf, tf0, tcr⟩ := qq_send (F := F) (n := n) (sd := 0) (c := ch) (cf := nI (4 * k + 2 * 1 + 1)) (rf := nI (4 * (2 * k + 1) + g)) hD hRr hn (by decide) rfl hch (by rw [qq_mx_ne (by decide) (by decide) (by decide)]; exact hcrn) (by rw [t3]; exact ⟨k, 1, g, hk, by decide, hg, rfl, by rw [if_pos hjl]⟩) (fun k' p' j' x1 x2 x3 x4 => by
          rw [t3] at x3
          have hl' := qq_len_in (τ 3 k') p'
          obtain ⟨rfl, rfl, rfl⟩ := qq_enc (show k < 400 by omega) x1 (by decide) x2 (by omega) (by omega) x4
          refine ⟨⟨hk, ?_⟩, hnt⟩
          rw [qq_mx_ne (by decide) (by decide) (by decide), qq_mx_ne (by decide) (by decide) (by decide), qq_mx_ne (by decide) (by decide) (by decide)]
          exact hv15)
        rw [qq_f0] at T1
        rw [qq_l0] at T2
        have T1' := pc_send (n := w * h) (SD := (w * h * 6 * (2 * v)) * d) (F := F) (σ := qq_mx 25 26 27 σ σc) (x := nI (4 * k + 2 * 1 + 1)) hfl (by omega) hsl hc0 (by rw [qq_mx_ne (by decide) (by decide) (by decide)]; exact e3') (by rw [qq_mx_ne (by decide) (by decide) (by decide)]; exact g5)
        have T2' := pr_send (F := F) (τ := qq_mx 15 14 16 τ τc) (l := 20 * n + ch) (x := nI (4 * (2 * k + 1) + g)) hll hc0 (by rw [qq_mx_ne (by decide) (by decide) (by decide)]; exact g6)
        have E1 : σ1 = σc := by
          rw [T1] at T1'
          rw [Option.some.inj T1']
          refine qq_mx3 (σi := jj_up σ 27 n (nI (g + 1))) (fun q a1 a2 a3 => jj_up_ne a3) (fun q a1 a2 a3 => ?_) (by decide) (by decide) (by decide)
          rw [m4 q a1 a2 a3, hσb, qq_mx_ne (by decide) (by decide) (by decide), jj_up_ne (k := 27) (k' := 2) (by decide)]
        have E2 : τ1 = τc := by
          rw [T2] at T2'
          rw [Option.some.inj T2']
          refine qq_mx3 (σi := τ) (fun q a1 a2 a3 => rfl) (fun q a1 a2 a3 => ?_) (by decide) (by decide) (by decide)
          rw [w4 q a1 a2 a3, hτb, qq_mx_ne (by decide) (by decide) (by decide)]
        refine ⟨σc, τc, ?_, ?_, by rw [E1, E2] at hRel; exact hRel, ?_⟩
        · rw [CE]
          show jj_b1 (f_Links_send (w * h) (w * h * 6 * (2 * v)) ((w * h * 6 * (2 * v)) * d) F (jj_up σ 27 n (nI (g + 1))) (nI (qq_s (2 * v) n 5 ch)) (nI (4 * k + 2 * 1 + 1))) _ = _
          rw [TC, pp_b1, RM]; rfl
        · rw [RE]
          show some (jj_up (jj_up (jj_up (jj_up τb 16 n (nI (g + 1))) 16 n (nI 0)) 14 n (jj_up τb 16 n (nI (g + 1)) 14 n - nI 1)) 15 (2 * n) (jj_up τb 16 n (nI (g + 1)) 15 (2 * n + 1))) = some τc
          rw [RM2, jj_up_ne (k' := 14) (by decide), jj_up_ne (k' := 15) (by decide), tb 14 (by decide) (by decide) (by decide), q3, pp_subN hz]
        · rw [w4 0 (by decide) (by decide) (by decide), hτb, jj_up_same, pk_un (by decide), jj_up_ne (by decide), jj_up_ne (by decide)]
      · rw [if_neg hjl] at CE RE
        have hR1 := qq_incp (g := g) (k := k) hD hR hn hz q1 q3 y3 (by omega) (by omega)
        obtain ⟨σ1, τ1, T1, T2, hRel, sf, sf2, tf, tf0, tcr⟩ := qq_send (F := F) (n := n) (sd := 0) (c := ch) (cf := nI (4 * k + 2 * 1 + 0)) (rf := nI (4 * (2 * k + 1) + g)) hD hR1 hn (by decide) rfl hch (by rw [jj_up_ne (by decide)]; exact hcrn) (by rw [jj_up_ne (by decide)]; exact ⟨k, 1, g, hk, by decide, hg, rfl, by rw [if_neg hjl]⟩) (fun k' p' j' x1 x2 x3 x4 => by
          rw [jj_up_ne (by decide)] at x3
          have hl' := qq_len_in (τ 3 k') p'
          obtain ⟨rfl, rfl, rfl⟩ := qq_enc (show k < 400 by omega) x1 (by decide) x2 (by omega) (by omega) x4
          exact absurd x3 hjl)
        rw [qq_f0] at T1
        rw [qq_l0] at T2
        have T3 := pr_send (F := F) (τ := jj_up τ 16 n (nI (g + 1))) (l := 20 * n + ch) (x := nI (4 * (2 * k + 1) + g)) hll hc0 (by rw [jj_up_ne (by decide)]; exact g6)
        rw [T2] at T3
        have T4 := Option.some.inj T3
        refine ⟨σ1, τ1, ?_, ?_, hRel, ?_⟩
        · rw [CE]
          show jj_b1 (f_Links_send (w * h) (w * h * 6 * (2 * v)) ((w * h * 6 * (2 * v)) * d) F (jj_up σ 27 n (nI (g + 1))) (nI (qq_s (2 * v) n 5 ch)) (nI (4 * k + 2 * 1 + 0))) _ = _
          rw [T1]; rfl
        · rw [RE, T4, hτb]
          congr 1
          rw [qq_upcm (k := 0) (by decide), qq_upcm (k := 20) (by decide), qq_upcm (k := 19) (by decide), jj_up_ne (k := 16) (k' := 0) (by decide)]
        · rw [tf0 15 (by decide), jj_up_ne (by decide)]
