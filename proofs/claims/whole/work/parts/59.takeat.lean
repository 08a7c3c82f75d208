/-! THE PART TAKING: one arrival lane, in both systems -/
theorem qq_l5 (n c : Nat) : qq_l n 5 c = 180 + 4 * n + c := by unfold qq_l; rw [if_neg (by decide)]
theorem pr_tkC {τ : jj_S} {n k wd x rc : Nat} (hn : n < 9) (hk : k < 400) (hwd : wd < 8) (hx : x < 2) (hrc : rc < 2) (e3 : τ 3 k = nI x) (e4 : τ 4 k = nI wd) (e14 : τ 14 n = nI rc) : tkC (nI n) (nI (2 * k + 0)) (nI k) τ = some (qq_svR τ n k (8 * n + wd) x rc) := by
  unfold qq_svR
  rcases (show x = 0 ∨ x = 1 by omega) with rfl | rfl <;>
    simp (disch := omega) only [tkC, pp_lt, pp_st, pp_ckE, pp_cl, pp_8, pp_2, pp_1, pp_0, pk_mul, nI_add, e3, e4, e14, jj_up_ne, jj_up_same, pk_us, pp_eq, if_true, if_false, Nat.one_ne_zero, eq_self_iff_true, Nat.add_zero]
theorem pr_tkB0 {F : Nat} {τ τ1 : jj_S} {n l : Nat} {v5 rf : Int32} (hT : f_rRef_take F τ (nI l) = some (rf, τ1)) : tkB F (nI n) (nI l) v5 (nI 0) τ = some τ1 := by
  simp (disch := omega) only [tkB, hT, pp_b2, pp_2, pp_nzE, pp_lt, pp_0, if_true]
theorem pr_tkB1 {F : Nat} {τ τ1 : jj_S} {n l k cpl : Nat} {rf : Int32} (hk : k < 400) (hc : cpl < 400) (e12 : τ1 0 12 = nI cpl) (hT : f_rRef_take F τ (nI l) = some (rf, τ1)) : tkB F (nI n) (nI l) (nI (2 * k + 1)) (nI 1) τ = some (jj_up (jj_up (jj_up τ1 7 cpl (nI k)) 8 cpl (τ1 0 15)) 0 12 (nI (cpl + 1))) := by
  have g1 : nI (2 * k + 1) / nI 2 = nI k := by rw [pp_div (by omega) (by omega) (by omega)]; congr 1; omega
  have g2 : nI (2 * k + 1) - nI k * nI 2 = nI 1 := by rw [pk_mul, pp_subN (by omega)]; congr 1; omega
  simp (disch := omega) only [tkB, hT, pp_b2, pp_2, pp_nzE, pp_lt, pp_0, pp_1, pp_eq, g1, g2, pp_st, pp_ckE, pp_cl, e12, jj_up_ne, nI_add, if_true, if_false, Nat.one_ne_zero]
theorem pr_tkB2 {F : Nat} {τ τ1 : jj_S} {n l k wd x rc : Nat} {rf : Int32} (hn : n < 9) (hk : k < 400) (hwd : wd < 8) (hx : x < 2) (hrc : rc < 2) (e3 : τ1 3 k = nI x) (e4 : τ1 4 k = nI wd) (e14 : τ1 14 n = nI rc) (hT : f_rRef_take F τ (nI l) = some (rf, τ1)) : tkB F (nI n) (nI l) (nI (2 * k + 0)) (nI 1) τ = some (qq_svR τ1 n k (8 * n + wd) x rc) := by
  have g1 : nI (2 * k + 0) / nI 2 = nI k := by rw [pp_div (by omega) (by omega) (by omega)]; congr 1; omega
  have g2 : nI (2 * k + 0) - nI k * nI 2 = nI 0 := by rw [pk_mul, pp_subN (by omega)]; congr 1; omega
  have hC := pr_tkC (τ := τ1) hn hk hwd hx hrc e3 e4 e14
  have h01 : (0 : Nat) = 1 ↔ False := by decide
  simp (disch := omega) only [tkB, hT, pp_b2, pp_2, pp_nzE, pp_lt, pp_0, pp_1, pp_eq, g1, g2, hC, h01, if_true, if_false, Nat.one_ne_zero]
theorem pr_takeAt {F : Nat} {τ : jj_S} {n c k p x j sz rc : Nat} (hn : n < 9) (hc : c < 4) (hk : k < 400) (hp : p < 2) (hx : x < 2) (hj : j < qq_len (τ 3 k) p) (hsz : 1 ≤ sz) (hsz4 : sz ≤ 4) (hrc : rc ≤ 2) (e3 : τ 3 k = nI x) (e17 : τ 17 (180 + 4 * n + c) = nI sz) (e18 : τ 18 (4 * (180 + 4 * n + c)) = nI (4 * (2 * k + p) + j)) (e14 : τ 14 n = nI rc) : f_rRef_takeAt F τ (nI n) (nI c) = if p = 0 ∧ j + 1 = qq_len (τ 3 k) p ∧ ¬ (τ 10 n = nI 0 ∧ rc < 2) then some τ else tkB F (nI n) (nI (180 + 4 * n + c)) (nI (2 * k + p)) (if j + 1 = qq_len (τ 3 k) p then nI 1 else nI 0) τ := by
  have hl := qq_len_in (τ 3 k) p
  have h1 : (4 * (2 * k + p) + j) / 4 = 2 * k + p := by omega
  have h2 : (2 * k + p) % 2 = p := by omega
  have g1 : nI (4 * (2 * k + p) + j) / nI 4 = nI (2 * k + p) := by rw [pp_div (by omega) (by omega) (by omega), h1]
  have g2 : nI (2 * k + p) - nI (2 * k + p) / nI 2 * nI 2 = nI p := by rw [pp_rem (by omega) (by omega) (by omega), h2]
  have iL := pr_isLast (F := F) (τ := τ) hk hp hx hj e3
  have hs0 : ¬ sz = 0 := by omega
  rw [takeAt_eq]
  simp (disch := omega) only [pp_180, pp_4, pp_lt, pk_mul, nI_add, pp_ckE, pp_cl, e17, pp_0, pp_eq, hs0, if_false, e18, pp_nzE, g1, iL, pp_b2, pp_2, g2, e14]
  by_cases hjl : j + 1 = qq_len (τ 3 k) p
  · rw [if_pos hjl]
    simp (disch := omega) only [pp_eq, Nat.one_ne_zero, if_false]
    rcases (show p = 0 ∨ p = 1 by omega) with rfl | rfl
    · simp only [if_true]
      by_cases h10 : τ 10 n = nI 0
      · simp only [h10, if_true]
        by_cases hr2 : rc = 2
        · rw [if_pos hr2, if_pos ⟨trivial, hjl, fun q => by omega⟩]
        · rw [if_neg hr2, if_neg (fun q => q.2.2 ⟨trivial, by omega⟩)]
      · rw [if_neg h10, if_pos ⟨trivial, hjl, fun q => h10 q.1⟩]
    · simp only [Nat.one_ne_zero, if_false, false_and]
  · rw [if_neg hjl]
    simp only [if_true]
    rw [if_neg (fun q => hjl q.2.1)]
set_option maxHeartbeats 1000000 in
theorem qq_takeAt {w h d v made cpl F n c : Nat} {σ τ : jj_S} {x1 : Int32} (hF : 300 ≤ F) (hD : qq_D w h d v) (hR : qq_Rel w h d v made cpl σ τ) (hn : n < w * h) (hc : c < 2 * v) (hx : x1 = τ 0 15) :
    ∃ (σ' τ' : jj_S) (cpl' : Nat), (∀ K rec, b_Ifs_takeAll_15 (w * h) (w * h * 6 * (2 * v)) (w * h * 6 * (2 * v) * d) F K rec σ x1 (nI n) (nI c) = rec σ' x1 (nI n) (nI (c + 1))) ∧ f_rRef_takeAt F τ (nI n) (nI c) = some τ' ∧ qq_Rel w h d v made cpl' σ' τ' ∧ τ' 0 15 = τ 0 15 := by
  obtain ⟨hZ, hM, hP, hW, hQ, hL, hRt, hE, hU, hV⟩ := id hR
  obtain ⟨⟨d1, d2⟩, ⟨d3, d4⟩, ⟨d5, d6⟩, ⟨d7, d8⟩⟩ := id hD
  have h9 := qq_n9 hD
  have hm := hP.1.1
  obtain ⟨sz, fi, cr, bk, g1, g2, g3, g4, g5, g6, g7, g8, g9, g10, g11⟩ := hL n 5 c hn (by decide) hc
  have hS := qq_S216 hD
  have hsl : qq_s (2 * v) n 5 c < w * h * 6 * (2 * v) := qq_s_lt hn (by decide) hc
  have e14 := hZ.1.2.2.2.2.1
  have nc : ¬ (2 * v ≤ c) := by omega
  have sl := pc_slot (n := w * h) (S := w * h * 6 * (2 * v)) (SD := w * h * 6 * (2 * v) * d) (F := F) (σ := σ) (a := n) (b := 5) (c := c) e14
  rw [qq_l5] at g3
  rcases Nat.eq_zero_or_pos sz with hz | hz
  · subst hz
    refine ⟨σ, τ, cpl, fun K rec => ?_, ?_, hR, rfl⟩
    · simp (disch := omega) only [b_Ifs_takeAll_15, e14, pp_le, nc, if_false, pp_5, sl, pp_b2, pp_ckE, pp_cl, g2, pp_0, Nat.le_refl, if_true, pp_1, nI_add]
    · rw [takeAt_eq]
      simp (disch := omega) only [pp_180, pp_4, pp_lt, pk_mul, nI_add, pp_ckE, pp_cl, g3, pp_0, if_true]
  · obtain ⟨cf, rf, σ1, τ1, T1, T2, T3, hrf, hFl, hR1, sf, tf, hfree⟩ := qq_take (F := F) (n := n) (sd := 5) (c := c) hF hD hR hn (by decide) hc (by rw [qq_l5, g3, ne_eq, pp_eq (by omega) (by omega)]; omega)
    rw [qq_l5] at T3 hrf
    obtain ⟨k, p, j, hk, hp, hj, e1, e2⟩ := hFl
    obtain ⟨fr, to, x, wd, p1, p2, p3, p4, p5, p6, p7, p8, p9, p10, p11, p12⟩ := hP.1.2 k hk
    obtain ⟨rc, g, q1, q2, q3, q4, q5, q6, q7⟩ := hQ.2 n hn
    have hl := qq_len_in (τ 3 k) p
    have e29 := hW.2 n hn
    have n0 : ¬ (sz ≤ 0) := by omega
    have RT := pr_takeAt (F := F) (τ := τ) (n := n) (c := c) (by omega) (by omega) (by omega) hp p3 hj hz (by omega) q1 p10 g3 (by rw [← hrf]; exact e1) q3
    have CT : ∀ K rec, b_Ifs_takeAll_15 (w * h) (w * h * 6 * (2 * v)) (w * h * 6 * (2 * v) * d) F K rec σ x1 (nI n) (nI c) = (jj_b2 (f_Ifs_mayTake (w * h) (w * h * 6 * (2 * v)) (w * h * 6 * (2 * v) * d) F σ (nI n) cf) (fun r6 σ5 => if r6 = 0 then (rec σ5 x1 (nI n) (nI (c + 1))) else (jj_b2 (f_Links_takeOut (w * h) (w * h * 6 * (2 * v)) (w * h * 6 * (2 * v) * d) F σ5 (nI (qq_s (2 * v) n 5 c))) (fun r8 σ7 => jj_b1 (f_Ifs_accept (w * h) (w * h * 6 * (2 * v)) (w * h * 6 * (2 * v) * d) F σ7 (nI n) r8 x1) (fun σ9 => rec σ9 x1 (nI n) (nI (c + 1))))))) := fun K rec => by
      simp (disch := omega) only [b_Ifs_takeAll_15, e14, pp_le, nc, if_false, pp_5, sl, pp_b2, pp_ckE, pp_cl, g2, pp_0, n0, T1, pp_1, nI_add]
      rfl
    by_cases hjl : j + 1 = qq_len (τ 3 k) p
    · rw [if_pos hjl] at e2
      obtain ⟨⟨-, hv15⟩, hnt⟩ := hfree k p j (by omega) hp hjl e1
      have MT := pc_mayTake (N := w * h) (S := w * h * 6 * (2 * v)) (SD := w * h * 6 * (2 * v) * d) (F := F) (σ := σ) (n := n) (k := k) (p := p) (t := 1) hn h9 (by omega) hp (by decide) q1 q2 hZ.2.1.2.2.2.2
      rw [← e2, e29] at MT
      rw [if_pos hjl] at RT
      by_cases hheld : p = 0 ∧ ¬ (τ 10 n = nI 0 ∧ rc < 2)
      · rw [if_pos ⟨hheld.1, rfl, hheld.2⟩] at MT
        rw [if_pos ⟨hheld.1, hjl, hheld.2⟩] at RT
        refine ⟨σ, τ, cpl, fun K rec => ?_, RT, hR, rfl⟩
        rw [CT]
        simp (disch := omega) only [MT, pp_b2, pp_0, if_true]
      · rw [if_neg (fun q => hheld ⟨q.1, q.2.2⟩)] at MT
        rw [if_neg (fun q => hheld ⟨q.1, q.2.2⟩)] at RT
        rcases (show p = 0 ∨ p = 1 by omega) with rfl | rfl
        · have hrc2 : τ 10 n = nI 0 ∧ rc < 2 := by
            rcases Classical.em (τ 10 n = nI 0 ∧ rc < 2) with q | q
            · exact q
            · exact absurd ⟨rfl, q⟩ hheld
          have AC := pc_accept2 (N := w * h) (S := w * h * 6 * (2 * v)) (SD := w * h * 6 * (2 * v) * d) (F := F) (σ := σ1) (n := n) (k := k) (wd := wd) (x := x) (rc := rc) (y := x1) hn h9 (by omega) p4 p3 hrc2.2 (by rw [sf 14 (by decide) (by decide) (by decide)]; exact p11) (by rw [sf 13 (by decide) (by decide) (by decide)]; exact p9) (by rw [sf 26 (by decide) (by decide) (by decide)]; exact q2) (by rw [sf 24 (by decide) (by decide) (by decide)]; exact hZ.2.1.2.2.2.2)
          rw [← e2] at AC
          have RB := pr_tkB2 (F := F) (τ := τ) (n := n) (k := k) (wd := wd) (x := x) (rc := rc) (by omega) (by omega) p4 p3 hrc2.2 (by rw [tf 3 (by decide) (by decide) (by decide)]; exact p10) (by rw [tf 4 (by decide) (by decide) (by decide)]; exact p12) (by rw [tf 14 (by decide) (by decide) (by decide)]; exact q3) T3
          refine ⟨_, _, cpl, fun K rec => ?_, by rw [RT]; exact RB, qq_serve hD hR1 hn hk hrc2.2 (by rw [tf 14 (by decide) (by decide) (by decide)]; exact q3) (by rw [tf 3 (by decide) (by decide) (by decide)]; exact p10) p3 p4 (by rw [sf 15 (by decide) (by decide) (by decide), tf 5 (by decide) (by decide) (by decide)]; rw [if_pos rfl] at hv15; exact hv15) hnt, ?_⟩
          · rw [CT]
            simp (disch := omega) only [MT, pp_b2, pp_b1, pp_0, pp_eq, Nat.one_ne_zero, if_false, T2, AC]
          · rw [(qq_svR_ne _ _ _ _ _ _).1 0 (by decide) (by decide) (by decide) (by decide), tf 0 (by decide) (by decide) (by decide)]
        · have DN := qq_done hR1 hk (by rw [sf 15 (by decide) (by decide) (by decide), tf 6 (by decide) (by decide) (by decide)]; rw [if_neg (by decide)] at hv15; exact hv15) hnt
          have AC := pc_accept1 (N := w * h) (S := w * h * 6 * (2 * v)) (SD := w * h * 6 * (2 * v) * d) (F := F) (σ := σ1) (n := n) (k := k) (cpl := cpl) (x := x1) (by omega) DN.1 hR1.2.1.2.2.1
          rw [← e2] at AC
          have RB := pr_tkB1 (F := F) (τ := τ) (n := n) (k := k) (cpl := cpl) (by omega) DN.1 hR1.2.1.2.2.2.1 T3
          have e15 : τ1 0 15 = x1 := by rw [hx, tf 0 (by decide) (by decide) (by decide)]
          refine ⟨_, _, cpl + 1, fun K rec => ?_, by rw [RT]; exact RB, by rw [e15] at DN ⊢; exact DN.2, ?_⟩
          · rw [CT]
            simp (disch := omega) only [MT, pp_b2, pp_b1, pp_0, pp_eq, Nat.one_ne_zero, if_false, T2, AC]
          · simp (disch := omega) only [jj_up_same, jj_up_ne, pk_un]; rw [tf 0 (by decide) (by decide) (by decide)]
    · rw [if_neg hjl] at e2 RT
      have MT := pc_mayTake (N := w * h) (S := w * h * 6 * (2 * v)) (SD := w * h * 6 * (2 * v) * d) (F := F) (σ := σ) (n := n) (k := k) (p := p) (t := 0) hn h9 (by omega) hp (by decide) q1 q2 hZ.2.1.2.2.2.2
      rw [← e2, if_neg (fun q => absurd q.2.1 (by decide))] at MT
      have AC := pc_accept0 (N := w * h) (S := w * h * 6 * (2 * v)) (SD := w * h * 6 * (2 * v) * d) (F := F) (σ := σ1) (n := n) (k := k) (p := p) (x := x1) (by omega) hp
      rw [← e2] at AC
      rw [if_neg (fun q => hjl q.2.1)] at RT
      refine ⟨σ1, τ1, cpl, fun K rec => ?_, by rw [RT]; exact pr_tkB0 T3, hR1, by rw [tf 0 (by decide) (by decide) (by decide)]⟩
      rw [CT]
      simp (disch := omega) only [MT, pp_b2, pp_b1, pp_0, pp_eq, Nat.one_ne_zero, if_false, T2, AC]
