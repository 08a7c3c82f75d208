/-! A REQUEST -/
def qq_rqA (σ : jj_S) (n m x wd k : Nat) (y : Int32) : jj_S := jj_up (jj_up (jj_up (jj_up (jj_up (jj_up σ 11 k (nI n)) 12 k (nI m)) 13 k (nI x)) 14 k (nI wd)) 15 k y) 10 6 (nI (k + 1))
def qq_rqC (σ : jj_S) (n m x wd k ct : Nat) (y : Int32) : jj_S := jj_up (jj_up (qq_rqA σ n m x wd k y) 21 (4 * n + ct) (nI k)) 22 n (nI (ct + 1))
def qq_rqR (τ : jj_S) (n m x wd k ct : Nat) (y : Int32) : jj_S := jj_up (jj_up (jj_up (jj_up (jj_up (jj_up (jj_up (jj_up τ 1 k (nI n)) 2 k (nI m)) 3 k (nI x)) 4 k (nI wd)) 5 k y) 12 (4 * n + ct) (nI (2 * k))) 11 n (nI (ct + 1))) 0 5 (nI (k + 1))
theorem qq_rqC_ne (σ : jj_S) (n m x wd k ct : Nat) (y : Int32) : (∀ q, q ≠ 10 → q ≠ 11 → q ≠ 12 → q ≠ 13 → q ≠ 14 → q ≠ 15 → q ≠ 21 → q ≠ 22 → qq_rqC σ n m x wd k ct y q = σ q) ∧ qq_rqC σ n m x wd k ct y 10 = upd (σ 10) 6 (nI (k + 1)) ∧ qq_rqC σ n m x wd k ct y 11 = upd (σ 11) k (nI n) ∧ qq_rqC σ n m x wd k ct y 12 = upd (σ 12) k (nI m) ∧ qq_rqC σ n m x wd k ct y 13 = upd (σ 13) k (nI x) ∧ qq_rqC σ n m x wd k ct y 14 = upd (σ 14) k (nI wd) ∧ qq_rqC σ n m x wd k ct y 15 = upd (σ 15) k y ∧ qq_rqC σ n m x wd k ct y 21 = upd (σ 21) (4 * n + ct) (nI k) ∧ qq_rqC σ n m x wd k ct y 22 = upd (σ 22) n (nI (ct + 1)) := by
  unfold qq_rqC qq_rqA
  refine ⟨fun q q1 q2 q3 q4 q5 q6 q7 q8 => by rw [jj_up_ne q8, jj_up_ne q7, jj_up_ne q1, jj_up_ne q6, jj_up_ne q5, jj_up_ne q4, jj_up_ne q3, jj_up_ne q2], ?_, ?_, ?_, ?_, ?_, ?_, ?_, ?_⟩ <;> simp (disch := omega) only [jj_up_ne, jj_up_same]
theorem qq_rqR_ne (τ : jj_S) (n m x wd k ct : Nat) (y : Int32) : (∀ q, q ≠ 0 → q ≠ 1 → q ≠ 2 → q ≠ 3 → q ≠ 4 → q ≠ 5 → q ≠ 11 → q ≠ 12 → qq_rqR τ n m x wd k ct y q = τ q) ∧ qq_rqR τ n m x wd k ct y 0 = upd (τ 0) 5 (nI (k + 1)) ∧ qq_rqR τ n m x wd k ct y 1 = upd (τ 1) k (nI n) ∧ qq_rqR τ n m x wd k ct y 2 = upd (τ 2) k (nI m) ∧ qq_rqR τ n m x wd k ct y 3 = upd (τ 3) k (nI x) ∧ qq_rqR τ n m x wd k ct y 4 = upd (τ 4) k (nI wd) ∧ qq_rqR τ n m x wd k ct y 5 = upd (τ 5) k y ∧ qq_rqR τ n m x wd k ct y 12 = upd (τ 12) (4 * n + ct) (nI (2 * k)) ∧ qq_rqR τ n m x wd k ct y 11 = upd (τ 11) n (nI (ct + 1)) := by
  unfold qq_rqR
  refine ⟨fun q q1 q2 q3 q4 q5 q6 q7 q8 => by rw [jj_up_ne q1, jj_up_ne q7, jj_up_ne q8, jj_up_ne q6, jj_up_ne q5, jj_up_ne q4, jj_up_ne q3, jj_up_ne q2], ?_, ?_, ?_, ?_, ?_, ?_, ?_, ?_⟩ <;> simp (disch := omega) only [jj_up_ne, jj_up_same]
theorem qq_F_up {k : Nat} {wr : Nat → Int32} {cf rf z : Int32} (h : qq_F k wr cf rf) : qq_F (k + 1) (upd wr k z) cf rf := by
  obtain ⟨k0, p, j, h1, h2, h3, h4, h5⟩ := h
  refine ⟨k0, p, j, by omega, h2, ?_, h4, ?_⟩
  · rw [pk_un (by omega)]; exact h3
  · rw [pk_un (by omega)]; exact h5
theorem qq_F_num {made k p j : Nat} {wr : Nat → Int32} {cf : Int32} (h : qq_F made wr cf (nI (4 * (2 * k + p) + j))) (hm : made ≤ 400) (hk : k < 400) (hp : p < 2) (hj : j < 4) : k < made := by
  obtain ⟨k0, p0, j0, h1, h2, h3, h4, h5⟩ := h
  have hl := qq_len_in (wr k0) p0
  rw [pp_eq (by omega) (by omega)] at h4
  omega
theorem qq_lane_or {w h v : Nat} (a : Nat) : (∃ n sd c, n < w * h ∧ sd < 6 ∧ c < 2 * v ∧ qq_o w h n sd = true ∧ a = qq_l n sd c) ∨ (∀ n sd c, n < w * h → sd < 6 → c < 2 * v → qq_o w h n sd = true → a ≠ qq_l n sd c) := by
  by_cases hx : ∃ n sd c, n < w * h ∧ sd < 6 ∧ c < 2 * v ∧ qq_o w h n sd = true ∧ a = qq_l n sd c
  · exact Or.inl hx
  · exact Or.inr (fun n sd c a1 a2 a3 a4 e => hx ⟨n, sd, c, a1, a2, a3, a4, e⟩)
theorem qq_flitin {w h d v made cpl a i sz : Nat} {σ τ : jj_S} (hD : qq_D w h d v) (hR : qq_Rel w h d v made cpl σ τ) (ha : a < 216) (e17 : τ 17 a = nI sz) (hsz : sz ≤ 4) (hi : i < sz) : ∃ cf, qq_F made (τ 3) cf (τ 18 (4 * a + i)) := by
  have hd4 : d ≤ 4 := hD.2.2.1.2
  rcases qq_lane_or (w := w) (h := h) (v := v) a with ⟨n, sd, c, hn, hs, hc, ho, rfl⟩ | hx
  · obtain ⟨sz', fi, cr, bk, g1, g2, g3, g4, g5, g6, g7, g8, g9, g10, g11⟩ := hR.2.2.2.2.2.1 n sd c hn hs hc
    have e : sz' = sz := by rw [e17, pp_eq (by omega) (by omega)] at g3; exact g3.symm
    subst e
    exact ⟨_, g10 i hi⟩
  · have := (hR.2.2.2.2.2.2.2.1 a ha hx).1
    rw [e17, pp_0, pp_eq (by omega) (by omega)] at this
    omega
theorem qq_comingin {w h d v made cpl a : Nat} {σ τ : jj_S} (hR : qq_Rel w h d v made cpl σ τ) (ha : a < 216) : τ 19 a = qq_m ∨ ∃ cf, qq_F made (τ 3) cf (τ 19 a) := by
  rcases qq_lane_or (w := w) (h := h) (v := v) a with ⟨n, sd, c, hn, hs, hc, ho, rfl⟩ | hx
  · obtain ⟨sz', fi, cr, bk, g1, g2, g3, g4, g5, g6, g7, g8, g9, g10, g11⟩ := hR.2.2.2.2.2.1 n sd c hn hs hc
    rcases g11 with g | g
    · exact Or.inl g.2
    · exact Or.inr ⟨_, g⟩
  · exact Or.inl (hR.2.2.2.2.2.2.2.1 a ha hx).2.1
set_option maxHeartbeats 1000000 in
theorem qq_rqK {w h d v k cpl n m x wd ct : Nat} {σ τ : jj_S} {y : Int32} (hD : qq_D w h d v) (hR : qq_Rel w h d v k cpl σ τ) (hk : k < 400) (hn : n < w * h) (hct : ct < 4) (e11 : τ 11 n = nI ct) {t a i k1 p : Nat} (hK : qq_KT cpl (qq_rqR τ n m x wd k ct y) t a i k1 p) : ((t = 0 ∧ a = n ∧ i = ct) ∧ k1 = k ∧ p = 0) ∨ qq_KT cpl τ t a i k1 p := by
  have h9 := qq_n9 hD
  obtain ⟨tf, t0, t1, t2, t3, t4, t5, t12, t11⟩ := qq_rqR_ne τ n m x wd k ct y
  obtain ⟨hk1, hK⟩ := hK
  rw [t3, t11, t12, tf 7 (by decide) (by decide) (by decide) (by decide) (by decide) (by decide) (by decide) (by decide), tf 14 (by decide) (by decide) (by decide) (by decide) (by decide) (by decide) (by decide) (by decide), tf 15 (by decide) (by decide) (by decide) (by decide) (by decide) (by decide) (by decide) (by decide), tf 17 (by decide) (by decide) (by decide) (by decide) (by decide) (by decide) (by decide) (by decide), tf 18 (by decide) (by decide) (by decide) (by decide) (by decide) (by decide) (by decide) (by decide), tf 19 (by decide) (by decide) (by decide) (by decide) (by decide) (by decide) (by decide) (by decide)] at hK
  clear tf t0 t1 t2 t3 t4 t5 t12 t11
  rcases hK with ⟨rfl, hp, ha, ⟨c0, c1, c2, c3⟩, e⟩ | hK | ⟨rfl, hp, ha, ⟨sz, c1, c2, c3⟩, j, hj, e⟩ | ⟨rfl, hp, ha, rfl, j, hj, e⟩ | hK
  · by_cases han : a = n
    · subst han
      rw [pk_us, pp_eq (by omega) (by omega)] at c1
      by_cases hir : i = ct
      · subst hir
        rw [pk_us, pp_eq (by omega) (by omega)] at e
        exact Or.inl ⟨⟨rfl, rfl, rfl⟩, by omega, hp⟩
      · rw [pk_un (by omega)] at e
        exact Or.inr ⟨hk1, Or.inl ⟨rfl, hp, ha, ⟨ct, e11, by omega, by omega⟩, e⟩⟩
    · rw [pk_un han] at c1
      rw [pk_un (by omega)] at e
      exact Or.inr ⟨hk1, Or.inl ⟨rfl, hp, ha, ⟨c0, c1, c2, c3⟩, e⟩⟩
  · exact Or.inr ⟨hk1, Or.inr (Or.inl hK)⟩
  · obtain ⟨cf, hf⟩ := qq_flitin hD hR ha c1 c2 c3
    rw [e] at hf
    have hl := qq_len_in (upd (τ 3) k (nI x) k1) p
    have hlt := qq_F_num hf (by omega) hk1 hp (by omega)
    rw [pk_un (by omega)] at hj
    exact Or.inr ⟨hk1, Or.inr (Or.inr (Or.inl ⟨rfl, hp, ha, ⟨sz, c1, c2, c3⟩, j, hj, e⟩))⟩
  · have hl := qq_len_in (upd (τ 3) k (nI x) k1) p
    rcases qq_comingin hR ha with hf | ⟨cf, hf⟩
    · rw [e, pp_m1 (by omega)] at hf
      exact hf.elim
    · rw [e] at hf
      have hlt := qq_F_num hf (by omega) hk1 hp (by omega)
      rw [pk_un (by omega)] at hj
      exact Or.inr ⟨hk1, Or.inr (Or.inr (Or.inr (Or.inl ⟨rfl, hp, ha, rfl, j, hj, e⟩)))⟩
  · exact Or.inr ⟨hk1, Or.inr (Or.inr (Or.inr (Or.inr hK)))⟩
theorem qq_Q_up {room p k n : Nat} {wr cn cc cg rn rc rg : Nat → Int32} {z : Int32} (h : qq_Q room p k wr cn cc cg rn rc rg n) : qq_Q room p (k + 1) (upd wr k z) cn cc cg rn rc rg n := by
  obtain ⟨ct, g, c1, c2, c3, c4, c5, c6, c7⟩ := h
  refine ⟨ct, g, c1, c2, c3, c4, c5, c6, fun i hi => ?_⟩
  obtain ⟨k0, a1, a2, a3, a4⟩ := c7 i hi
  exact ⟨k0, by omega, a2, a3, by rw [pk_un (by omega)]; exact a4⟩
set_option maxHeartbeats 1000000 in
theorem qq_made {w h d v k cpl n m x wd ct : Nat} {σ τ : jj_S} {y : Int32} (hD : qq_D w h d v) (hR : qq_Rel w h d v k cpl σ τ) (hk : k < 400) (hn : n < w * h) (hm : m < w * h) (hx : x < 2) (hwd : wd < 8) (hct : ct < 4) (e11 : τ 11 n = nI ct) : qq_Rel w h d v (k + 1) cpl (qq_rqC σ n m x wd k ct y) (qq_rqR τ n m x wd k ct y) := by
  have hKs : ∀ {t a i k1 p : Nat}, qq_KT cpl (qq_rqR τ n m x wd k ct y) t a i k1 p → ((t = 0 ∧ a = n ∧ i = ct) ∧ k1 = k ∧ p = 0) ∨ qq_KT cpl τ t a i k1 p := fun hK => qq_rqK hD hR hk hn hct e11 hK
  have h9 := qq_n9 hD
  obtain ⟨hZ, hM, hP, hW, hQ, hL, hRt, hE, hU, hV⟩ := hR
  have hfr : ∀ t a i p', ¬ qq_KT cpl τ t a i k p' := fun t a i p' g => absurd (hV _ _ _ _ _ g).1 (by omega)
  obtain ⟨tf, t0, t1, t2, t3, t4, t5, t12, t11⟩ := qq_rqR_ne τ n m x wd k ct y
  obtain ⟨sf, s10, s11, s12, s13, s14, s15, s21, s22⟩ := qq_rqC_ne σ n m x wd k ct y
  refine ⟨?_, ?_, ?_, ?_, ?_, ?_, ?_, ?_, ?_, ?_⟩
  · clear hM hP hW hQ hL hRt hE hU hV
    unfold qq_Z at hZ ⊢
    simp (disch := omega) only [sf, t0, pk_un]; exact hZ
  · clear hZ hP hW hQ hL hRt hE hU hV
    unfold qq_M at hM ⊢
    simp (disch := omega) only [sf, s10, t0, pk_un, pk_us]
    exact ⟨trivial, trivial, hM.2.2⟩
  · clear hZ hM hW hQ hL hRt hE hU hV
    unfold qq_PT at hP ⊢
    simp (disch := omega) only [sf, tf, s11, s12, s13, s14, t1, t2, t3, t4]
    refine ⟨⟨by omega, fun k' hk' => ?_⟩, fun j hj => ?_⟩
    · by_cases e : k' = k
      · subst e
        exact ⟨n, m, x, wd, hn, hm, hx, hwd, pk_us, pk_us, pk_us, pk_us, pk_us, pk_us, pk_us, pk_us⟩
      · rw [pk_un e, pk_un e, pk_un e, pk_un e, pk_un e, pk_un e, pk_un e, pk_un e]
        exact hP.1.2 k' (by omega)
    · obtain ⟨⟨k0, a1, a2⟩, a3⟩ := hP.2 j hj
      exact ⟨⟨k0, by omega, a2⟩, a3⟩
  · clear hZ hM hP hQ hL hRt hE hU hV
    unfold qq_WT at hW ⊢
    simp (disch := omega) only [sf, tf]; exact hW
  · clear hZ hM hP hW hL hRt hE hU hV
    unfold qq_QT at hQ ⊢
    simp (disch := omega) only [sf, tf, s21, s22, t3, t11, t12]
    refine ⟨fun n' hn' => ?_, fun n' hn' => qq_Q_up (hQ.2 n' hn')⟩
    obtain ⟨ct', g, c1, c2, c3, c4, c5, c6, c7⟩ := hQ.1 n' hn'
    by_cases hnn : n' = n
    · subst hnn
      have ec : ct' = ct := by rw [e11, pp_eq (by omega) (by omega)] at c3; exact c3.symm
      subst ec
      refine ⟨ct' + 1, g, by omega, pk_us, pk_us, c4, c5, fun h0 => absurd h0 (by omega), fun i hi => ?_⟩
      by_cases hic : i = ct'
      · subst hic
        rw [pk_us, pk_us]
        refine ⟨k, by omega, rfl, rfl, fun h0 => ?_⟩
        have := qq_len_in (upd (τ 3) k (nI x) k) 0
        rw [c6 h0]; omega
      · rw [pk_un (by omega), pk_un (by omega)]
        obtain ⟨k0, a1, a2, a3, a4⟩ := c7 i (by omega)
        exact ⟨k0, by omega, a2, a3, by rw [pk_un (by omega)]; exact a4⟩
    · refine ⟨ct', g, c1, by rw [pk_un hnn]; exact c2, by rw [pk_un hnn]; exact c3, c4, c5, c6, fun i hi => ?_⟩
      rw [pk_un (by omega), pk_un (by omega)]
      obtain ⟨k0, a1, a2, a3, a4⟩ := c7 i hi
      exact ⟨k0, by omega, a2, a3, by rw [pk_un (by omega)]; exact a4⟩
  · clear hZ hM hP hW hQ hRt hE hU hV
    unfold qq_LT at hL ⊢
    simp (disch := omega) only [sf, tf, t3]
    intro n' sd' c' hn' hs' hc'
    obtain ⟨sz, fi, cr, bk, g1, g2, g3, g4, g5, g6, g7, g8, g9, g10, g11⟩ := hL n' sd' c' hn' hs' hc'
    refine ⟨sz, fi, cr, bk, g1, g2, g3, g4, g5, g6, g7, g8, g9, fun i hi => qq_F_up (g10 i hi), ?_⟩
    rcases g11 with g | g
    · exact Or.inl g
    · exact Or.inr (qq_F_up g)
  · clear hZ hM hP hW hQ hL hE hU hV
    unfold qq_RT at hRt ⊢
    simp (disch := omega) only [sf, tf]; exact hRt
  · clear hZ hM hP hW hQ hL hRt hU hV
    simp (disch := omega) only [tf]; exact hE
  · intro t a i t' a' i' k1 p p' h1 h2
    rcases hKs h1 with ⟨⟨e1, e2, e3⟩, e4, -⟩ | g1 <;> rcases hKs h2 with ⟨⟨x1, x2, x3⟩, x4, -⟩ | g2
    · exact ⟨e1.trans x1.symm, e2.trans x2.symm, e3.trans x3.symm⟩
    · rw [e4] at g2; exact absurd g2 (hfr _ _ _ _)
    · rw [x4] at g1; exact absurd g1 (hfr _ _ _ _)
    · exact hU _ _ _ _ _ _ _ _ _ g1 g2
  · intro t a i k1 p h1
    rw [s15, t5, tf 6 (by decide) (by decide) (by decide) (by decide) (by decide) (by decide) (by decide) (by decide)]
    rcases hKs h1 with ⟨-, rfl, rfl⟩ | g1
    · rw [pk_us, if_pos rfl, pk_us]
      exact ⟨by omega, rfl⟩
    · have hne : k1 ≠ k := fun e => by rw [e] at g1; exact hfr _ _ _ _ g1
      rw [pk_un hne, pk_un hne]
      have := hV _ _ _ _ _ g1
      exact ⟨by omega, this.2⟩
/-- the code -/
theorem qq_narx {x : Nat} (hx : x < 2) : vp_nar .boolean (nI x) = nI x := by
  rcases (show x = 0 ∨ x = 1 by omega) with rfl | rfl <;> rfl
theorem pc_isFullq {N S SD F n ct : Nat} {σ : jj_S} (hn : n < N) (hN : N ≤ 9) (hct : ct ≤ 4) (e22 : σ 22 n = nI ct) (e20 : σ 20 1 = nI 4) : f_Queues_isFullq N S SD F σ (nI n) = some (if ct < 4 then nI 0 else nI 1, σ) := by
  simp (disch := omega) only [f_Queues_isFullq, pp_ckE, pp_cl, e22, e20, pp_ltN, pp_0, pp_1]
  split <;> rfl
theorem pc_isFull {N S SD F k : Nat} {σ : jj_S} (hk : k ≤ 400) (e10 : σ 10 6 = nI k) : f_Packets_isFull N S SD F σ = some (if k < 400 then nI 0 else nI 1, σ) := by
  simp (disch := omega) only [f_Packets_isFull, e10, pp_400, pp_ltN, pp_0, pp_1]
  split <;> rfl
theorem pc_add {N S SD F n m x wd k : Nat} {σ : jj_S} {y : Int32} (hk : k < 400) (hx : x < 2) (e10 : σ 10 6 = nI k) : f_Packets_add N S SD F σ (nI n) (nI m) (nI x) (nI wd) y = some (nI k, qq_rqA σ n m x wd k y) := by
  simp (disch := omega) only [f_Packets_add, e10, pp_lt, pp_st, pp_ckE, pp_cl, qq_narx hx, jj_up_ne, pp_1, nI_add, qq_rqA]
theorem pc_addq {N S SD F n ct : Nat} {σ : jj_S} {y : Int32} (hn : n < N) (hN : N ≤ 9) (hct : ct < 4) (e22 : σ 22 n = nI ct) (e20 : σ 20 1 = nI 4) : f_Queues_addq N S SD F σ (nI n) y = some (jj_up (jj_up σ 21 (4 * n + ct) y) 22 n (nI (ct + 1))) := by
  have e4 : n * 4 = 4 * n := Nat.mul_comm _ _
  simp (disch := omega) only [f_Queues_addq, e22, e20, pp_st, pp_ckE, pp_cl, jj_up_ne, pp_1, nI_add, pk_mul, e4]
theorem pc_request {N S SD F n m x wd k ct : Nat} {σ : jj_S} {y : Int32} (hn : n < N) (hN : N ≤ 9) (hk : k ≤ 400) (hx : x < 2) (hct : ct ≤ 4) (N1 : f_Grid_hasNode N S SD F σ (nI n) = some (nI 1, σ)) (N2 : f_Grid_hasNode N S SD F σ (nI m) = some (nI 1, σ)) (W : f_Mesh_isWord N S SD F σ (nI wd) = some (nI 1, σ)) (e10 : σ 10 6 = nI k) (e22 : σ 22 n = nI ct) (e20 : σ 20 1 = nI 4) : f_Mesh_request N S SD F σ (nI n) (nI m) (nI x) (nI wd) y = if ct < 4 then (if k < 400 then some (nI k, qq_rqC σ n m x wd k ct y) else some (-2, σ)) else some (-2, σ) := by
  have FQ := pc_isFullq (S := S) (SD := SD) (F := F) hn hN hct e22 e20
  have FP := pc_isFull (N := N) (S := S) (SD := SD) (F := F) hk e10
  by_cases h4 : ct < 4
  · rw [if_pos h4] at FQ ⊢
    by_cases h400 : k < 400
    · rw [if_pos h400] at FP ⊢
      have AD := pc_add (N := N) (S := S) (SD := SD) (F := F) (n := n) (m := m) (wd := wd) (y := y) h400 hx e10
      have f22 : qq_rqA σ n m x wd k y 22 n = nI ct := by
        unfold qq_rqA; simp (disch := omega) only [jj_up_ne]; exact e22
      have f20 : qq_rqA σ n m x wd k y 20 1 = nI 4 := by
        unfold qq_rqA; simp (disch := omega) only [jj_up_ne]; exact e20
      have AQ := pc_addq (N := N) (S := S) (SD := SD) (F := F) (y := nI k) hn hN h4 f22 f20
      simp (disch := omega) only [f_Mesh_request, N1, N2, W, FQ, FP, AD, AQ, pp_b2, pp_b1, pp_0, pp_eq, Nat.one_ne_zero, if_false, if_true, qq_rqC]
    · rw [if_neg h400] at FP ⊢
      simp (disch := omega) only [f_Mesh_request, N1, N2, W, FQ, FP, pp_b2, pp_b1, pp_0, pp_eq, Nat.one_ne_zero, if_false, if_true]
  · rw [if_neg h4] at FQ ⊢
    simp (disch := omega) only [f_Mesh_request, N1, N2, W, FQ, pp_b2, pp_b1, pp_0, pp_eq, Nat.one_ne_zero, if_false, if_true]
theorem pr_request {F n m x wd k ct : Nat} {τ : jj_S} {y : Int32} (hn : n < 9) (hk : k ≤ 400) (hx : x < 2) (hwd : wd < 8) (hct : ct ≤ 4) (N1 : f_rRef_isNode F τ (nI n) = some (nI 1, τ)) (N2 : f_rRef_isNode F τ (nI m) = some (nI 1, τ)) (e05 : τ 0 5 = nI k) (e11 : τ 11 n = nI ct) : f_rRef_request F τ (nI n) (nI m) (nI x) (nI wd) y = if ct < 4 then (if k < 400 then some (nI k, qq_rqR τ n m x wd k ct y) else some (-2, τ)) else some (-2, τ) := by
  have h7 : wd ≤ 7 := by omega
  by_cases h4 : ct < 4
  · have n4 : ¬ ct = 4 := by omega
    rw [if_pos h4]
    by_cases h400 : k < 400
    · have n400 : ¬ k = 400 := by omega
      rw [if_pos h400]
      simp (disch := omega) only [f_rRef_request, N1, N2, pp_b2, pp_0, pp_7, pp_4, pp_400, pp_neg, pp_le, h7, pp_ckE, pp_cl, e11, e05, pp_eq, n4, n400, Nat.one_ne_zero, if_false, if_true, pp_st, qq_narx hx, jj_up_ne, jj_up_same, pk_us, pk_mul, nI_add, pp_2, pp_1, pp_subN, Nat.add_sub_cancel, qq_rqR]
    · have n400 : k = 400 := by omega
      rw [if_neg h400]
      simp (disch := omega) only [f_rRef_request, N1, N2, pp_b2, pp_0, pp_7, pp_4, pp_400, pp_neg, pp_le, h7, pp_ckE, pp_cl, e11, e05, pp_eq, n4, n400, Nat.one_ne_zero, if_false, if_true]
  · have n4 : ct = 4 := by omega
    rw [if_neg h4]
    simp (disch := omega) only [f_rRef_request, N1, N2, pp_b2, pp_0, pp_7, pp_4, pp_neg, pp_le, h7, pp_ckE, pp_cl, e11, pp_eq, n4, Nat.one_ne_zero, if_false, if_true]
theorem qq_request {w h d v made cpl F x : Nat} {σ τ : jj_S} (hD : qq_D w h d v) (hR : qq_Rel w h d v made cpl σ τ) (hx : x < 2) (a b c y : Int32) : qq_call w h d v (f_Mesh_request (w * h) (w * h * 6 * (2 * v)) (w * h * 6 * (2 * v) * d) F σ a b (nI x) c y) (f_rRef_request F τ a b (nI x) c y) := by
  have h9 := qq_n9 hD
  rcases qq_node (F := F) (N := w * h) (S := w * h * 6 * (2 * v)) (SD := w * h * 6 * (2 * v) * d) hD hR a with ⟨n, hn, rfl, N1, M1⟩ | ⟨N1, M1⟩
  · rcases qq_node (F := F) (N := w * h) (S := w * h * 6 * (2 * v)) (SD := w * h * 6 * (2 * v) * d) hD hR b with ⟨m, hm, rfl, N2, M2⟩ | ⟨N2, M2⟩
    · rcases qq_word (F := F) (N := w * h) (S := w * h * 6 * (2 * v)) (SD := w * h * 6 * (2 * v) * d) (σ := σ) c with ⟨wd, hwd, rfl, W⟩ | ⟨W, W2⟩
      · obtain ⟨ct, g, c1, c2, c3, -⟩ := hR.2.2.2.2.1.1 n hn
        have hk := hR.2.2.1.1.1
        have A := pc_request (y := y) hn h9 hk hx c1 N1 N2 W hR.2.1.1 c2 hR.1.2.1.2.2.1
        have B := pr_request (y := y) (show n < 9 by omega) hk hx hwd c1 M1 M2 hR.2.1.2.1 c3
        rw [A, B]
        by_cases h4 : ct < 4
        · rw [if_pos h4, if_pos h4]
          by_cases h400 : made < 400
          · rw [if_pos h400, if_pos h400]
            exact ⟨_, _, _, made + 1, cpl, rfl, rfl, qq_made hD hR h400 hn hm hx hwd h4 c3⟩
          · rw [if_neg h400, if_neg h400]
            exact ⟨_, σ, τ, made, cpl, rfl, rfl, hR⟩
        · rw [if_neg h4, if_neg h4]
          exact ⟨_, σ, τ, made, cpl, rfl, rfl, hR⟩
      · refine ⟨qq_m, σ, τ, made, cpl, ?_, ?_, hR⟩
        · simp (disch := omega) only [f_Mesh_request, N1, N2, W, pp_b2, pp_0, pp_1, pp_n1, pp_eq, Nat.one_ne_zero, if_false, if_true]
        · rcases W2 with W2 | ⟨W2, q, m1, m2, rfl⟩
          · rw [pp_0] at W2
            simp (disch := omega) only [f_rRef_request, M1, M2, pp_b2, pp_0, pp_1, pp_n1, pp_eq, Nat.one_ne_zero, if_false, W2, if_true]
          · have h7 : ¬ q ≤ 7 := by omega
            simp (disch := omega) only [f_rRef_request, M1, M2, pp_b2, pp_0, pp_1, pp_n1, pp_eq, Nat.one_ne_zero, if_false, pp_neg, Nat.not_lt_zero, pp_7, pp_le, h7, if_true]
    · refine ⟨qq_m, σ, τ, made, cpl, ?_, ?_, hR⟩
      · simp (disch := omega) only [f_Mesh_request, N1, N2, pp_b2, pp_0, pp_1, pp_n1, pp_eq, Nat.one_ne_zero, if_false, if_true]
      · simp (disch := omega) only [f_rRef_request, M1, M2, pp_b2, pp_0, pp_1, pp_n1, pp_eq, Nat.one_ne_zero, if_false, if_true]
  · refine ⟨qq_m, σ, τ, made, cpl, ?_, ?_, hR⟩
    · simp (disch := omega) only [f_Mesh_request, N1, pp_b2, pp_0, pp_1, pp_n1, if_true]
    · simp (disch := omega) only [f_rRef_request, M1, pp_b2, pp_0, pp_1, pp_n1, if_true]
