/-! SERVING a request, and the part TAKING -/
def qq_svC (σ : jj_S) (n k a x rc : Nat) : jj_S := jj_up (jj_up (jj_up (if x = 0 then σ else jj_up σ 28 a (σ 15 k)) 15 k (σ 28 a)) 25 (2 * n + rc) (nI k)) 26 n (nI (rc + 1))
def qq_svR (τ : jj_S) (n k a x rc : Nat) : jj_S := jj_up (jj_up (jj_up (jj_up τ 6 k (τ 9 a)) 9 a (if x = 0 then τ 9 a else τ 5 k)) 15 (2 * n + rc) (nI (2 * k + 1))) 14 n (nI (rc + 1))
theorem qq_svC_ne (σ : jj_S) (n k a x rc : Nat) : (∀ q, q ≠ 28 → q ≠ 15 → q ≠ 25 → q ≠ 26 → qq_svC σ n k a x rc q = σ q) ∧ qq_svC σ n k a x rc 28 = (if x = 0 then σ 28 else upd (σ 28) a (σ 15 k)) ∧ qq_svC σ n k a x rc 15 = upd (σ 15) k (σ 28 a) ∧ qq_svC σ n k a x rc 25 = upd (σ 25) (2 * n + rc) (nI k) ∧ qq_svC σ n k a x rc 26 = upd (σ 26) n (nI (rc + 1)) := by
  unfold qq_svC
  by_cases hx : x = 0
  · rw [if_pos hx, if_pos hx]
    refine ⟨fun q q1 q2 q3 q4 => by rw [jj_up_ne q4, jj_up_ne q3, jj_up_ne q2], ?_, ?_, ?_, ?_⟩ <;> simp (disch := omega) only [jj_up_ne, jj_up_same]
  · rw [if_neg hx, if_neg hx]
    refine ⟨fun q q1 q2 q3 q4 => by rw [jj_up_ne q4, jj_up_ne q3, jj_up_ne q2, jj_up_ne q1], ?_, ?_, ?_, ?_⟩ <;> simp (disch := omega) only [jj_up_ne, jj_up_same]
theorem qq_svR_ne (τ : jj_S) (n k a x rc : Nat) : (∀ q, q ≠ 6 → q ≠ 9 → q ≠ 14 → q ≠ 15 → qq_svR τ n k a x rc q = τ q) ∧ qq_svR τ n k a x rc 6 = upd (τ 6) k (τ 9 a) ∧ qq_svR τ n k a x rc 9 = upd (τ 9) a (if x = 0 then τ 9 a else τ 5 k) ∧ qq_svR τ n k a x rc 15 = upd (τ 15) (2 * n + rc) (nI (2 * k + 1)) ∧ qq_svR τ n k a x rc 14 = upd (τ 14) n (nI (rc + 1)) := by
  unfold qq_svR
  refine ⟨fun q q1 q2 q3 q4 => by rw [jj_up_ne q3, jj_up_ne q4, jj_up_ne q2, jj_up_ne q1], ?_, ?_, ?_, ?_⟩ <;> simp (disch := omega) only [jj_up_ne, jj_up_same]
set_option maxHeartbeats 1000000 in
theorem qq_serve {w h d v made cpl n k wd x rc : Nat} {σ τ : jj_S} (hD : qq_D w h d v) (hR : qq_Rel w h d v made cpl σ τ) (hn : n < w * h) (hk : k < made) (hrc : rc < 2) (e14 : τ 14 n = nI rc) (hx : τ 3 k = nI x) (hx2 : x < 2) (hwd : wd < 8) (hv : σ 15 k = τ 5 k) (hfr : ∀ t a i p', ¬ qq_KT cpl τ t a i k p') : qq_Rel w h d v made cpl (qq_svC σ n k (8 * n + wd) x rc) (qq_svR τ n k (8 * n + wd) x rc) := by
  obtain ⟨hZ, hM, hP, hW, hQ, hL, hRt, hE, hU, hV⟩ := hR
  have h9 := qq_n9 hD
  have hm := hP.1.1
  obtain ⟨sf, s28, s15, s25, s26⟩ := qq_svC_ne σ n k (8 * n + wd) x rc
  obtain ⟨tf, t6, t9, t15, t14⟩ := qq_svR_ne τ n k (8 * n + wd) x rc
  have ha : 8 * n + wd < w * h * 8 := by omega
  have hKs : ∀ {t a i k1 p : Nat}, qq_KT cpl (qq_svR τ n k (8 * n + wd) x rc) t a i k1 p → ((t = 1 ∧ a = n ∧ i = rc) ∧ k1 = k ∧ p = 1) ∨ qq_KT cpl τ t a i k1 p := by
    intro t a i k1 p hK
    obtain ⟨hk1, hK⟩ := hK
    simp (disch := omega) only [tf, t14, t15] at hK
    rcases hK with hK | ⟨rfl, hp, ha, ⟨ct, c1, c2, c3⟩, e⟩ | hK | hK | hK
    · exact Or.inr ⟨hk1, Or.inl hK⟩
    · by_cases han : a = n
      · subst han
        rw [pk_us, pp_eq (by omega) (by omega)] at c1
        by_cases hir : i = rc
        · subst hir
          rw [pk_us, pp_eq (by omega) (by omega)] at e
          exact Or.inl ⟨⟨rfl, rfl, rfl⟩, by omega, hp⟩
        · rw [pk_un (by omega)] at e
          exact Or.inr ⟨hk1, Or.inr (Or.inl ⟨rfl, hp, (show a < 9 by omega), ⟨rc, e14, by omega, by omega⟩, e⟩)⟩
      · rw [pk_un han] at c1
        rw [pk_un (by omega)] at e
        exact Or.inr ⟨hk1, Or.inr (Or.inl ⟨rfl, hp, ha, ⟨ct, c1, c2, c3⟩, e⟩)⟩
    · exact Or.inr ⟨hk1, Or.inr (Or.inr (Or.inl hK))⟩
    · exact Or.inr ⟨hk1, Or.inr (Or.inr (Or.inr (Or.inl hK)))⟩
    · exact Or.inr ⟨hk1, Or.inr (Or.inr (Or.inr (Or.inr hK)))⟩
  refine ⟨?_, ?_, ?_, ?_, ?_, ?_, ?_, ?_, ?_, ?_⟩
  · unfold qq_Z at hZ ⊢
    simp (disch := omega) only [sf, tf]; exact hZ
  · unfold qq_M at hM ⊢
    simp (disch := omega) only [sf, tf]; exact hM
  · unfold qq_PT at hP ⊢
    simp (disch := omega) only [sf, tf]; exact hP
  · unfold qq_WT at hW ⊢
    simp (disch := omega) only [sf, tf, s28, t9]
    refine ⟨fun b hb => ?_, hW.2⟩
    by_cases hba : b = 8 * n + wd
    · subst hba
      rw [pk_us]
      by_cases hx0 : x = 0
      · rw [if_pos hx0, if_pos hx0]; exact hW.1 _ hb
      · rw [if_neg hx0, if_neg hx0, pk_us]; exact hv
    · rw [pk_un hba]
      by_cases hx0 : x = 0
      · rw [if_pos hx0]; exact hW.1 _ hb
      · rw [if_neg hx0, pk_un hba]; exact hW.1 _ hb
  · unfold qq_QT at hQ ⊢
    simp (disch := omega) only [sf, tf, s25, s26, t14, t15]
    refine ⟨hQ.1, fun n' hn' => ?_⟩
    obtain ⟨ct, g, c1, c2, c3, c4, c5, c6, c7⟩ := hQ.2 n' hn'
    by_cases hnn : n' = n
    · subst hnn
      have ec : ct = rc := by rw [e14, pp_eq (by omega) (by omega)] at c3; exact c3.symm
      subst ec
      refine ⟨ct + 1, g, by omega, pk_us, pk_us, c4, c5, fun h0 => absurd h0 (by omega), fun i hi => ?_⟩
      by_cases hic : i = ct
      · subst hic
        rw [pk_us, pk_us]
        refine ⟨k, hk, rfl, rfl, fun h0 => ?_⟩
        have := qq_len_in (τ 3 k) 1
        rw [c6 h0]; omega
      · rw [pk_un (by omega), pk_un (by omega)]
        exact c7 i (by omega)
    · refine ⟨ct, g, c1, by rw [pk_un hnn]; exact c2, by rw [pk_un hnn]; exact c3, c4, c5, c6, fun i hi => ?_⟩
      rw [pk_un (by omega), pk_un (by omega)]
      exact c7 i hi
  · unfold qq_LT at hL ⊢
    simp (disch := omega) only [sf, tf]; exact hL
  · unfold qq_RT at hRt ⊢
    simp (disch := omega) only [sf, tf]; exact hRt
  · simp (disch := omega) only [tf]; exact hE
  · intro t a i t' a' i' k1 p p' h1 h2
    rcases hKs h1 with ⟨⟨e1, e2, e3⟩, e4, -⟩ | g1 <;> rcases hKs h2 with ⟨⟨x1, x2, x3⟩, x4, -⟩ | g2
    · exact ⟨e1.trans x1.symm, e2.trans x2.symm, e3.trans x3.symm⟩
    · rw [e4] at g2; exact absurd g2 (hfr _ _ _ _)
    · rw [x4] at g1; exact absurd g1 (hfr _ _ _ _)
    · exact hU _ _ _ _ _ _ _ _ _ g1 g2
  · intro t a i k1 p h1
    simp (disch := omega) only [s15, t6, tf]
    rcases hKs h1 with ⟨-, rfl, rfl⟩ | g1
    · rw [pk_us, if_neg (by decide), pk_us]
      exact ⟨hk, hW.1 _ ha⟩
    · have hne : k1 ≠ k := fun e => by rw [e] at g1; exact hfr _ _ _ _ g1
      rw [pk_un hne, pk_un hne]
      exact hV _ _ _ _ _ g1
/-- the class's own steps -/
theorem pc_mayTake {N S SD F : Nat} {σ : jj_S} {n k p t rc : Nat} (hn : n < N) (hN : N ≤ 9) (hk : k ≤ 400) (hp : p < 2) (ht : t < 2) (hrc : rc ≤ 2) (e26 : σ 26 n = nI rc) (e24 : σ 24 1 = nI 2) : f_Ifs_mayTake N S SD F σ (nI n) (nI (4 * k + 2 * p + t)) = some (if p = 0 ∧ t = 1 ∧ ¬ (σ 29 n = nI 0 ∧ rc < 2) then nI 0 else nI 1, σ) := by
  have q : f_Queues_isFullp N S SD F σ (nI n) = some (if rc < 2 then nI 0 else nI 1, σ) := by
    simp (disch := omega) only [f_Queues_isFullp, pp_ckE, pp_cl, e26, e24, pp_ltN, pp_0, pp_1]
    split <;> rfl
  rcases (show p = 0 ∨ p = 1 by omega) with rfl | rfl <;> rcases (show t = 0 ∨ t = 1 by omega) with rfl | rfl
  · simp (disch := omega) only [f_Ifs_mayTake, pc_isOfReply hk hp ht, pc_isLast hk hp ht, pp_b2, pp_0, pp_1, pp_eq, if_true, if_false, Nat.one_ne_zero, eq_self_iff_true]
    rw [if_neg (by omega)]
  · simp (disch := omega) only [f_Ifs_mayTake, pc_isOfReply hk hp ht, pc_isLast hk hp ht, pp_b2, pp_0, pp_1, pp_eq, pp_ckE, pp_cl, q, if_true, if_false, Nat.one_ne_zero, eq_self_iff_true]
    by_cases h29 : σ 29 n = nI 0
    · rw [if_pos h29]
      by_cases h2 : rc < 2
      · rw [if_pos h2, if_neg (fun q => q.2.2 ⟨h29, h2⟩)]; rfl
      · rw [if_neg h2, if_pos ⟨trivial, trivial, fun q => h2 q.2⟩]; rfl
    · rw [if_neg h29, if_pos ⟨trivial, trivial, fun q => h29 q.1⟩]
  · simp (disch := omega) only [f_Ifs_mayTake, pc_isOfReply hk hp ht, pp_b2, pp_0, pp_1, pp_eq, if_true, if_false, Nat.one_ne_zero, eq_self_iff_true]
    rw [if_neg (fun q => absurd q.1 (by decide))]
  · simp (disch := omega) only [f_Ifs_mayTake, pc_isOfReply hk hp ht, pp_b2, pp_0, pp_1, pp_eq, if_true, if_false, Nat.one_ne_zero, eq_self_iff_true]
    rw [if_neg (fun q => absurd q.1 (by decide))]
theorem pc_accept0 {N S SD F : Nat} {σ : jj_S} {n k p : Nat} {x : Int32} (hk : k ≤ 400) (hp : p < 2) : f_Ifs_accept N S SD F σ (nI n) (nI (4 * k + 2 * p + 0)) x = some σ := by
  simp (disch := omega) only [f_Ifs_accept, pc_isLast hk hp (show 0 < 2 by decide), pp_b2, pp_0, if_true]
theorem pc_accept1 {N S SD F : Nat} {σ : jj_S} {n k cpl : Nat} {x : Int32} (hk : k ≤ 400) (hc : cpl < 400) (e : σ 17 2 = nI cpl) : f_Ifs_accept N S SD F σ (nI n) (nI (4 * k + 2 * 1 + 1)) x = some (jj_up (jj_up (jj_up σ 18 cpl (nI k)) 19 cpl x) 17 2 (nI (cpl + 1))) := by
  simp (disch := omega) only [f_Ifs_accept, pc_isLast hk (show 1 < 2 by decide) (show 1 < 2 by decide), pc_isOfReply hk (show 1 < 2 by decide) (show 1 < 2 by decide), pc_number hk (show 1 < 2 by decide) (show 1 < 2 by decide), f_Complete_add, pp_b2, pp_b1, pp_lt, pp_st, pp_ckE, pp_cl, e, jj_up_ne, pp_0, pp_1, pp_eq, nI_add, if_true, if_false, Nat.one_ne_zero, eq_self_iff_true]
theorem pc_accept2 {N S SD F : Nat} {σ : jj_S} {n k wd x rc : Nat} {y : Int32} (hn : n < N) (hN : N ≤ 9) (hk : k < 400) (hwd : wd < 8) (hx : x < 2) (hrc : rc < 2) (e14 : σ 14 k = nI wd) (e13 : σ 13 k = nI x) (e26 : σ 26 n = nI rc) (e24 : σ 24 1 = nI 2) : f_Ifs_accept N S SD F σ (nI n) (nI (4 * k + 2 * 0 + 1)) y = some (qq_svC σ n k (8 * n + wd) x rc) := by
  have e8 : n * 8 = 8 * n := Nat.mul_comm _ _
  have e2 : n * 2 = 2 * n := Nat.mul_comm _ _
  have hk' : k ≤ 400 := by omega
  unfold qq_svC
  rcases (show x = 0 ∨ x = 1 by omega) with rfl | rfl <;>
    simp (disch := omega) only [f_Ifs_accept, pc_isLast hk' (show 0 < 2 by decide) (show 1 < 2 by decide), pc_isOfReply hk' (show 0 < 2 by decide) (show 1 < 2 by decide), pc_number hk' (show 0 < 2 by decide) (show 1 < 2 by decide), f_Ifs_serve, f_Queues_addp, pp_b2, pp_b1, pp_lt, pp_st, pp_ckE, pp_cl, e14, e13, e26, e24, e8, e2, pk_mul, jj_up_ne, pp_0, pp_1, pp_8, pp_eq, nI_add, if_true, if_false, Nat.one_ne_zero, eq_self_iff_true]
