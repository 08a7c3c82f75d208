/-! GRANTING: one output, in both codes -/
theorem qq_nar1 : vp_nar .boolean (nI 1) = nI 1 := by rfl
theorem qq_nar0 : vp_nar .boolean (nI 0) = nI 0 := by rfl
theorem qq_l4 {n p c : Nat} (hp : p < 5) : qq_l n p c = 4 * (5 * n + p) + c := by unfold qq_l; rw [if_pos hp]
/-- the class's cells behind a grant -/
def qq_cw (σ : jj_S) (s x t' : Nat) : jj_S := jj_up (jj_up (jj_up σ 34 s (nI 1)) 32 x (nI 2)) 35 s (nI t')
def qq_rw (τ : jj_S) (s x t' : Nat) : jj_S := jj_up (jj_up (jj_up τ 24 s (nI 1)) 22 x (nI 2)) 25 s (nI t')
theorem pc_grPos {N S SD F n o c s t j C : Nat} {σ : jj_S} {K rec : jj_S → Int32 → Int32 → Int32 → Int32 → Int32 → Int32 → Option jj_S} (hj : j < 5) (ht : t < 5) (hs : s < S) (hS : S ≤ 1000) (hp : qq_s C n ((t + j) % 5) c < S) (e4 : σ 1 4 = nI C) (h32 : σ 32 (qq_s C n ((t + j) % 5) c) = nI 1) (h33 : σ 33 (qq_s C n ((t + j) % 5) c) = nI o) :
    b_Routers_grantIfFree_35 N S SD F K rec σ (nI n) (nI o) (nI c) (nI s) (nI t) (nI j) = some (qq_cw σ s (qq_s C n ((t + j) % 5) c) (((t + j) % 5 + 1) % 5)) := by
  have SL := fun a b c => pc_slot (n := N) (S := S) (SD := SD) (F := F) (σ := σ) (C := C) (a := a) (b := b) (c := c) e4
  have hnj : ¬ (5 ≤ j) := by omega
  simp (disch := omega) only [b_Routers_grantIfFree_35, pp_5, pp_le, hnj, if_false, pp_nzE, nI_add, pp_rem, pp_lt, SL, pp_b2, pp_ckE, pp_cl, h32, h33, pp_1, pp_2, if_true, pp_st, qq_nar1, qq_cw]
theorem pc_grNeg {N S SD F n o c s t j C : Nat} {σ : jj_S} {K rec : jj_S → Int32 → Int32 → Int32 → Int32 → Int32 → Int32 → Option jj_S} (hj : j < 5) (ht : t < 5) (hS : S ≤ 1000) (hp : qq_s C n ((t + j) % 5) c < S) (e4 : σ 1 4 = nI C) (h : ¬ (σ 32 (qq_s C n ((t + j) % 5) c) = nI 1 ∧ σ 33 (qq_s C n ((t + j) % 5) c) = nI o)) :
    b_Routers_grantIfFree_35 N S SD F K rec σ (nI n) (nI o) (nI c) (nI s) (nI t) (nI j) = rec σ (nI n) (nI o) (nI c) (nI s) (nI t) (nI (j + 1)) := by
  have SL := fun a b c => pc_slot (n := N) (S := S) (SD := SD) (F := F) (σ := σ) (C := C) (a := a) (b := b) (c := c) e4
  have hnj : ¬ (5 ≤ j) := by omega
  by_cases h32 : σ 32 (qq_s C n ((t + j) % 5) c) = nI 1
  · have h33 : ¬ σ 33 (qq_s C n ((t + j) % 5) c) = nI o := fun q => h ⟨h32, q⟩
    simp (disch := omega) only [b_Routers_grantIfFree_35, pp_5, pp_le, hnj, if_false, pp_nzE, nI_add, pp_rem, pp_lt, SL, pp_b2, pp_ckE, pp_cl, h32, h33, pp_1, if_true]
  · simp (disch := omega) only [b_Routers_grantIfFree_35, pp_5, pp_le, hnj, if_false, pp_nzE, nI_add, pp_rem, pp_lt, SL, pp_b2, pp_ckE, pp_cl, h32, pp_1]
theorem pc_grLoop {N S SD F n o c s t i C : Nat} {σ : jj_S} {K : jj_S → Int32 → Int32 → Int32 → Int32 → Int32 → Int32 → Option jj_S} {A : Nat → Prop} (ht : t < 5) (hs : s < S) (hS : S ≤ 1000) (hp : ∀ p, p < 5 → qq_s C n p c < S) (e4 : σ 1 4 = nI C) (hA : ∀ p, p < 5 → (σ 32 (qq_s C n p c) = nI 1 ∧ σ 33 (qq_s C n p c) = nI o ↔ A p)) (hi : i < 5) (h1 : A ((t + i) % 5)) (h2 : ∀ j, j < i → ¬ A ((t + j) % 5)) :
    ∀ k j, j ≤ i → i < j + k → jj_lp6 (b_Routers_grantIfFree_35 N S SD F K) k σ (nI n) (nI o) (nI c) (nI s) (nI t) (nI j) = some (qq_cw σ s (qq_s C n ((t + i) % 5) c) (((t + i) % 5 + 1) % 5)) := by
  intro k
  induction k with
  | zero => intro j a1 a2; omega
  | succ k ih =>
    intro j a1 a2
    show b_Routers_grantIfFree_35 N S SD F K (jj_lp6 (b_Routers_grantIfFree_35 N S SD F K) k) σ (nI n) (nI o) (nI c) (nI s) (nI t) (nI j) = _
    have hm : (t + j) % 5 < 5 := Nat.mod_lt _ (by decide)
    rcases Nat.lt_or_ge j i with q | q
    · rw [pc_grNeg (by omega) ht hS (hp _ hm) e4 (fun q' => h2 j q ((hA _ hm).mp q'))]
      exact ih (j + 1) q (by omega)
    · obtain rfl : j = i := by omega
      obtain ⟨x1, x2⟩ := (hA _ hm).mpr h1
      exact pc_grPos (by omega) ht hs hS (hp _ hm) e4 x1 x2
theorem pc_grNone {N S SD F n o c s t C : Nat} {σ : jj_S} {A : Nat → Prop} (ht : t < 5) (hS : S ≤ 1000) (hp : ∀ p, p < 5 → qq_s C n p c < S) (e4 : σ 1 4 = nI C) (hA : ∀ p, p < 5 → (σ 32 (qq_s C n p c) = nI 1 ∧ σ 33 (qq_s C n p c) = nI o ↔ A p)) (h2 : ∀ j, j < 5 → ¬ A ((t + j) % 5)) :
    ∀ k j, j ≤ 5 → 5 < j + k → jj_lp6 (b_Routers_grantIfFree_35 N S SD F (fun σ10 x1_11 x2_12 x3_13 x4_14 x5_15 x6_16 => some σ10)) k σ (nI n) (nI o) (nI c) (nI s) (nI t) (nI j) = some σ := by
  intro k
  induction k with
  | zero => intro j a1 a2; omega
  | succ k ih =>
    intro j a1 a2
    show b_Routers_grantIfFree_35 N S SD F (fun σ10 x1_11 x2_12 x3_13 x4_14 x5_15 x6_16 => some σ10) (jj_lp6 (b_Routers_grantIfFree_35 N S SD F (fun σ10 x1_11 x2_12 x3_13 x4_14 x5_15 x6_16 => some σ10)) k) σ (nI n) (nI o) (nI c) (nI s) (nI t) (nI j) = _
    have hm : (t + j) % 5 < 5 := Nat.mod_lt _ (by decide)
    rcases Nat.lt_or_ge j 5 with q | q
    · rw [pc_grNeg (by omega) ht hS (hp _ hm) e4 (fun q' => h2 j q ((hA _ hm).mp q'))]
      exact ih (j + 1) q (by omega)
    · obtain rfl : j = 5 := by omega
      simp (disch := omega) only [b_Routers_grantIfFree_35, pp_5, pp_le, Nat.le_refl, if_true]
/-- the reference -/
theorem pr_grPos {F n o c s t j : Nat} {τ : jj_S} {K rec : jj_S → Int32 → Int32 → Int32 → Int32 → Int32 → Option jj_S} (hj : j < 5) (ht : t < 5) (hn : n < 9) (hc : c < 4) (hs : s < 180) (h25 : τ 25 s = nI t) (h22 : τ 22 (4 * (5 * n + (t + j) % 5) + c) = nI 1) (h23 : τ 23 (4 * (5 * n + (t + j) % 5) + c) = nI o) :
    b_rRef_grant_25 F K rec τ (nI n) (nI o) (nI c) (nI s) (nI j) = some (qq_rw τ s (4 * (5 * n + (t + j) % 5) + c) (((t + j) % 5 + 1) % 5)) := by
  have hnj : ¬ (5 ≤ j) := by omega
  simp (disch := omega) only [b_rRef_grant_25, pp_5, pp_4, pp_le, hnj, if_false, pp_nzE, pp_ckE, pp_cl, h25, nI_add, pk_mul, pp_rem, pp_lt, h22, h23, pp_1, pp_2, if_true, pp_st, qq_nar1, qq_rw]
theorem pr_grNeg {F n o c s t j : Nat} {τ : jj_S} {K rec : jj_S → Int32 → Int32 → Int32 → Int32 → Int32 → Option jj_S} (hj : j < 5) (ht : t < 5) (hn : n < 9) (hc : c < 4) (hs : s < 180) (h25 : τ 25 s = nI t) (h : ¬ (τ 22 (4 * (5 * n + (t + j) % 5) + c) = nI 1 ∧ τ 23 (4 * (5 * n + (t + j) % 5) + c) = nI o)) :
    b_rRef_grant_25 F K rec τ (nI n) (nI o) (nI c) (nI s) (nI j) = rec τ (nI n) (nI o) (nI c) (nI s) (nI (j + 1)) := by
  have hnj : ¬ (5 ≤ j) := by omega
  by_cases h22 : τ 22 (4 * (5 * n + (t + j) % 5) + c) = nI 1
  · have h23 : ¬ τ 23 (4 * (5 * n + (t + j) % 5) + c) = nI o := fun q => h ⟨h22, q⟩
    simp (disch := omega) only [b_rRef_grant_25, pp_5, pp_4, pp_le, hnj, if_false, pp_nzE, pp_ckE, pp_cl, h25, nI_add, pk_mul, pp_rem, pp_lt, h22, h23, pp_1, if_true]
  · simp (disch := omega) only [b_rRef_grant_25, pp_5, pp_4, pp_le, hnj, if_false, pp_nzE, pp_ckE, pp_cl, h25, nI_add, pk_mul, pp_rem, pp_lt, h22, pp_1]
theorem pr_grLoop {F n o c s t i : Nat} {τ : jj_S} {K : jj_S → Int32 → Int32 → Int32 → Int32 → Int32 → Option jj_S} {A : Nat → Prop} (ht : t < 5) (hn : n < 9) (hc : c < 4) (hs : s < 180) (h25 : τ 25 s = nI t) (hA : ∀ p, p < 5 → (τ 22 (4 * (5 * n + p) + c) = nI 1 ∧ τ 23 (4 * (5 * n + p) + c) = nI o ↔ A p)) (hi : i < 5) (h1 : A ((t + i) % 5)) (h2 : ∀ j, j < i → ¬ A ((t + j) % 5)) :
    ∀ k j, j ≤ i → i < j + k → jj_lp5 (b_rRef_grant_25 F K) k τ (nI n) (nI o) (nI c) (nI s) (nI j) = some (qq_rw τ s (4 * (5 * n + (t + i) % 5) + c) (((t + i) % 5 + 1) % 5)) := by
  intro k
  induction k with
  | zero => intro j a1 a2; omega
  | succ k ih =>
    intro j a1 a2
    show b_rRef_grant_25 F K (jj_lp5 (b_rRef_grant_25 F K) k) τ (nI n) (nI o) (nI c) (nI s) (nI j) = _
    have hm : (t + j) % 5 < 5 := Nat.mod_lt _ (by decide)
    rcases Nat.lt_or_ge j i with q | q
    · rw [pr_grNeg (by omega) ht hn hc hs h25 (fun q' => h2 j q ((hA _ hm).mp q'))]
      exact ih (j + 1) q (by omega)
    · obtain rfl : j = i := by omega
      obtain ⟨x1, x2⟩ := (hA _ hm).mpr h1
      exact pr_grPos (by omega) ht hn hc hs h25 x1 x2
theorem pr_grNone {F n o c s t : Nat} {τ : jj_S} {A : Nat → Prop} (ht : t < 5) (hn : n < 9) (hc : c < 4) (hs : s < 180) (h25 : τ 25 s = nI t) (hA : ∀ p, p < 5 → (τ 22 (4 * (5 * n + p) + c) = nI 1 ∧ τ 23 (4 * (5 * n + p) + c) = nI o ↔ A p)) (h2 : ∀ j, j < 5 → ¬ A ((t + j) % 5)) :
    ∀ k j, j ≤ 5 → 5 < j + k → jj_lp5 (b_rRef_grant_25 F (fun σ7 x1_8 x2_9 x3_10 x4_11 x5_12 => some σ7)) k τ (nI n) (nI o) (nI c) (nI s) (nI j) = some τ := by
  intro k
  induction k with
  | zero => intro j a1 a2; omega
  | succ k ih =>
    intro j a1 a2
    show b_rRef_grant_25 F (fun σ7 x1_8 x2_9 x3_10 x4_11 x5_12 => some σ7) (jj_lp5 (b_rRef_grant_25 F (fun σ7 x1_8 x2_9 x3_10 x4_11 x5_12 => some σ7)) k) τ (nI n) (nI o) (nI c) (nI s) (nI j) = _
    have hm : (t + j) % 5 < 5 := Nat.mod_lt _ (by decide)
    rcases Nat.lt_or_ge j 5 with q | q
    · rw [pr_grNeg (by omega) ht hn hc hs h25 (fun q' => h2 j q ((hA _ hm).mp q'))]
      exact ih (j + 1) q (by omega)
    · obtain rfl : j = 5 := by omega
      simp (disch := omega) only [b_rRef_grant_25, pp_5, pp_le, Nat.le_refl, if_true]
theorem qq_gI_cong {w h v : Nat} {τ : jj_S} {Pr Pr' : Nat → Nat → Nat → Prop} {fs fk ft : Nat → Nat → Nat → Int32} (hI : qq_gI w h v τ Pr fs fk ft) (he : ∀ n o c, n < w * h → o < 5 → c < 2 * v → (∃ i, qq_gG τ n o c i) → (Pr n o c ↔ Pr' n o c)) : qq_gI w h v τ Pr' fs fk ft := by
  obtain ⟨h1, h2, h3⟩ := hI
  refine ⟨fun n o c i a1 a2 a3 hP hG => h1 n o c i a1 a2 a3 ((he n o c a1 a2 a3 ⟨i, hG⟩).mpr hP) hG, fun n o c a1 a2 a3 hN => h2 n o c a1 a2 a3 (fun i q => hN i ⟨(he n o c a1 a2 a3 ⟨i, q.2⟩).mp q.1, q.2⟩), fun n p c a1 a2 a3 hN => h3 n p c a1 a2 a3 (fun o i b q => hN o i b ⟨(he n o c a1 b a3 ⟨i, q.2.1⟩).mp q.1, q.2.1, q.2.2⟩)⟩
/-- the class's stage, taken and turn as they lie in its state; the reference's in its -/
def qq_c3 (C k : Nat) (σ : jj_S) : Nat → Nat → Nat → Int32 := fun n p c => σ k (qq_s C n p c)
def qq_r3 (k : Nat) (τ : jj_S) : Nat → Nat → Nat → Int32 := fun n p c => τ k (qq_l n p c)
set_option maxHeartbeats 1000000 in
theorem pc_gone {w h d v made cpl F n o c : Nat} {σ τ σi : jj_S} {Pr : Nat → Nat → Nat → Prop} (hF : 300 ≤ F) (hD : qq_D w h d v) (hR : qq_Rel w h d v made cpl σ τ) (hfr : ∀ k, k ≠ 32 → k ≠ 34 → k ≠ 35 → σi k = σ k) (hI : qq_gI w h v τ Pr (qq_c3 (2 * v) 32 σi) (qq_c3 (2 * v) 34 σi) (qq_c3 (2 * v) 35 σi)) (hn : n < w * h) (ho : o < 5) (hc : c < 2 * v) :
    ∃ σ', f_Routers_grantIfFree (w * h) (w * h * 6 * (2 * v)) (w * h * 6 * (2 * v) * d) F σi (nI n) (nI o) (nI c) = some σ' ∧ (∀ k, k ≠ 32 → k ≠ 34 → k ≠ 35 → σ' k = σ k) ∧ qq_gI w h v τ (fun n' o' c' => Pr n' o' c' ∨ (n' = n ∧ o' = o ∧ c' = c)) (qq_c3 (2 * v) 32 σ') (qq_c3 (2 * v) 34 σ') (qq_c3 (2 * v) 35 σ') := by
  have h9 := qq_n9 hD
  have hS := qq_S216 hD
  have e4 : σi 1 4 = nI (2 * v) := by rw [hfr 1 (by decide) (by decide) (by decide)]; exact hR.1.1.2.2.2.2.1
  have hsl : qq_s (2 * v) n o c < w * h * 6 * (2 * v) := qq_s_lt hn (by omega) hc
  have hpl : ∀ p, p < 5 → qq_s (2 * v) n p c < w * h * 6 * (2 * v) := fun p hp => qq_s_lt hn (by omega) hc
  have SL := pc_slot (n := w * h) (S := w * h * 6 * (2 * v)) (SD := w * h * 6 * (2 * v) * d) (F := F) (σ := σi) (C := 2 * v) (a := n) (b := o) (c := c) e4
  have LK := qq_gI_look hD hR hI hn ho hc
  have wy : ∀ p, p < 5 → σi 33 (qq_s (2 * v) n p c) = τ 23 (qq_l n p c) := fun p hp => by
    obtain ⟨st', wy', tk', tn', s1, s2, s3, s4, s5, s6, s7, s8, -⟩ := hR.2.2.2.2.2.2.1.1 n p c hn hp hc
    rw [hfr 33 (by decide) (by decide) (by decide), s7, s8]
  rcases LK with ⟨hk, hx⟩ | ⟨hk, ht, ht2, hA, hG⟩
  · refine ⟨σi, ?_, hfr, qq_gI_noop hI hx⟩
    have hk : ¬ σi 34 (qq_s (2 * v) n o c) = nI 0 := hk
    clear hI hR hx
    simp (disch := omega) only [f_Routers_grantIfFree, SL, pp_b2, pp_ckE, pp_cl, pp_0, hk, if_false]
  · have hk : σi 34 (qq_s (2 * v) n o c) = nI 0 := hk
    have ht2 : σi 35 (qq_s (2 * v) n o c) = nI (qq_gt τ n o c) := ht2
    have hA' : ∀ p, p < 5 → (σi 32 (qq_s (2 * v) n p c) = nI 1 ∧ σi 33 (qq_s (2 * v) n p c) = nI o ↔ qq_gA τ n o c p) := fun p hp => by
      rw [wy p hp]; exact hA p hp
    have E : f_Routers_grantIfFree (w * h) (w * h * 6 * (2 * v)) (w * h * 6 * (2 * v) * d) F σi (nI n) (nI o) (nI c) = jj_lp6 (b_Routers_grantIfFree_35 (w * h) (w * h * 6 * (2 * v)) (w * h * 6 * (2 * v) * d) F (fun σ10 x1_11 x2_12 x3_13 x4_14 x5_15 x6_16 => some σ10)) F σi (nI n) (nI o) (nI c) (nI (qq_s (2 * v) n o c)) (nI (qq_gt τ n o c)) (nI 0) := by
      clear hI hR hA hG hA'
      simp (disch := omega) only [f_Routers_grantIfFree, SL, pp_b2, pp_ckE, pp_cl, pp_0, hk, if_true, ht2, pp_lt]
    by_cases hex : ∃ i, qq_gG τ n o c i
    · obtain ⟨i, hGi⟩ := hex
      obtain ⟨i5, iA, iN⟩ := (hG i).mp hGi
      have L := pc_grLoop (N := w * h) (S := w * h * 6 * (2 * v)) (SD := w * h * 6 * (2 * v) * d) (F := F) (n := n) (o := o) (c := c) (σ := σi) (K := fun σ10 x1_11 x2_12 x3_13 x4_14 x5_15 x6_16 => some σ10) ht hsl (by omega) hpl e4 hA' i5 iA iN F 0 (by omega) (by omega)
      have hm : (qq_gt τ n o c + i) % 5 < 5 := Nat.mod_lt _ (by decide)
      refine ⟨_, E.trans L, fun k k1 k2 k3 => by unfold qq_cw; rw [jj_up_ne k3, jj_up_ne k1, jj_up_ne k2]; exact hfr k k1 k2 k3, ?_⟩
      refine qq_gI_step hI hn ho hc hGi ?_ ?_ ?_ ?_ ?_ ?_
      · unfold qq_c3 qq_cw
        simp (disch := omega) only [jj_up_ne, jj_up_same, pk_us]
      · intro n' o' c' a1 a2 a3 hne
        have n1 : qq_s (2 * v) n' o' c' ≠ qq_s (2 * v) n o c := fun e => hne (qq_s_inj (by omega) a3 (by omega) hc e)
        unfold qq_c3 qq_cw
        simp (disch := omega) only [jj_up_ne, jj_up_same]
        rw [pk_un n1]
      · unfold qq_c3 qq_cw
        simp (disch := omega) only [jj_up_ne, jj_up_same, pk_us]
      · intro n' o' c' a1 a2 a3 hne
        have n1 : qq_s (2 * v) n' o' c' ≠ qq_s (2 * v) n o c := fun e => hne (qq_s_inj (by omega) a3 (by omega) hc e)
        unfold qq_c3 qq_cw
        simp (disch := omega) only [jj_up_ne, jj_up_same]
        rw [pk_un n1]
      · unfold qq_c3 qq_cw
        simp (disch := omega) only [jj_up_ne, jj_up_same, pk_us]
      · intro n' o' c' a1 a2 a3 hne
        have n1 : qq_s (2 * v) n' o' c' ≠ qq_s (2 * v) n ((qq_gt τ n o c + i) % 5) c := fun e => hne (qq_s_inj (by omega) a3 (by omega) hc e)
        unfold qq_c3 qq_cw
        simp (disch := omega) only [jj_up_ne, jj_up_same]
        rw [pk_un n1]
    · have L := pc_grNone (N := w * h) (S := w * h * 6 * (2 * v)) (SD := w * h * 6 * (2 * v) * d) (F := F) (n := n) (o := o) (c := c) (s := qq_s (2 * v) n o c) (σ := σi) ht (by omega) hpl e4 hA' (fun j hj hjA => by
        have ex : ∃ j, j < 5 ∧ qq_gA τ n o c ((qq_gt τ n o c + j) % 5) := ⟨j, hj, hjA⟩
        have key : ∀ m, ∀ j, j < m → j < 5 → qq_gA τ n o c ((qq_gt τ n o c + j) % 5) → False := by
          intro m
          induction m with
          | zero => intro j a; omega
          | succ m ih =>
            intro j a b q
            exact hex ⟨j, (hG j).mpr ⟨b, q, fun j' hj' q' => ih j' (by omega) (by omega) q'⟩⟩
        exact key 6 j (by omega) hj hjA) F 0 (by omega) (by omega)
      exact ⟨σi, E.trans L, hfr, qq_gI_noop hI (Or.inr (fun i q => hex ⟨i, q⟩))⟩
set_option maxHeartbeats 1000000 in
theorem pr_gone {w h d v made cpl F n o c : Nat} {σ τ τi : jj_S} {Pr : Nat → Nat → Nat → Prop} (hF : 300 ≤ F) (hD : qq_D w h d v) (hR : qq_Rel w h d v made cpl σ τ) (hfr : ∀ k, k ≠ 22 → k ≠ 24 → k ≠ 25 → τi k = τ k) (hI : qq_gI w h v τ Pr (qq_r3 22 τi) (qq_r3 24 τi) (qq_r3 25 τi)) (hn : n < w * h) (ho : o < 5) (hc : c < 2 * v) :
    ∃ τ', f_rRef_grant F τi (nI n) (nI o) (nI c) = some τ' ∧ (∀ k, k ≠ 22 → k ≠ 24 → k ≠ 25 → τ' k = τ k) ∧ qq_gI w h v τ (fun n' o' c' => Pr n' o' c' ∨ (n' = n ∧ o' = o ∧ c' = c)) (qq_r3 22 τ') (qq_r3 24 τ') (qq_r3 25 τ') := by
  have h9 := qq_n9 hD
  have h2v : 2 * v ≤ 4 := by have := hD.2.2.2.2; omega
  have LK := qq_gI_look hD hR hI hn ho hc
  have hl : 4 * (5 * n + o) + c < 180 := by omega
  have wy : τi 23 = τ 23 := hfr 23 (by decide) (by decide) (by decide)
  rcases LK with ⟨hk, hx⟩ | ⟨hk, ht, ht2, hA, hG⟩
  · refine ⟨τi, ?_, hfr, qq_gI_noop hI hx⟩
    have hk : ¬ τi 24 (qq_l n o c) = nI 0 := hk
    rw [qq_l4 ho] at hk
    clear hI hR hx
    simp (disch := omega) only [f_rRef_grant, pp_4, pp_5, pk_mul, nI_add, pp_lt, pp_ckE, pp_cl, pp_0, hk, if_false]
  · have hk : τi 24 (qq_l n o c) = nI 0 := hk
    have ht2 : τi 25 (qq_l n o c) = nI (qq_gt τ n o c) := ht2
    rw [qq_l4 ho] at hk ht2
    have hA' : ∀ p, p < 5 → (τi 22 (4 * (5 * n + p) + c) = nI 1 ∧ τi 23 (4 * (5 * n + p) + c) = nI o ↔ qq_gA τ n o c p) := fun p hp => by
      rw [wy]
      have := hA p hp
      unfold qq_r3 at this
      rw [qq_l4 hp] at this
      exact this
    have E : f_rRef_grant F τi (nI n) (nI o) (nI c) = jj_lp5 (b_rRef_grant_25 F (fun σ7 x1_8 x2_9 x3_10 x4_11 x5_12 => some σ7)) F τi (nI n) (nI o) (nI c) (nI (4 * (5 * n + o) + c)) (nI 0) := by
      clear hI hR hA hG hA'
      simp (disch := omega) only [f_rRef_grant, pp_4, pp_5, pk_mul, nI_add, pp_lt, pp_ckE, pp_cl, pp_0, hk, if_true]
    by_cases hex : ∃ i, qq_gG τ n o c i
    · obtain ⟨i, hGi⟩ := hex
      obtain ⟨i5, iA, iN⟩ := (hG i).mp hGi
      have L := pr_grLoop (F := F) (n := n) (o := o) (c := c) (τ := τi) (K := fun σ7 x1_8 x2_9 x3_10 x4_11 x5_12 => some σ7) ht (by omega) (by omega) hl ht2 hA' i5 iA iN F 0 (by omega) (by omega)
      have hm : (qq_gt τ n o c + i) % 5 < 5 := Nat.mod_lt _ (by decide)
      have el : 4 * (5 * n + (qq_gt τ n o c + i) % 5) + c = qq_l n ((qq_gt τ n o c + i) % 5) c := (qq_l4 hm).symm
      have el2 : 4 * (5 * n + o) + c = qq_l n o c := (qq_l4 ho).symm
      rw [el, el2] at L
      rw [el2] at E
      refine ⟨_, E.trans L, fun k k1 k2 k3 => by unfold qq_rw; rw [jj_up_ne k3, jj_up_ne k1, jj_up_ne k2]; exact hfr k k1 k2 k3, ?_⟩
      refine qq_gI_step hI hn ho hc hGi ?_ ?_ ?_ ?_ ?_ ?_
      · unfold qq_r3 qq_rw
        simp (disch := omega) only [jj_up_ne, jj_up_same, pk_us]
      · intro n' o' c' a1 a2 a3 hne
        have n1 : qq_l n' o' c' ≠ qq_l n o c := fun e => hne (qq_l_inj (by omega) (by omega) (by omega) (by omega) (by omega) (by omega) e)
        unfold qq_r3 qq_rw
        simp (disch := omega) only [jj_up_ne, jj_up_same]
        rw [pk_un n1]
      · unfold qq_r3 qq_rw
        simp (disch := omega) only [jj_up_ne, jj_up_same, pk_us]
      · intro n' o' c' a1 a2 a3 hne
        have n1 : qq_l n' o' c' ≠ qq_l n o c := fun e => hne (qq_l_inj (by omega) (by omega) (by omega) (by omega) (by omega) (by omega) e)
        unfold qq_r3 qq_rw
        simp (disch := omega) only [jj_up_ne, jj_up_same]
        rw [pk_un n1]
      · unfold qq_r3 qq_rw
        simp (disch := omega) only [jj_up_ne, jj_up_same, pk_us]
      · intro n' o' c' a1 a2 a3 hne
        have n1 : qq_l n' o' c' ≠ qq_l n ((qq_gt τ n o c + i) % 5) c := fun e => hne (qq_l_inj (by omega) (by omega) (by omega) (by omega) (by omega) (by omega) e)
        unfold qq_r3 qq_rw
        simp (disch := omega) only [jj_up_ne, jj_up_same]
        rw [pk_un n1]
    · have L := pr_grNone (F := F) (n := n) (o := o) (c := c) (s := 4 * (5 * n + o) + c) (τ := τi) ht (by omega) (by omega) hl ht2 hA' (fun j hj hjA => by
        have key : ∀ m, ∀ j, j < m → j < 5 → qq_gA τ n o c ((qq_gt τ n o c + j) % 5) → False := by
          intro m
          induction m with
          | zero => intro j a; omega
          | succ m ih =>
            intro j a b q
            exact hex ⟨j, (hG j).mpr ⟨b, q, fun j' hj' q' => ih j' (by omega) (by omega) q'⟩⟩
        exact key 6 j (by omega) hj hjA) F 0 (by omega) (by omega)
      exact ⟨τi, E.trans L, hfr, qq_gI_noop hI (Or.inr (fun i q => hex ⟨i, q⟩))⟩
