/-! GRANTING -/
def qq_gA (τ : jj_S) (n o c p : Nat) : Prop := τ 22 (qq_l n p c) = nI 1 ∧ τ 23 (qq_l n p c) = nI o
def qq_gt (τ : jj_S) (n o c : Nat) : Nat := (τ 25 (qq_l n o c)).toNatClampNeg
def qq_gG (τ : jj_S) (n o c i : Nat) : Prop := τ 24 (qq_l n o c) = nI 0 ∧ i < 5 ∧ qq_gA τ n o c ((qq_gt τ n o c + i) % 5) ∧ ∀ j, j < i → ¬ qq_gA τ n o c ((qq_gt τ n o c + j) % 5)
theorem qq_gG_un {τ : jj_S} {n o c i i' : Nat} (h : qq_gG τ n o c i) (h' : qq_gG τ n o c i') : i = i' := by
  rcases Nat.lt_trichotomy i i' with q | q | q
  · exact absurd h.2.2.1 (h'.2.2.2 i q)
  · exact q
  · exact absurd h'.2.2.1 (h.2.2.2 i' q)
def qq_gI (w h v : Nat) (τ : jj_S) (Pr : Nat → Nat → Nat → Prop) (fs fk ft : Nat → Nat → Nat → Int32) : Prop :=
  (∀ n o c i, n < w * h → o < 5 → c < 2 * v → Pr n o c → qq_gG τ n o c i → fk n o c = nI 1 ∧ ft n o c = nI (((qq_gt τ n o c + i) % 5 + 1) % 5) ∧ fs n ((qq_gt τ n o c + i) % 5) c = nI 2) ∧
  (∀ n o c, n < w * h → o < 5 → c < 2 * v → (∀ i, ¬ (Pr n o c ∧ qq_gG τ n o c i)) → fk n o c = τ 24 (qq_l n o c) ∧ ft n o c = τ 25 (qq_l n o c)) ∧
  (∀ n p c, n < w * h → p < 5 → c < 2 * v → (∀ o i, o < 5 → ¬ (Pr n o c ∧ qq_gG τ n o c i ∧ p = (qq_gt τ n o c + i) % 5)) → fs n p c = τ 22 (qq_l n p c))
theorem qq_gI_step {w h v n o c i : Nat} {τ : jj_S} {Pr : Nat → Nat → Nat → Prop} {fs fk ft fs' fk' ft' : Nat → Nat → Nat → Int32} (hI : qq_gI w h v τ Pr fs fk ft) (hn : n < w * h) (ho : o < 5) (hc : c < 2 * v) (hG : qq_gG τ n o c i)
    (k1 : fk' n o c = nI 1) (k2 : ∀ n' o' c', n' < w * h → o' < 5 → c' < 2 * v → ¬ (n' = n ∧ o' = o ∧ c' = c) → fk' n' o' c' = fk n' o' c') (t1 : ft' n o c = nI (((qq_gt τ n o c + i) % 5 + 1) % 5)) (t2 : ∀ n' o' c', n' < w * h → o' < 5 → c' < 2 * v → ¬ (n' = n ∧ o' = o ∧ c' = c) → ft' n' o' c' = ft n' o' c')
    (s1 : fs' n ((qq_gt τ n o c + i) % 5) c = nI 2) (s2 : ∀ n' p' c', n' < w * h → p' < 5 → c' < 2 * v → ¬ (n' = n ∧ p' = (qq_gt τ n o c + i) % 5 ∧ c' = c) → fs' n' p' c' = fs n' p' c') : qq_gI w h v τ (fun n' o' c' => Pr n' o' c' ∨ (n' = n ∧ o' = o ∧ c' = c)) fs' fk' ft' := by
  obtain ⟨h1, h2, h3⟩ := hI
  refine ⟨fun n' o' c' i' a1 a2 a3 hP hG' => ?_, fun n' o' c' a1 a2 a3 hN => ?_, fun n' p' c' a1 a2 a3 hN => ?_⟩
  · by_cases he : n' = n ∧ o' = o ∧ c' = c
    · obtain ⟨rfl, rfl, rfl⟩ := he
      obtain rfl := qq_gG_un hG' hG
      exact ⟨k1, t1, s1⟩
    · rcases hP with hP | hP
      · obtain ⟨b1, b2, b3⟩ := h1 n' o' c' i' a1 a2 a3 hP hG'
        refine ⟨by rw [k2 n' o' c' a1 a2 a3 he]; exact b1, by rw [t2 n' o' c' a1 a2 a3 he]; exact b2, ?_⟩
        by_cases hw : n' = n ∧ (qq_gt τ n' o' c' + i') % 5 = (qq_gt τ n o c + i) % 5 ∧ c' = c
        · obtain ⟨w1, w2, w3⟩ := hw
          rw [w2, w1, w3]; exact s1
        · rw [s2 n' _ c' a1 (Nat.mod_lt _ (by decide)) a3 hw]; exact b3
      · exact absurd hP he
  · have he : ¬ (n' = n ∧ o' = o ∧ c' = c) := fun he => by
      obtain ⟨rfl, rfl, rfl⟩ := he
      exact hN i ⟨Or.inr ⟨rfl, rfl, rfl⟩, hG⟩
    rw [k2 n' o' c' a1 a2 a3 he, t2 n' o' c' a1 a2 a3 he]
    exact h2 n' o' c' a1 a2 a3 (fun i' q => hN i' ⟨Or.inl q.1, q.2⟩)
  · have he : ¬ (n' = n ∧ p' = (qq_gt τ n o c + i) % 5 ∧ c' = c) := fun he => by
      obtain ⟨rfl, e2, rfl⟩ := he
      exact hN o i ho ⟨Or.inr ⟨rfl, rfl, rfl⟩, hG, e2⟩
    rw [s2 n' p' c' a1 a2 a3 he]
    exact h3 n' p' c' a1 a2 a3 (fun o' i' b q => hN o' i' b ⟨Or.inl q.1, q.2⟩)
theorem qq_gI_noop {w h v n o c : Nat} {τ : jj_S} {Pr : Nat → Nat → Nat → Prop} {fs fk ft : Nat → Nat → Nat → Int32} (hI : qq_gI w h v τ Pr fs fk ft) (hx : Pr n o c ∨ ∀ i, ¬ qq_gG τ n o c i) : qq_gI w h v τ (fun n' o' c' => Pr n' o' c' ∨ (n' = n ∧ o' = o ∧ c' = c)) fs fk ft := by
  obtain ⟨h1, h2, h3⟩ := hI
  have key : ∀ n' o' c' i', (Pr n' o' c' ∨ (n' = n ∧ o' = o ∧ c' = c)) → qq_gG τ n' o' c' i' → Pr n' o' c' := by
    intro n' o' c' i' hP hG
    rcases hP with hP | ⟨rfl, rfl, rfl⟩
    · exact hP
    · rcases hx with hx | hx
      · exact hx
      · exact absurd hG (hx i')
  exact ⟨fun n' o' c' i' a1 a2 a3 hP hG => h1 n' o' c' i' a1 a2 a3 (key _ _ _ _ hP hG) hG, fun n' o' c' a1 a2 a3 hN => h2 n' o' c' a1 a2 a3 (fun i' q => hN i' ⟨Or.inl q.1, q.2⟩), fun n' p' c' a1 a2 a3 hN => h3 n' p' c' a1 a2 a3 (fun o' i' b q => hN o' i' b ⟨Or.inl q.1, q.2⟩)⟩
/-- what a look at one output finds, out of the description -/
theorem qq_gI_look {w h d v made cpl n o c : Nat} {σ τ : jj_S} {Pr : Nat → Nat → Nat → Prop} {fs fk ft : Nat → Nat → Nat → Int32} (hD : qq_D w h d v) (hR : qq_Rel w h d v made cpl σ τ) (hI : qq_gI w h v τ Pr fs fk ft) (hn : n < w * h) (ho : o < 5) (hc : c < 2 * v) :
    (fk n o c ≠ nI 0 ∧ (Pr n o c ∨ ∀ i, ¬ qq_gG τ n o c i)) ∨ (fk n o c = nI 0 ∧ qq_gt τ n o c < 5 ∧ ft n o c = nI (qq_gt τ n o c) ∧ (∀ p, p < 5 → (fs n p c = nI 1 ∧ τ 23 (qq_l n p c) = nI o ↔ qq_gA τ n o c p)) ∧ (∀ i, qq_gG τ n o c i ↔ i < 5 ∧ qq_gA τ n o c ((qq_gt τ n o c + i) % 5) ∧ ∀ j, j < i → ¬ qq_gA τ n o c ((qq_gt τ n o c + j) % 5))) := by
  obtain ⟨st, wy, tk, tn, r1, r2, r3, r4, r5, r6, r7, r8, r9, r10, r11, r12, r13⟩ := hR.2.2.2.2.2.2.1.1 n o c hn ho hc
  have et : qq_gt τ n o c = tn := by unfold qq_gt; rw [r13, pp_cl (by omega)]
  by_cases hG : ∃ i, Pr n o c ∧ qq_gG τ n o c i
  · obtain ⟨i, hP, hG⟩ := hG
    obtain ⟨b1, b2, b3⟩ := hI.1 n o c i hn ho hc hP hG
    exact Or.inl ⟨by rw [b1, ne_eq, pp_eq (by omega) (by omega)]; decide, Or.inl hP⟩
  · obtain ⟨b1, b2⟩ := hI.2.1 n o c hn ho hc (fun i q => hG ⟨i, q⟩)
    by_cases hk : tk = 0
    · subst hk
      refine Or.inr ⟨by rw [b1, r11], by rw [et]; exact r4, by rw [b2, et, r13], fun p hp => ?_, fun i => ⟨fun q => q.2, fun q => ⟨r11, q⟩⟩⟩
      obtain ⟨st', wy', tk', tn', s1, s2, s3, s4, s5, s6, s7, s8, -⟩ := hR.2.2.2.2.2.2.1.1 n p c hn hp hc
      by_cases hw : τ 23 (qq_l n p c) = nI o
      · have e : fs n p c = τ 22 (qq_l n p c) := hI.2.2 n p c hn hp hc (fun o' i' ho' q => by
          have e1 := q.2.1.2.2.1.2
          rw [← q.2.2, hw, pp_eq (by omega) (by omega)] at e1
          subst e1
          exact hG ⟨i', q.1, q.2.1⟩)
        unfold qq_gA
        rw [e]
      · exact ⟨fun q => absurd q.2 hw, fun q => absurd q.2 hw⟩
    · refine Or.inl ⟨by rw [b1, r11, ne_eq, pp_eq (by omega) (by omega)]; exact hk, Or.inr (fun i q => ?_)⟩
      have := q.1
      rw [r11, pp_eq (by omega) (by omega)] at this
      exact hk this
