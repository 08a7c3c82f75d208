/-- the measures, in both -/
def qq_Z (w h d v : Nat) (σ τ : jj_S) : Prop := (σ 1 0 = nI w ∧ σ 1 1 = nI h ∧ σ 1 2 = nI d ∧ σ 1 3 = nI v ∧ σ 1 4 = nI (2 * v) ∧ σ 1 5 = nI (w * h)) ∧ (σ 2 0 = nI d ∧ σ 20 0 = nI 0 ∧ σ 20 1 = nI 4 ∧ σ 24 0 = nI 1 ∧ σ 24 1 = nI 2) ∧ (τ 0 0 = nI w ∧ τ 0 1 = nI h ∧ τ 0 2 = nI d ∧ τ 0 3 = nI v ∧ τ 0 4 = nI (2 * v)) ∧ ∀ n sd c, n < w * h → sd < 6 → c < 2 * v → σ 3 (qq_s (2 * v) n sd c) = nI (qq_s (2 * v) (qq_f w h n sd).1 (qq_f w h n sd).2 c)
def qq_M (made cpl : Nat) (σ τ : jj_S) : Prop := σ 10 6 = nI made ∧ τ 0 5 = nI made ∧ σ 17 2 = nI cpl ∧ τ 0 12 = nI cpl ∧ σ 0 5 = τ 0 15 ∧ σ 2 8 = τ 0 16
/-- a token of the reference's state -/
def qq_KT (cpl : Nat) (τ : jj_S) (t a i k p : Nat) : Prop := qq_K cpl (τ 3) (τ 7) (τ 11) (τ 12) (τ 14) (τ 15) (τ 17) (τ 18) (τ 19) t a i k p
/-- a number has one token -/
def qq_U (cpl : Nat) (τ : jj_S) : Prop := ∀ t a i t' a' i' k p p' : Nat, qq_KT cpl τ t a i k p → qq_KT cpl τ t' a' i' k p' → t = t' ∧ a = a' ∧ i = i'
/-- what the class keeps as a request's value -/
def qq_V (cpl made : Nat) (c15 : Nat → Int32) (τ : jj_S) : Prop := ∀ t a i k p : Nat, qq_KT cpl τ t a i k p → k < made ∧ c15 k = (if p = 0 then τ 5 k else τ 6 k)
def qq_LT (w h d v made : Nat) (σ τ : jj_S) : Prop := qq_LL w h d (2 * v) made (τ 3) (σ 4) (σ 5) (σ 6) (σ 7) (σ 8) (σ 9) (τ 17) (τ 18) (τ 19) (τ 20) (τ 21)
def qq_RT (w h v : Nat) (σ τ : jj_S) : Prop := qq_RR w h (2 * v) (σ 32) (σ 33) (σ 34) (σ 35) (τ 22) (τ 23) (τ 24) (τ 25) ∧ qq_T w h (2 * v) (σ 36) (σ 37) (τ 26) (τ 27)
def qq_QT (N made : Nat) (σ τ : jj_S) : Prop := qq_QQ 4 0 N made (τ 3) (σ 21) (σ 22) (σ 23) (τ 12) (τ 11) (τ 13) ∧ qq_QQ 2 1 N made (τ 3) (σ 25) (σ 26) (σ 27) (τ 15) (τ 14) (τ 16)
def qq_PT (N made cpl : Nat) (σ τ : jj_S) : Prop := qq_P N made (σ 11) (σ 12) (σ 13) (σ 14) (τ 1) (τ 2) (τ 3) (τ 4) ∧ qq_C cpl made (σ 18) (σ 19) (τ 7) (τ 8)
def qq_WT (N : Nat) (σ τ : jj_S) : Prop := (∀ a, a < N * 8 → σ 28 a = τ 9 a) ∧ ∀ n, n < N → σ 29 n = τ 10 n
/-- THE RELATION -/
def qq_Rel (w h d v made cpl : Nat) (σ τ : jj_S) : Prop := qq_Z w h d v σ τ ∧ qq_M made cpl σ τ ∧ qq_PT (w * h) made cpl σ τ ∧ qq_WT (w * h) σ τ ∧ qq_QT (w * h) made σ τ ∧ qq_LT w h d v made σ τ ∧ qq_RT w h v σ τ ∧ qq_E w h d (2 * v) (τ 17) (τ 19) (τ 20) (τ 21) ∧ qq_U cpl τ ∧ qq_V cpl made (σ 15) τ
/-- tokens go back to different places of the state before: they stay unique -/
theorem qq_U_of {cpl cpl' : Nat} {τ τ' : jj_S} (h : qq_U cpl τ) (ρ : Nat → Nat → Nat → Nat × Nat × Nat) (hb : ∀ t a i k p, qq_KT cpl' τ' t a i k p → ∃ p0, qq_KT cpl τ (ρ t a i).1 (ρ t a i).2.1 (ρ t a i).2.2 k p0) (hi : ∀ t a i t' a' i' k p p', qq_KT cpl' τ' t a i k p → qq_KT cpl' τ' t' a' i' k p' → ρ t a i = ρ t' a' i' → t = t' ∧ a = a' ∧ i = i') : qq_U cpl' τ' := by
  intro t a i t' a' i' k p p' h1 h2
  obtain ⟨p0, b1⟩ := hb t a i k p h1
  obtain ⟨p1, b2⟩ := hb t' a' i' k p' h2
  obtain ⟨e1, e2, e3⟩ := h _ _ _ _ _ _ _ _ _ b1 b2
  exact hi t a i t' a' i' k p p' h1 h2 (Prod.ext e1 (Prod.ext e2 e3))
/-- two loops turn for turn -/
theorem pp_w12 {γ δ : Type} {b : (jj_S → Int32 → Option γ) → jj_S → Int32 → Option γ} {b' : (jj_S → Int32 → Int32 → Option δ) → jj_S → Int32 → Int32 → Option δ} {P : Option γ → Option δ → Prop} {I : Nat → jj_S → jj_S → Prop} {e : Nat} {y1 : Int32}
    (hx : ∀ rec rec' σ τ, I e σ τ → P (b rec σ (nI e)) (b' rec' τ y1 (nI e)))
    (hs : ∀ rec rec' i σ τ, i < e → I i σ τ → (∀ σ' τ', I (i + 1) σ' τ' → P (rec σ' (nI (i + 1))) (rec' τ' y1 (nI (i + 1)))) → P (b rec σ (nI i)) (b' rec' τ y1 (nI i))) :
    ∀ (k k' i : Nat) (σ τ : jj_S), i ≤ e → e < i + k → e < i + k' → I i σ τ → P (jj_lp1 b k σ (nI i)) (jj_lp2 b' k' τ y1 (nI i)) := by
  intro k
  induction k with
  | zero => intro k' i σ τ h1 h2; omega
  | succ k ih =>
    intro k' i σ τ h1 h2 h3 hI
    cases k' with
    | zero => omega
    | succ k' =>
      show P (b (jj_lp1 b k) σ (nI i)) (b' (jj_lp2 b' k') τ y1 (nI i))
      rcases Nat.lt_or_ge i e with h | h
      · exact hs _ _ i σ τ h hI (fun σ' τ' h' => ih k' (i + 1) σ' τ' h (by omega) (by omega) h')
      · obtain rfl : i = e := by omega
        exact hx _ _ σ τ hI
theorem pp_w22 {γ δ : Type} {b : (jj_S → Int32 → Int32 → Option γ) → jj_S → Int32 → Int32 → Option γ} {b' : (jj_S → Int32 → Int32 → Option δ) → jj_S → Int32 → Int32 → Option δ} {P : Option γ → Option δ → Prop} {I : Nat → jj_S → jj_S → Prop} {e : Nat} {x1 y1 : Int32}
    (hx : ∀ rec rec' σ τ, I e σ τ → P (b rec σ x1 (nI e)) (b' rec' τ y1 (nI e)))
    (hs : ∀ rec rec' i σ τ, i < e → I i σ τ → (∀ σ' τ', I (i + 1) σ' τ' → P (rec σ' x1 (nI (i + 1))) (rec' τ' y1 (nI (i + 1)))) → P (b rec σ x1 (nI i)) (b' rec' τ y1 (nI i))) :
    ∀ (k k' i : Nat) (σ τ : jj_S), i ≤ e → e < i + k → e < i + k' → I i σ τ → P (jj_lp2 b k σ x1 (nI i)) (jj_lp2 b' k' τ y1 (nI i)) := by
  intro k
  induction k with
  | zero => intro k' i σ τ h1 h2; omega
  | succ k ih =>
    intro k' i σ τ h1 h2 h3 hI
    cases k' with
    | zero => omega
    | succ k' =>
      show P (b (jj_lp2 b k) σ x1 (nI i)) (b' (jj_lp2 b' k') τ y1 (nI i))
      rcases Nat.lt_or_ge i e with h | h
      · exact hs _ _ i σ τ h hI (fun σ' τ' h' => ih k' (i + 1) σ' τ' h (by omega) (by omega) h')
      · obtain rfl : i = e := by omega
        exact hx _ _ σ τ hI
theorem pp_w33 {γ δ : Type} {b : (jj_S → Int32 → Int32 → Int32 → Option γ) → jj_S → Int32 → Int32 → Int32 → Option γ} {b' : (jj_S → Int32 → Int32 → Int32 → Option δ) → jj_S → Int32 → Int32 → Int32 → Option δ} {P : Option γ → Option δ → Prop} {I : Nat → jj_S → jj_S → Prop} {e : Nat} {x1 x2 y1 y2 : Int32}
    (hx : ∀ rec rec' σ τ, I e σ τ → P (b rec σ x1 x2 (nI e)) (b' rec' τ y1 y2 (nI e)))
    (hs : ∀ rec rec' i σ τ, i < e → I i σ τ → (∀ σ' τ', I (i + 1) σ' τ' → P (rec σ' x1 x2 (nI (i + 1))) (rec' τ' y1 y2 (nI (i + 1)))) → P (b rec σ x1 x2 (nI i)) (b' rec' τ y1 y2 (nI i))) :
    ∀ (k k' i : Nat) (σ τ : jj_S), i ≤ e → e < i + k → e < i + k' → I i σ τ → P (jj_lp3 b k σ x1 x2 (nI i)) (jj_lp3 b' k' τ y1 y2 (nI i)) := by
  intro k
  induction k with
  | zero => intro k' i σ τ h1 h2; omega
  | succ k ih =>
    intro k' i σ τ h1 h2 h3 hI
    cases k' with
    | zero => omega
    | succ k' =>
      show P (b (jj_lp3 b k) σ x1 x2 (nI i)) (b' (jj_lp3 b' k') τ y1 y2 (nI i))
      rcases Nat.lt_or_ge i e with h | h
      · exact hs _ _ i σ τ h hI (fun σ' τ' h' => ih k' (i + 1) σ' τ' h (by omega) (by omega) h')
      · obtain rfl : i = e := by omega
        exact hx _ _ σ τ hI
/-- a flit's number isn't -1 -/
theorem qq_F_ne {made : Nat} {wr : Nat → Int32} {cf rf : Int32} (hm : made ≤ 400) (h : qq_F made wr cf rf) : cf ≠ qq_m ∧ rf ≠ qq_m ∧ ¬ rf < 0 ∧ ¬ cf < 0 := by
  obtain ⟨k, p, j, hk, hp, hj, rfl, rfl⟩ := h
  have hl := qq_len_in (wr k) p
  have ht : (if j + 1 = qq_len (wr k) p then 1 else 0) ≤ 1 := by split <;> omega
  refine ⟨fun e => ?_, fun e => ?_, nI_pos (by omega), nI_pos (by omega)⟩
  · rw [pp_m1 (by omega)] at e; exact e
  · rw [pp_m1 (by omega)] at e; exact e
/-- every slot is a side's channel -/
theorem qq_slot {N C s : Nat} (hC : 0 < C) (hs : s < N * 6 * C) : ∃ n sd c, n < N ∧ sd < 6 ∧ c < C ∧ s = qq_s C n sd c := by
  refine ⟨s / C / 6, s / C % 6, s % C, ?_, Nat.mod_lt _ (by omega), Nat.mod_lt _ hC, ?_⟩
  · have h1 : s / C < N * 6 := Nat.div_lt_of_lt_mul (by rw [Nat.mul_comm]; exact hs)
    omega
  · unfold qq_s
    have h1 : s / C / 6 * 6 + s / C % 6 = s / C := by omega
    rw [h1, Nat.mul_comm]
    exact (Nat.div_add_mod s C).symm
theorem qq_dj {d s j s' j' : Nat} (hj : j < d) (hj' : j' < d) (e : s * d + j = s' * d + j') : s = s' ∧ j = j' := by
  have a1 : (s * d + j) / d = s := by rw [Nat.mul_comm, Nat.mul_add_div (by omega), Nat.div_eq_of_lt hj]; rfl
  have a2 : (s' * d + j') / d = s' := by rw [Nat.mul_comm, Nat.mul_add_div (by omega), Nat.div_eq_of_lt hj']; rfl
  have h1 : s = s' := by rw [← a1, ← a2, e]
  subst h1
  exact ⟨rfl, by omega⟩
theorem qq_sd_lt {d s S j : Nat} (hs : s < S) (hj : j < d) : s * d + j < S * d := by
  have h2 : (s + 1) * d ≤ S * d := Nat.mul_le_mul_right d hs
  have h3 : (s + 1) * d = s * d + d := Nat.succ_mul _ _
  omega
