/-! THE PURE SIDE. pp_: laws to compute with; qq_: the relation between the two systems. -/
/-- a computation answers, and its answer has Φ -/
def pp_S {β : Type} (o : Option β) (Φ : β → Prop) : Prop := ∃ z, o = some z ∧ Φ z
theorem pp_some {β : Type} {z : β} {Φ : β → Prop} (h : Φ z) : pp_S (some z) Φ := ⟨z, rfl, h⟩
theorem pp_ck {β : Type} {n j : Nat} {i : Int32} {o : Option β} {Φ : β → Prop} (hi : i = nI j) (hj : j < n) (hn : n ≤ 2147483647) (h : pp_S o Φ) : pp_S (jj_ck n i o) Φ := by
  subst hi
  have h2 : vp_in (nI j) n := vp_in_nI hj (by omega)
  rw [jj_ck, if_neg h2]
  exact h
theorem pp_ckE {β : Type} {n j : Nat} {o : Option β} (hj : j < n) (hn : n ≤ 2147483647) : jj_ck n (nI j) o = o := by
  have h2 : vp_in (nI j) n := vp_in_nI hj (by omega)
  rw [jj_ck, if_neg h2]
theorem pp_nzE {β : Type} {j : Nat} {o : Option β} (h0 : 0 < j) (hn : j ≤ 2147483647) : jj_nz (nI j) o = o := by
  rw [jj_nz, if_neg (nI_ne0 h0 (by omega))]
theorem pp_st {β : Type} {σ : jj_S} {k : jj_S → Option β} : jj_st σ k = k σ := rfl
theorem pp_lt {β : Type} {x : Int32} {k : Int32 → Option β} : jj_lt x k = k x := rfl
theorem pp_b2 {β : Type} {z : Int32 × jj_S} {k : Int32 → jj_S → Option β} : jj_b2 (some z) k = k z.1 z.2 := rfl
theorem pp_b1 {β : Type} {z : jj_S} {k : jj_S → Option β} : jj_b1 (some z) k = k z := rfl
theorem pp_rem {a b : Nat} (ha : a ≤ 2147483647) (h0 : 0 < b) (hb : b ≤ 2147483647) : nI a - nI a / nI b * nI b = nI (a % b) := pk_rem (by omega) h0 (by omega)
theorem pp_div {a b : Nat} (ha : a ≤ 2147483647) (h0 : 0 < b) (hb : b ≤ 2147483647) : nI a / nI b = nI (a / b) := pk_div (by omega) h0 (by omega)
theorem pp_cl {a : Nat} (ha : a ≤ 2147483647) : (nI a).toNatClampNeg = a := nI_clamp (by omega)
theorem pp_subN {a b : Nat} (h : b ≤ a) : nI a - nI b = nI (a - b) := pk_sub h
theorem pp_le {a b : Nat} (ha : a ≤ 2147483647) (hb : b ≤ 2147483647) : (nI a ≤ nI b) = (a ≤ b) := propext (nI_leI (by omega) (by omega))
theorem pp_ltN {a b : Nat} (ha : a ≤ 2147483647) (hb : b ≤ 2147483647) : (nI a < nI b) = (a < b) := propext (nI_ltI (by omega) (by omega))
theorem pp_eq {a b : Nat} (ha : a ≤ 2147483647) (hb : b ≤ 2147483647) : (nI a = nI b) = (a = b) := propext (nI_eq (by omega) (by omega))
/-- the number -1 -/
def qq_m : Int32 := -1
theorem pp_n1 : -nI 1 = qq_m := rfl
theorem pp_m1 {a : Nat} (ha : a ≤ 2147483647) : (nI a = qq_m) = False := by
  apply eq_false
  intro h
  have h1 := congrArg Int32.toInt h
  rw [nI_toInt (by omega)] at h1
  have : qq_m.toInt = -1 := by decide
  omega
theorem pp_m1' {a : Nat} (ha : a ≤ 2147483647) : (qq_m = nI a) = False := by
  apply eq_false
  intro h
  have h2 := pp_m1 ha
  rw [← h2]; exact h.symm
theorem pp_mlt : (qq_m < nI 0) = True := by decide
theorem pp_mneg : (qq_m = nI 0) = False := by decide
theorem pp_neg {a : Nat} (ha : a ≤ 2147483647) : (nI a < nI 0) = False := eq_false (nI_pos (by omega))
theorem pp_0 : (0 : Int32) = nI 0 := rfl
theorem pp_1 : (1 : Int32) = nI 1 := rfl
theorem pp_2 : (2 : Int32) = nI 2 := rfl
theorem pp_3 : (3 : Int32) = nI 3 := rfl
theorem pp_4 : (4 : Int32) = nI 4 := rfl
theorem pp_5 : (5 : Int32) = nI 5 := rfl
theorem pp_6 : (6 : Int32) = nI 6 := rfl
theorem pp_7 : (7 : Int32) = nI 7 := rfl
theorem pp_8 : (8 : Int32) = nI 8 := rfl
theorem pp_20 : (20 : Int32) = nI 20 := rfl
theorem pp_60 : (60 : Int32) = nI 60 := rfl
theorem pp_64 : (64 : Int32) = nI 64 := rfl
theorem pp_180 : (180 : Int32) = nI 180 := rfl
theorem pp_216 : (216 : Int32) = nI 216 := rfl
theorem pp_400 : (400 : Int32) = nI 400 := rfl
/-- a loop over Nat: from i to e, each turn one step of the state -/
theorem pp_lp1 {γ : Type} {b : (jj_S → Int32 → Option γ) → jj_S → Int32 → Option γ} {I : Nat → jj_S → Prop} {Φ : γ → Prop} {e : Nat}
    (hx : ∀ (rec : jj_S → Int32 → Option γ) (σ : jj_S), I e σ → pp_S (b rec σ (nI e)) Φ)
    (hs : ∀ (rec : jj_S → Int32 → Option γ) (i : Nat) (σ : jj_S), i < e → I i σ → (∀ σ', I (i + 1) σ' → pp_S (rec σ' (nI (i + 1))) Φ) → pp_S (b rec σ (nI i)) Φ) :
    ∀ (k i : Nat) (σ : jj_S), i ≤ e → e < i + k → I i σ → pp_S (jj_lp1 b k σ (nI i)) Φ := by
  intro k
  induction k with
  | zero => intro i σ h1 h2; omega
  | succ k ih =>
    intro i σ h1 h2 hI
    show pp_S (b (jj_lp1 b k) σ (nI i)) Φ
    rcases Nat.lt_or_ge i e with h | h
    · exact hs _ i σ h hI (fun σ' h' => ih (i + 1) σ' h (by omega) h')
    · obtain rfl : i = e := by omega
      exact hx _ σ hI
theorem pp_lp2 {γ : Type} {b : (jj_S → Int32 → Int32 → Option γ) → jj_S → Int32 → Int32 → Option γ} {I : Nat → jj_S → Prop} {Φ : γ → Prop} {e : Nat} {x1 : Int32}
    (hx : ∀ (rec : jj_S → Int32 → Int32 → Option γ) (σ : jj_S), I e σ → pp_S (b rec σ x1 (nI e)) Φ)
    (hs : ∀ (rec : jj_S → Int32 → Int32 → Option γ) (i : Nat) (σ : jj_S), i < e → I i σ → (∀ σ', I (i + 1) σ' → pp_S (rec σ' x1 (nI (i + 1))) Φ) → pp_S (b rec σ x1 (nI i)) Φ) :
    ∀ (k i : Nat) (σ : jj_S), i ≤ e → e < i + k → I i σ → pp_S (jj_lp2 b k σ x1 (nI i)) Φ := by
  intro k
  induction k with
  | zero => intro i σ h1 h2; omega
  | succ k ih =>
    intro i σ h1 h2 hI
    show pp_S (b (jj_lp2 b k) σ x1 (nI i)) Φ
    rcases Nat.lt_or_ge i e with h | h
    · exact hs _ i σ h hI (fun σ' h' => ih (i + 1) σ' h (by omega) h')
    · obtain rfl : i = e := by omega
      exact hx _ σ hI
theorem pp_lp3 {γ : Type} {b : (jj_S → Int32 → Int32 → Int32 → Option γ) → jj_S → Int32 → Int32 → Int32 → Option γ} {I : Nat → jj_S → Prop} {Φ : γ → Prop} {e : Nat} {x1 x2 : Int32}
    (hx : ∀ (rec : jj_S → Int32 → Int32 → Int32 → Option γ) (σ : jj_S), I e σ → pp_S (b rec σ x1 x2 (nI e)) Φ)
    (hs : ∀ (rec : jj_S → Int32 → Int32 → Int32 → Option γ) (i : Nat) (σ : jj_S), i < e → I i σ → (∀ σ', I (i + 1) σ' → pp_S (rec σ' x1 x2 (nI (i + 1))) Φ) → pp_S (b rec σ x1 x2 (nI i)) Φ) :
    ∀ (k i : Nat) (σ : jj_S), i ≤ e → e < i + k → I i σ → pp_S (jj_lp3 b k σ x1 x2 (nI i)) Φ := by
  intro k
  induction k with
  | zero => intro i σ h1 h2; omega
  | succ k ih =>
    intro i σ h1 h2 hI
    show pp_S (b (jj_lp3 b k) σ x1 x2 (nI i)) Φ
    rcases Nat.lt_or_ge i e with h | h
    · exact hs _ i σ h hI (fun σ' h' => ih (i + 1) σ' h (by omega) h')
    · obtain rfl : i = e := by omega
      exact hx _ σ hI
theorem pp_lp4 {γ : Type} {b : (jj_S → Int32 → Int32 → Int32 → Int32 → Option γ) → jj_S → Int32 → Int32 → Int32 → Int32 → Option γ} {I : Nat → jj_S → Prop} {Φ : γ → Prop} {e : Nat} {x1 x2 x3 : Int32}
    (hx : ∀ (rec : jj_S → Int32 → Int32 → Int32 → Int32 → Option γ) (σ : jj_S), I e σ → pp_S (b rec σ x1 x2 x3 (nI e)) Φ)
    (hs : ∀ (rec : jj_S → Int32 → Int32 → Int32 → Int32 → Option γ) (i : Nat) (σ : jj_S), i < e → I i σ → (∀ σ', I (i + 1) σ' → pp_S (rec σ' x1 x2 x3 (nI (i + 1))) Φ) → pp_S (b rec σ x1 x2 x3 (nI i)) Φ) :
    ∀ (k i : Nat) (σ : jj_S), i ≤ e → e < i + k → I i σ → pp_S (jj_lp4 b k σ x1 x2 x3 (nI i)) Φ := by
  intro k
  induction k with
  | zero => intro i σ h1 h2; omega
  | succ k ih =>
    intro i σ h1 h2 hI
    show pp_S (b (jj_lp4 b k) σ x1 x2 x3 (nI i)) Φ
    rcases Nat.lt_or_ge i e with h | h
    · exact hs _ i σ h hI (fun σ' h' => ih (i + 1) σ' h (by omega) h')
    · obtain rfl : i = e := by omega
      exact hx _ σ hI
theorem pp_lp5 {γ : Type} {b : (jj_S → Int32 → Int32 → Int32 → Int32 → Int32 → Option γ) → jj_S → Int32 → Int32 → Int32 → Int32 → Int32 → Option γ} {I : Nat → jj_S → Prop} {Φ : γ → Prop} {e : Nat} {x1 x2 x3 x4 : Int32}
    (hx : ∀ (rec : jj_S → Int32 → Int32 → Int32 → Int32 → Int32 → Option γ) (σ : jj_S), I e σ → pp_S (b rec σ x1 x2 x3 x4 (nI e)) Φ)
    (hs : ∀ (rec : jj_S → Int32 → Int32 → Int32 → Int32 → Int32 → Option γ) (i : Nat) (σ : jj_S), i < e → I i σ → (∀ σ', I (i + 1) σ' → pp_S (rec σ' x1 x2 x3 x4 (nI (i + 1))) Φ) → pp_S (b rec σ x1 x2 x3 x4 (nI i)) Φ) :
    ∀ (k i : Nat) (σ : jj_S), i ≤ e → e < i + k → I i σ → pp_S (jj_lp5 b k σ x1 x2 x3 x4 (nI i)) Φ := by
  intro k
  induction k with
  | zero => intro i σ h1 h2; omega
  | succ k ih =>
    intro i σ h1 h2 hI
    show pp_S (b (jj_lp5 b k) σ x1 x2 x3 x4 (nI i)) Φ
    rcases Nat.lt_or_ge i e with h | h
    · exact hs _ i σ h hI (fun σ' h' => ih (i + 1) σ' h (by omega) h')
    · obtain rfl : i = e := by omega
      exact hx _ σ hI
theorem pp_lp6 {γ : Type} {b : (jj_S → Int32 → Int32 → Int32 → Int32 → Int32 → Int32 → Option γ) → jj_S → Int32 → Int32 → Int32 → Int32 → Int32 → Int32 → Option γ} {I : Nat → jj_S → Prop} {Φ : γ → Prop} {e : Nat} {x1 x2 x3 x4 x5 : Int32}
    (hx : ∀ (rec : jj_S → Int32 → Int32 → Int32 → Int32 → Int32 → Int32 → Option γ) (σ : jj_S), I e σ → pp_S (b rec σ x1 x2 x3 x4 x5 (nI e)) Φ)
    (hs : ∀ (rec : jj_S → Int32 → Int32 → Int32 → Int32 → Int32 → Int32 → Option γ) (i : Nat) (σ : jj_S), i < e → I i σ → (∀ σ', I (i + 1) σ' → pp_S (rec σ' x1 x2 x3 x4 x5 (nI (i + 1))) Φ) → pp_S (b rec σ x1 x2 x3 x4 x5 (nI i)) Φ) :
    ∀ (k i : Nat) (σ : jj_S), i ≤ e → e < i + k → I i σ → pp_S (jj_lp6 b k σ x1 x2 x3 x4 x5 (nI i)) Φ := by
  intro k
  induction k with
  | zero => intro i σ h1 h2; omega
  | succ k ih =>
    intro i σ h1 h2 hI
    show pp_S (b (jj_lp6 b k) σ x1 x2 x3 x4 x5 (nI i)) Φ
    rcases Nat.lt_or_ge i e with h | h
    · exact hs _ i σ h hI (fun σ' h' => ih (i + 1) σ' h (by omega) h')
    · obtain rfl : i = e := by omega
      exact hx _ σ hI
theorem pp_lp7 {γ : Type} {b : (jj_S → Int32 → Int32 → Int32 → Int32 → Int32 → Int32 → Int32 → Option γ) → jj_S → Int32 → Int32 → Int32 → Int32 → Int32 → Int32 → Int32 → Option γ} {I : Nat → jj_S → Prop} {Φ : γ → Prop} {e : Nat} {x1 x2 x3 x4 x5 x6 : Int32}
    (hx : ∀ (rec : jj_S → Int32 → Int32 → Int32 → Int32 → Int32 → Int32 → Int32 → Option γ) (σ : jj_S), I e σ → pp_S (b rec σ x1 x2 x3 x4 x5 x6 (nI e)) Φ)
    (hs : ∀ (rec : jj_S → Int32 → Int32 → Int32 → Int32 → Int32 → Int32 → Int32 → Option γ) (i : Nat) (σ : jj_S), i < e → I i σ → (∀ σ', I (i + 1) σ' → pp_S (rec σ' x1 x2 x3 x4 x5 x6 (nI (i + 1))) Φ) → pp_S (b rec σ x1 x2 x3 x4 x5 x6 (nI i)) Φ) :
    ∀ (k i : Nat) (σ : jj_S), i ≤ e → e < i + k → I i σ → pp_S (jj_lp7 b k σ x1 x2 x3 x4 x5 x6 (nI i)) Φ := by
  intro k
  induction k with
  | zero => intro i σ h1 h2; omega
  | succ k ih =>
    intro i σ h1 h2 hI
    show pp_S (b (jj_lp7 b k) σ x1 x2 x3 x4 x5 x6 (nI i)) Φ
    rcases Nat.lt_or_ge i e with h | h
    · exact hs _ i σ h hI (fun σ' h' => ih (i + 1) σ' h (by omega) h')
    · obtain rfl : i = e := by omega
      exact hx _ σ hI
