/-! LEAVES: what the small methods answer. -/
theorem pc_firstFlit {n S SD F : Nat} {σ : jj_S} {s d fi : Nat} (hs : s < S) (hS : S ≤ 1000) (hSD : SD ≤ 1000) (hi : s * d + fi < SD) (e0 : σ 2 0 = nI d) (e5 : σ 5 s = nI fi) : f_Links_firstFlit n S SD F σ (nI s) = some (σ 4 (s * d + fi), σ) := by
  simp (disch := omega) only [f_Links_firstFlit, pp_ckE, pp_nzE, pp_st, e0, e5, pk_mul, nI_add, pp_cl]
theorem pc_takeOut {n S SD F : Nat} {σ : jj_S} {s d fi sz f bk : Nat} (hs : s < S) (hS : S ≤ 1000) (hSD : SD ≤ 1000) (hd : 1 ≤ d) (hd4 : d ≤ 4) (hfi : fi < d) (hsz : 1 ≤ sz) (hsz4 : sz ≤ 4) (hf : f < S) (hbk : bk ≤ 4) (hi : s * d + fi < SD) (e0 : σ 2 0 = nI d) (e5 : σ 5 s = nI fi) (e6 : σ 6 s = nI sz) (e3 : σ 3 s = nI f) (e9 : σ 9 f = nI bk) : f_Links_takeOut n S SD F σ (nI s) = some (σ 4 (s * d + fi), jj_up (jj_up (jj_up σ 5 s (nI ((fi + 1) % d))) 6 s (nI (sz - 1))) 9 f (nI (bk + 1))) := by
  simp (disch := omega) only [f_Links_takeOut, pc_firstFlit hs hS hSD hi e0 e5, pp_b2, pp_ckE, pp_nzE, pp_st, pp_1, e0, e5, e6, e3, e9, pk_mul, nI_add, pp_cl, pp_rem, pp_subN, jj_up_same, jj_up_ne, pk_us, pk_un]
theorem pc_send {n S SD F : Nat} {σ : jj_S} {s f cr : Nat} {x : Int32} (hs : s < S) (hS : S ≤ 1000) (hf : f < S) (hcr : 1 ≤ cr) (e3 : σ 3 s = nI f) (e7 : σ 7 s = nI cr) : f_Links_send n S SD F σ (nI s) x = some (jj_up (jj_up (jj_up σ 7 s (nI (cr - 1))) 8 f x) 2 8 (σ 2 8 + 1)) := by
  simp (disch := omega) only [f_Links_send, pp_ckE, pp_st, pp_1, e3, e7, pp_cl, pp_subN, jj_up_ne]
theorem pr_send {F : Nat} {τ : jj_S} {l cr : Nat} {x : Int32} (hl : l < 216) (hcr : 1 ≤ cr) (e20 : τ 20 l = nI cr) : f_rRef_send F τ (nI l) x = some (jj_up (jj_up (jj_up τ 19 l x) 20 l (nI (cr - 1))) 0 16 (τ 0 16 + 1)) := by
  simp (disch := omega) only [f_rRef_send, pp_ckE, pp_st, pp_1, e20, pp_cl, pp_subN, jj_up_ne]
/-- the reference's lane, its first flit taken out of sz -/
def qq_sh (r18 : Nat → Int32) (l m : Nat) : Nat → Int32 := fun a => if 4 * l ≤ a ∧ a < 4 * l + m then r18 (a + 1) else r18 a
theorem qq_sh_0 (r : Nat → Int32) (l : Nat) : qq_sh r l 0 = r := by
  funext a; unfold qq_sh; rw [if_neg (by omega)]
theorem qq_sh_s (r : Nat → Int32) (l m : Nat) : upd (qq_sh r l m) (4 * l + m) (qq_sh r l m (4 * l + m + 1)) = qq_sh r l (m + 1) := by
  funext a
  unfold upd
  by_cases h : a = 4 * l + m
  · subst h
    rw [if_pos rfl]
    unfold qq_sh
    rw [if_neg (by omega), if_pos (by omega)]
  · rw [if_neg h]
    unfold qq_sh
    by_cases h2 : 4 * l ≤ a ∧ a < 4 * l + m
    · rw [if_pos h2, if_pos (by omega)]
    · rw [if_neg h2, if_neg (by omega)]
theorem pr_take {F : Nat} {τ : jj_S} {l sz bk : Nat} (hF : 100 ≤ F) (hl : l < 216) (hsz : 1 ≤ sz) (hsz4 : sz ≤ 4) (hbk : bk ≤ 4) (e17 : τ 17 l = nI sz) (e21 : τ 21 l = nI bk) : pp_S (f_rRef_take F τ (nI l)) (fun z => z.1 = τ 18 (4 * l) ∧ z.2 17 = upd (τ 17) l (nI (sz - 1)) ∧ z.2 18 = qq_sh (τ 18) l (sz - 1) ∧ z.2 21 = upd (τ 21) l (nI (bk + 1)) ∧ ∀ k, k ≠ 17 → k ≠ 18 → k ≠ 21 → z.2 k = τ k) := by
  simp (disch := omega) only [f_rRef_take, pp_ckE, pp_st, pp_lt, pp_4, pp_1, e17, pk_mul, pp_cl, pp_subN, pp_0]
  refine pp_lp3 (e := sz - 1) (I := fun i σ => σ 17 = upd (τ 17) l (nI (sz - 1)) ∧ σ 18 = qq_sh (τ 18) l i ∧ ∀ k, k ≠ 17 → k ≠ 18 → σ k = τ k) ?_ ?_ F 0 _ (by omega) (by omega) ?_
  · intro rec σ ⟨h1, h2, h3⟩
    have e1 : σ 17 l = nI (sz - 1) := by rw [h1, pk_us]
    have e2 : σ 21 l = nI bk := by rw [h3 21 (by decide) (by decide)]; exact e21
    simp (disch := omega) only [b_rRef_take_21, pp_ckE, pp_cl, e1, pp_le, e2, Nat.le_refl, if_true, pp_st, pp_1, nI_add]
    refine pp_some ⟨rfl, ?_, ?_, ?_, ?_⟩
    · simp (disch := omega) only [jj_up_ne]; exact h1
    · simp (disch := omega) only [jj_up_ne]; exact h2
    · simp (disch := omega) only [jj_up_same]; rw [h3 21 (by decide) (by decide)]
    · intro k a1 a2 a3
      show jj_up σ 21 l (nI (bk + 1)) k = τ k
      rw [jj_up_ne a3]; exact h3 k a1 a2
  · intro rec i σ hi ⟨h1, h2, h3⟩ ih
    have e1 : σ 17 l = nI (sz - 1) := by rw [h1, pk_us]
    have hn : ¬ (sz - 1 ≤ i) := by omega
    simp (disch := omega) only [b_rRef_take_21, pp_ckE, pp_cl, e1, pp_le, hn, if_false, pp_st, pp_1, pp_4, pk_mul, nI_add]
    refine ih _ ⟨?_, ?_, ?_⟩
    · simp (disch := omega) only [jj_up_ne]; exact h1
    · simp (disch := omega) only [jj_up_same]; rw [h2]; exact qq_sh_s _ _ _
    · intro k a1 a2
      rw [jj_up_ne a2]; exact h3 k a1 a2
  · refine ⟨?_, ?_, ?_⟩
    · simp only [jj_up_same]
    · rw [qq_sh_0]; simp (disch := omega) only [jj_up_ne]
    · intro k a1 a2
      rw [jj_up_ne a1]

theorem nx_and' (a b : Nat) : nI a &&& nI b = nI (a &&& b) := by
  apply Int32.toBitVec_inj.mp
  show BitVec.ofNat 32 a &&& BitVec.ofNat 32 b = BitVec.ofNat 32 (a &&& b)
  rw [BitVec.ofNat_and]
theorem pp_bit {k p t : Nat} (hk : k ≤ 400) (hp : p < 2) (ht : t < 2) : (nI (4 * k + 2 * p + t) &&& nI 2 = nI 0 ↔ p = 0) ∧ (nI (4 * k + 2 * p + t) &&& nI 1 = nI 0 ↔ t = 0) ∧ nI (4 * k + 2 * p + t) / nI 4 = nI k := by
  refine ⟨?_, ?_, ?_⟩
  · have e : nI (4 * k + 2 * p + t) &&& nI 2 = nI (2 * p) := by
      rw [nx_and']
      congr 1
      have : (4 * k + 2 * p + t) &&& 2 = 2 * p := by
        apply Nat.eq_of_testBit_eq
        intro i
        rw [Nat.testBit_and]
        rcases i with _ | _ | i
        · rcases (show p = 0 ∨ p = 1 by omega) with rfl | rfl <;> simp
        · have h1 : (4 * k + 2 * p + t).testBit 1 = decide (p = 1) := by
            rw [Nat.testBit_succ, Nat.testBit_zero]
            rcases (show p = 0 ∨ p = 1 by omega) with rfl | rfl <;> simp <;> omega
          rw [h1]
          rcases (show p = 0 ∨ p = 1 by omega) with rfl | rfl <;> simp
        · have h2 : (2 : Nat).testBit (i + 1 + 1) = false := by simp [Nat.testBit_succ]
          rw [h2]
          rcases (show p = 0 ∨ p = 1 by omega) with rfl | rfl <;> simp [Nat.testBit_succ]
      exact this
    rw [e, pp_eq (by omega) (by omega)]
    omega
  · have e : nI (4 * k + 2 * p + t) &&& nI 1 = nI t := by
      rw [nx_and']
      congr 1
      rw [Nat.and_one_is_mod]
      omega
    rw [e, pp_eq (by omega) (by omega)]
  · rw [pp_div (by omega) (by omega) (by omega)]
    congr 1
    omega

theorem qq_len_in (x : Int32) (p : Nat) : 1 ≤ qq_len x p ∧ qq_len x p ≤ 3 := by
  unfold qq_len
  split
  · omega
  · split <;> omega
theorem pc_slot {n S SD F : Nat} {σ : jj_S} {C a b c : Nat} (e : σ 1 4 = nI C) : f_Grid_slot n S SD F σ (nI a) (nI b) (nI c) = some (nI (qq_s C a b c), σ) := by
  simp only [f_Grid_slot, e, pp_6, pk_mul, nI_add, qq_s]
theorem pr_length {F : Nat} {τ : jj_S} {k p x : Nat} (hk : k < 400) (hp : p < 2) (hx : x < 2) (e3 : τ 3 k = nI x) : f_rRef_length F τ (nI (2 * k + p)) = some (nI (qq_len (τ 3 k) p), τ) := by
  have h1 : (2 * k + p) / 2 = k := by omega
  have h2 : (2 * k + p) % 2 = p := by omega
  rcases (show p = 0 ∨ p = 1 by omega) with rfl | rfl <;> rcases (show x = 0 ∨ x = 1 by omega) with rfl | rfl <;>
    (simp (disch := omega) only [f_rRef_length, pp_2, pp_0, pp_1, pp_3, pp_nzE, pp_rem, pp_lt, h2, pp_eq, if_true, if_false, Nat.one_ne_zero, eq_self_iff_true]
     simp (disch := omega) only [pp_div, h1, pp_ckE, pp_cl, e3, pp_eq, qq_len, pp_0, if_true, if_false, Nat.one_ne_zero, eq_self_iff_true])
theorem pr_isLast {F : Nat} {τ : jj_S} {k p x j : Nat} (hk : k < 400) (hp : p < 2) (hx : x < 2) (hj : j < qq_len (τ 3 k) p) (e3 : τ 3 k = nI x) : f_rRef_isLast F τ (nI (4 * (2 * k + p) + j)) = some (if j + 1 = qq_len (τ 3 k) p then nI 1 else nI 0, τ) := by
  have hl := qq_len_in (τ 3 k) p
  have h1 : (4 * (2 * k + p) + j) / 4 = 2 * k + p := by omega
  have h2 : (4 * (2 * k + p) + j) % 4 = j := by omega
  have h3 : (j = qq_len (τ 3 k) p - 1) = (j + 1 = qq_len (τ 3 k) p) := propext ⟨by omega, by omega⟩
  simp (disch := omega) only [f_rRef_isLast, pp_4, pp_1, pp_0, pp_nzE, pp_rem, h2]
  simp (disch := omega) only [pp_div, h1, pr_length hk hp hx e3, pp_b2, pp_subN, pp_eq, h3]
  split <;> rfl
theorem pr_target {F : Nat} {τ : jj_S} {k p : Nat} (hk : k < 400) (hp : p < 2) : f_rRef_target F τ (nI (2 * k + p)) = some (if p = 0 then τ 2 k else τ 1 k, τ) := by
  have h1 : (2 * k + p) / 2 = k := by omega
  have h2 : (2 * k + p) % 2 = p := by omega
  rcases (show p = 0 ∨ p = 1 by omega) with rfl | rfl <;>
    (simp (disch := omega) only [f_rRef_target, pp_2, pp_0, pp_nzE, pp_rem, h2, pp_eq, if_true, if_false, Nat.one_ne_zero, eq_self_iff_true]
     simp (disch := omega) only [pp_div, h1, pp_ckE, pp_cl])
theorem pr_channelOf {F : Nat} {τ : jj_S} {k p a b v : Nat} (hk : k < 400) (hp : p < 2) (ha : a < 9) (hb : b < 9) (hv : 1 ≤ v) (hv2 : v ≤ 2) (e1 : τ 1 k = nI a) (e2 : τ 2 k = nI b) (e0 : τ 0 3 = nI v) : f_rRef_channelOf F τ (nI (2 * k + p)) = some (nI ((b + a) % v + p * v), τ) := by
  have h1 : (2 * k + p) / 2 = k := by omega
  have h2 : (2 * k + p) % 2 = p := by omega
  have g1 : nI (2 * k + p) / nI 2 = nI k := by rw [pp_div (by omega) (by omega) (by omega), h1]
  have g2 : nI (2 * k + p) - nI k * nI 2 = nI p := by rw [← g1, pp_rem (by omega) (by omega) (by omega), h2]
  simp (disch := omega) only [f_rRef_channelOf, pp_2, pp_nzE, g1, g2, pp_ckE, pp_cl, e0, e1, e2, nI_add]
  rw [pp_rem (by omega) (by omega) (by omega), pk_mul, nI_add]
theorem pc_channel {n S SD F : Nat} {σ : jj_S} {k p a b v : Nat} (hk : k < 400) (hp : p < 2) (ha : a < 9) (hb : b < 9) (hv : 1 ≤ v) (hv2 : v ≤ 2) (e1 : σ 11 k = nI a) (e2 : σ 12 k = nI b) (e0 : σ 1 3 = nI v) : f_Packets_channel n S SD F σ (nI k) (nI p) = some (nI ((b + a) % v + p * v), σ) := by
  have h3 : (a + b) % v = (b + a) % v := by rw [Nat.add_comm]
  rcases (show p = 0 ∨ p = 1 by omega) with rfl | rfl <;>
    simp (disch := omega) only [f_Packets_channel, pp_0, pp_nzE, pp_ckE, pp_rem, pp_cl, pp_lt, e0, e1, e2, nI_add, h3, pp_eq, if_true, if_false, Nat.one_ne_zero, eq_self_iff_true, Nat.zero_mul, Nat.one_mul, Nat.add_zero]
theorem pc_length {n S SD F : Nat} {σ : jj_S} {k p x : Nat} (hk : k < 400) (hp : p < 2) (hx : x < 2) (e : σ 13 k = nI x) : f_Packets_length n S SD F σ (nI k) (nI p) = some (nI (qq_len (σ 13 k) p), σ) := by
  rcases (show p = 0 ∨ p = 1 by omega) with rfl | rfl <;> rcases (show x = 0 ∨ x = 1 by omega) with rfl | rfl <;>
    simp (disch := omega) only [f_Packets_length, pp_0, pp_1, pp_2, pp_3, pp_ckE, pp_cl, e, pp_eq, qq_len, if_true, if_false, Nat.one_ne_zero, eq_self_iff_true]
theorem pc_flit {n S SD F : Nat} {σ : jj_S} {k p t : Nat} (hp : p < 2) (ht : t < 2) : f_Packets_flit n S SD F σ (nI k) (nI p) (nI t) = some (nI (4 * k + 2 * p + t), σ) := by
  rcases (show p = 0 ∨ p = 1 by omega) with rfl | rfl <;> rcases (show t = 0 ∨ t = 1 by omega) with rfl | rfl <;>
    simp (disch := omega) only [f_Packets_flit, pp_0, pp_1, pp_2, pp_4, pp_eq, if_true, if_false, Nat.one_ne_zero, eq_self_iff_true, nI_add, pk_mul, Nat.mul_zero, Nat.mul_one]
theorem pc_isOfReply {n S SD F : Nat} {σ : jj_S} {k p t : Nat} (hk : k ≤ 400) (hp : p < 2) (ht : t < 2) : f_Packets_isOfReply n S SD F σ (nI (4 * k + 2 * p + t)) = some (nI p, σ) := by
  have h := (pp_bit hk hp ht).1
  simp only [f_Packets_isOfReply, pp_2, pp_0, h]
  rcases (show p = 0 ∨ p = 1 by omega) with rfl | rfl <;> rfl
theorem pc_isLast {n S SD F : Nat} {σ : jj_S} {k p t : Nat} (hk : k ≤ 400) (hp : p < 2) (ht : t < 2) : f_Packets_isLast n S SD F σ (nI (4 * k + 2 * p + t)) = some (nI t, σ) := by
  have h := (pp_bit hk hp ht).2.1
  simp only [f_Packets_isLast, pp_1, pp_0, h]
  rcases (show t = 0 ∨ t = 1 by omega) with rfl | rfl <;> rfl
theorem pc_number {n S SD F : Nat} {σ : jj_S} {k p t : Nat} (hk : k ≤ 400) (hp : p < 2) (ht : t < 2) : f_Packets_number n S SD F σ (nI (4 * k + 2 * p + t)) = some (nI k, σ) := by
  simp (disch := omega) only [f_Packets_number, pp_4, pp_nzE, (pp_bit hk hp ht).2.2]
theorem pc_goal {n S SD F : Nat} {σ : jj_S} {k p t : Nat} (hk : k < 400) (hp : p < 2) (ht : t < 2) : f_Packets_goal n S SD F σ (nI (4 * k + 2 * p + t)) = some (if p = 0 then σ 12 k else σ 11 k, σ) := by
  simp (disch := omega) only [f_Packets_goal, pc_isOfReply (Nat.le_of_lt hk) hp ht, pc_number (Nat.le_of_lt hk) hp ht, pp_b2, pp_0, pp_eq, pp_ckE, pp_cl]
  rcases (show p = 0 ∨ p = 1 by omega) with rfl | rfl <;> rfl
