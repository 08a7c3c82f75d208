/-! THE PART SENDING: one node's steps -/
theorem qq_f0 (w h n : Nat) : qq_f w h n 0 = (n, 5) := by unfold qq_f; rw [if_pos rfl]
theorem qq_f5 (w h n : Nat) : qq_f w h n 5 = (n, 0) := by unfold qq_f; simp
theorem qq_l0 (n c : Nat) : qq_l n 0 c = 20 * n + c := by unfold qq_l; rw [if_pos (by decide)]; omega
theorem pr_shift {F : Nat} {τ : jj_S} {n ct : Nat} {x2 x3 : Int32} (hF : 300 ≤ F) (hn : n < 9) (hct : ct ≤ 3) (e11 : τ 11 n = nI ct) : pp_S (jj_lp4 (b_rRef_sendAt_210 F (fun σ12 _ _ _ _ => some σ12)) F τ (nI n) x2 x3 (nI 0)) (fun τ' => τ' 12 = qq_sg (τ 12) (4 * n) ct ∧ ∀ q, q ≠ 12 → τ' q = τ q) := by
  refine pp_lp4 (e := ct) (I := fun i τ' => τ' 12 = qq_sg (τ 12) (4 * n) i ∧ ∀ q, q ≠ 12 → τ' q = τ q) ?_ ?_ F 0 _ (by omega) (by omega) ⟨by rw [qq_sg_0], fun _ _ => rfl⟩
  · intro rec ρ ⟨a1, a2⟩
    have t1 : ρ 11 n = nI ct := by rw [a2 11 (by decide)]; exact e11
    simp (disch := omega) only [b_rRef_sendAt_210, pp_ckE, pp_cl, t1, pp_le, Nat.le_refl, if_true]
    exact pp_some ⟨a1, a2⟩
  · intro rec i ρ hi ⟨a1, a2⟩ ih
    have t1 : ρ 11 n = nI ct := by rw [a2 11 (by decide)]; exact e11
    have hn2 : ¬ (ct ≤ i) := by omega
    simp (disch := omega) only [b_rRef_sendAt_210, pp_ckE, pp_cl, t1, pp_le, hn2, if_false, pp_st, pp_1, pp_4, pk_mul, nI_add]
    refine ih _ ⟨?_, fun q q1 => by rw [jj_up_ne q1]; exact a2 q q1⟩
    simp (disch := omega) only [jj_up_same]
    rw [a1]
    exact qq_sg_s _ _ _
/-- a row with some cells taken from another state -/
def qq_mx (A B G : Nat) (σ ρ : jj_S) : jj_S := fun q => if q = A ∨ q = B ∨ q = G then ρ q else σ q
theorem qq_mx_in {A B G q : Nat} {σ ρ : jj_S} (h : q = A ∨ q = B ∨ q = G) : qq_mx A B G σ ρ q = ρ q := by unfold qq_mx; rw [if_pos h]
theorem qq_mx_ne {A B G q : Nat} {σ ρ : jj_S} (h1 : q ≠ A) (h2 : q ≠ B) (h3 : q ≠ G) : qq_mx A B G σ ρ q = σ q := by unfold qq_mx; rw [if_neg (by omega)]
theorem qq_upcg {A B G k i : Nat} {x : Int32} {a b : jj_S} (h : ∀ q, q ≠ A → q ≠ B → q ≠ G → a q = b q) (hk : k ≠ A ∧ k ≠ B ∧ k ≠ G) : ∀ q, q ≠ A → q ≠ B → q ≠ G → jj_up a k i x q = jj_up b k i x q := by
  intro q h1 h2 h3
  by_cases e : q = k
  · subst e
    rw [jj_up_same, jj_up_same, h q h1 h2 h3]
  · rw [jj_up_ne e, jj_up_ne e, h q h1 h2 h3]
theorem qq_mx3 {A B G k1 k2 k3 i1 i2 i3 : Nat} {x1 x2 x3 : Int32} {σ σi ρ : jj_S} (hs : ∀ q, q ≠ A → q ≠ B → q ≠ G → σi q = σ q) (hr : ∀ q, q ≠ A → q ≠ B → q ≠ G → ρ q = jj_up (jj_up (jj_up σi k1 i1 x1) k2 i2 x2) k3 i3 x3 q) (h1 : k1 ≠ A ∧ k1 ≠ B ∧ k1 ≠ G) (h2 : k2 ≠ A ∧ k2 ≠ B ∧ k2 ≠ G) (h3 : k3 ≠ A ∧ k3 ≠ B ∧ k3 ≠ G) : jj_up (jj_up (jj_up (qq_mx A B G σ ρ) k1 i1 x1) k2 i2 x2) k3 i3 x3 = ρ := by
  funext q
  by_cases hq : q = A ∨ q = B ∨ q = G
  · rw [jj_up_ne (by omega), jj_up_ne (by omega), jj_up_ne (by omega), qq_mx_in hq]
  · have a1 : q ≠ A := fun e => hq (Or.inl e)
    have a2 : q ≠ B := fun e => hq (Or.inr (Or.inl e))
    have a3 : q ≠ G := fun e => hq (Or.inr (Or.inr e))
    rw [hr q a1 a2 a3]
    exact qq_upcg (qq_upcg (qq_upcg (fun q b1 b2 b3 => by rw [qq_mx_ne b1 b2 b3, hs q b1 b2 b3]) h1) h2) h3 q a1 a2 a3
theorem qq_upcm {τ : jj_S} {k k' i j : Nat} {x y : Int32} (h : k ≠ k') : jj_up (jj_up τ k i x) k' j y = jj_up (jj_up τ k' j y) k i x := by
  funext q
  by_cases e1 : q = k
  · subst e1
    rw [jj_up_ne h, jj_up_same, jj_up_same, jj_up_ne h]
  · by_cases e2 : q = k'
    · subst e2
      rw [jj_up_same, jj_up_ne e1, jj_up_ne e1, jj_up_same]
    · rw [jj_up_ne e2, jj_up_ne e1, jj_up_ne e1, jj_up_ne e2]
theorem qq_incq {w h d v made cpl n ct g k : Nat} {σ τ : jj_S} (hD : qq_D w h d v) (hR : qq_Rel w h d v made cpl σ τ) (hn : n < w * h) (h1 : 1 ≤ ct) (hct : ct ≤ 4) (e1 : τ 11 n = nI ct) (e2 : τ 12 (4 * n) = nI (2 * k + 0)) (hk : k < 400) (hg : g + 1 < qq_len (τ 3 k) 0) : qq_Rel w h d v made cpl (jj_up σ 23 n (nI (g + 1))) (jj_up τ 13 n (nI (g + 1))) := by
  obtain ⟨hZ, hM, hP, hW, hQ, hL, hRt, hE, hU, hV⟩ := hR
  have hm := hP.1.1
  refine ⟨?_, ?_, ?_, ?_, ?_, ?_, ?_, ?_, ?_, ?_⟩
  · unfold qq_Z at hZ ⊢
    simp (disch := omega) only [jj_up_ne]; exact hZ
  · unfold qq_M at hM ⊢
    simp (disch := omega) only [jj_up_ne]; exact hM
  · unfold qq_PT at hP ⊢
    simp (disch := omega) only [jj_up_ne]; exact hP
  · unfold qq_WT at hW ⊢
    simp (disch := omega) only [jj_up_ne]; exact hW
  · unfold qq_QT at hQ ⊢
    simp (disch := omega) only [jj_up_ne, jj_up_same]
    refine ⟨fun n' hn' => ?_, hQ.2⟩
    obtain ⟨ct', g', c1, c2, c3, c4, c5, c6, c7⟩ := hQ.1 n' hn'
    by_cases hnn : n' = n
    · subst hnn
      have ec : ct' = ct := by rw [e1, pp_eq (by omega) (by omega)] at c3; exact c3.symm
      subst ec
      refine ⟨ct', g + 1, c1, c2, c3, pk_us, pk_us, fun h0 => absurd h0 (by omega), fun i hi => ?_⟩
      obtain ⟨k2, y1, y2, y3, y4⟩ := c7 i hi
      refine ⟨k2, y1, y2, y3, fun h0 => ?_⟩
      subst h0
      rw [Nat.add_zero, e2, pp_eq (by omega) (by omega)] at y3
      obtain rfl : k = k2 := by omega
      exact hg
    · exact ⟨ct', g', c1, c2, c3, by rw [pk_un hnn]; exact c4, by rw [pk_un hnn]; exact c5, c6, c7⟩
  · unfold qq_LT at hL ⊢
    simp (disch := omega) only [jj_up_ne]; exact hL
  · unfold qq_RT at hRt ⊢
    simp (disch := omega) only [jj_up_ne]; exact hRt
  · simp (disch := omega) only [jj_up_ne]; exact hE
  · unfold qq_U qq_KT at hU ⊢
    simp (disch := omega) only [jj_up_ne]; exact hU
  · unfold qq_V qq_KT at hV ⊢
    simp (disch := omega) only [jj_up_ne]; exact hV
theorem pc_sf0q {N S SD F n : Nat} {σ : jj_S} (hn : n < N) (hN : N ≤ 9) (e : σ 22 n = nI 0) : f_Ifs_sendFirstq N S SD F σ (nI n) = some (nI 0, σ) := by
  simp (disch := omega) only [f_Ifs_sendFirstq, pp_ckE, pp_cl, e, pp_0, if_true]
theorem pc_sf1q {N S SD F n ct k a b v C : Nat} {σ : jj_S} (hn : n < N) (hN : N ≤ 9) (h1 : 1 ≤ ct) (hct : ct ≤ 4) (hk : k < 400) (ha : a < 9) (hb : b < 9) (hv : 1 ≤ v) (hv2 : v ≤ 2) (hS : S ≤ 216) (hf : qq_s C n 5 ((b + a) % v + 0 * v) < S) (e : σ 22 n = nI ct) (eA : σ 21 (4 * n) = nI k) (e0 : σ 20 0 = nI 0) (e1 : σ 20 1 = nI 4) (c1 : σ 11 k = nI a) (c2 : σ 12 k = nI b) (c3 : σ 1 3 = nI v) (c4 : σ 1 4 = nI C) : f_Ifs_sendFirstq N S SD F σ (nI n) = (if σ 7 (qq_s C n 5 ((b + a) % v + 0 * v)) = nI 0 then some (nI 0, σ) else jj_st (jj_up σ 23 n (σ 23 n + nI 1)) (fun σ7 => jj_b2 (f_Packets_length N S SD F σ7 (nI k) (σ7 20 0)) (fun r9 σ8 => if σ7 23 n = r9 then (jj_b2 (f_Packets_flit N S SD F σ8 (nI k) (σ8 20 0) (nI 1)) (fun r14 σ13 => jj_b1 (f_Links_send N S SD F σ13 (nI (qq_s C n 5 ((b + a) % v + 0 * v))) r14) (fun σ15 => jj_b1 (f_Queues_removeFirstq N S SD F σ15 (nI n)) (fun σ16 => some (nI 1, σ16))))) else (jj_b2 (f_Packets_flit N S SD F σ8 (nI k) (σ8 20 0) (nI 0)) (fun r11 σ10 => jj_b1 (f_Links_send N S SD F σ10 (nI (qq_s C n 5 ((b + a) % v + 0 * v))) r11) (fun σ12 => some (nI 1, σ12))))))) := by
  have em : n * 4 = 4 * n := Nat.mul_comm _ _
  have n0 : ¬ ct = 0 := by omega
  have FN : f_Queues_firstNumberq N S SD F σ (nI n) = some (nI k, σ) := by
    simp (disch := omega) only [f_Queues_firstNumberq, e1, pk_mul, em, pp_ckE, pp_cl, eA]
  have CH := pc_channel (n := N) (S := S) (SD := SD) (F := F) (σ := σ) (k := k) (p := 0) hk (by decide) ha hb hv hv2 c1 c2 c3
  have SL := pc_slot (n := N) (S := S) (SD := SD) (F := F) (σ := σ) (a := n) (b := 5) (c := (b + a) % v + 0 * v) c4
  generalize (b + a) % v + 0 * v = ch at *
  generalize qq_s C n 5 ch = f at *
  clear em
  unfold f_Ifs_sendFirstq
  rw [pp_ckE (by omega) (by omega), pp_cl (by omega), e, if_neg (show ¬ nI ct = (0 : Int32) by rw [pp_0, pp_eq (by omega) (by omega)]; exact n0), FN, pp_b2]
  show jj_b2 (f_Packets_channel N S SD F σ (nI k) (σ 20 0)) _ = _
  rw [e0, CH, pp_b2]
  show jj_b2 (f_Grid_slot N S SD F σ (nI n) (nI 5) (nI ch)) _ = _
  rw [SL, pp_b2]
  show jj_ck S (nI f) (if σ 7 (nI f).toNatClampNeg = nI 0 then some (nI 0, σ) else _) = _
  rw [pp_ckE hf (by omega), pp_cl (by omega)]
  by_cases h0 : σ 7 f = nI 0
  · rw [if_pos h0, if_pos h0]
  · rw [if_neg h0, if_neg h0, pp_ckE (by omega) (by omega), pp_ckE (by omega) (by omega), pp_st, pp_st, pp_ckE (by omega) (by omega)]
    rfl
theorem pr_sf0q {F n : Nat} {τ : jj_S} (hn : n < 9) (e : τ 11 n = nI 0) : skA F (nI n) τ = some τ := by
  simp (disch := omega) only [skA, pp_ckE, pp_cl, e, pp_0, pp_le, Nat.le_refl, if_true]
theorem pr_sf1q {F n ct k a b v : Nat} {τ : jj_S} (hn : n < 9) (h1 : 1 ≤ ct) (hct : ct ≤ 4) (hk : k < 400) (ha : a < 9) (hb : b < 9) (hv : 1 ≤ v) (hv2 : v ≤ 2) (hch : (b + a) % v + 0 * v < 4) (e : τ 11 n = nI ct) (eA : τ 12 (4 * n) = nI (2 * k + 0)) (c1 : τ 1 k = nI a) (c2 : τ 2 k = nI b) (c3 : τ 0 3 = nI v) : skA F (nI n) τ = (if τ 20 (20 * n + ((b + a) % v + 0 * v)) ≤ nI 0 then some τ else jj_b1 (f_rRef_send F τ (nI (20 * n + ((b + a) % v + 0 * v))) (nI (4 * (2 * k + 0)) + τ 13 n)) (fun σ5 => jj_st (jj_up σ5 13 n (σ5 13 n + nI 1)) (fun σ6 => jj_b2 (f_rRef_length F σ6 (nI (2 * k + 0))) (fun r8 σ7 => if σ6 13 n = r8 then (jj_lp4 (b_rRef_sendAt_210 F (fun σ12 _ _ _ _ => some σ12)) F (jj_up (jj_up σ7 13 n (nI 0)) 11 n (σ7 11 n - nI 1)) (nI n) (nI (2 * k + 0)) (nI (20 * n + ((b + a) % v + 0 * v))) (nI 0)) else some σ7)))) := by
  have n0' : ¬ ct ≤ 0 := by omega
  have RC := pr_channelOf (F := F) (τ := τ) (k := k) (p := 0) hk (by decide) ha hb hv hv2 c1 c2 c3
  generalize (b + a) % v + 0 * v = ch at *
  simp (disch := omega) only [skA, pp_ckE, pp_cl, e, pp_0, pp_1, pp_le, n0', if_false, pp_4, pp_2, pp_20, pk_mul, nI_add, pp_lt, eA, RC, pp_b2, pp_st, jj_up_ne]
theorem qq_incp {w h d v made cpl n ct g k : Nat} {σ τ : jj_S} (hD : qq_D w h d v) (hR : qq_Rel w h d v made cpl σ τ) (hn : n < w * h) (h1 : 1 ≤ ct) (hct : ct ≤ 2) (e1 : τ 14 n = nI ct) (e2 : τ 15 (2 * n) = nI (2 * k + 1)) (hk : k < 400) (hg : g + 1 < qq_len (τ 3 k) 1) : qq_Rel w h d v made cpl (jj_up σ 27 n (nI (g + 1))) (jj_up τ 16 n (nI (g + 1))) := by
  obtain ⟨hZ, hM, hP, hW, hQ, hL, hRt, hE, hU, hV⟩ := hR
  have hm := hP.1.1
  refine ⟨?_, ?_, ?_, ?_, ?_, ?_, ?_, ?_, ?_, ?_⟩
  · unfold qq_Z at hZ ⊢
    simp (disch := omega) only [jj_up_ne]; exact hZ
  · unfold qq_M at hM ⊢
    simp (disch := omega) only [jj_up_ne]; exact hM
  · unfold qq_PT at hP ⊢
    simp (disch := omega) only [jj_up_ne]; exact hP
  · unfold qq_WT at hW ⊢
    simp (disch := omega) only [jj_up_ne]; exact hW
  · unfold qq_QT at hQ ⊢
    simp (disch := omega) only [jj_up_ne, jj_up_same]
    refine ⟨hQ.1, fun n' hn' => ?_⟩
    obtain ⟨ct', g', c1, c2, c3, c4, c5, c6, c7⟩ := hQ.2 n' hn'
    by_cases hnn : n' = n
    · subst hnn
      have ec : ct' = ct := by rw [e1, pp_eq (by omega) (by omega)] at c3; exact c3.symm
      subst ec
      refine ⟨ct', g + 1, c1, c2, c3, pk_us, pk_us, fun h0 => absurd h0 (by omega), fun i hi => ?_⟩
      obtain ⟨k2, y1, y2, y3, y4⟩ := c7 i hi
      refine ⟨k2, y1, y2, y3, fun h0 => ?_⟩
      subst h0
      rw [Nat.add_zero, e2, pp_eq (by omega) (by omega)] at y3
      obtain rfl : k = k2 := by omega
      exact hg
    · exact ⟨ct', g', c1, c2, c3, by rw [pk_un hnn]; exact c4, by rw [pk_un hnn]; exact c5, c6, c7⟩
  · unfold qq_LT at hL ⊢
    simp (disch := omega) only [jj_up_ne]; exact hL
  · unfold qq_RT at hRt ⊢
    simp (disch := omega) only [jj_up_ne]; exact hRt
  · simp (disch := omega) only [jj_up_ne]; exact hE
  · unfold qq_U qq_KT at hU ⊢
    simp (disch := omega) only [jj_up_ne]; exact hU
  · unfold qq_V qq_KT at hV ⊢
    simp (disch := omega) only [jj_up_ne]; exact hV
theorem pc_sf0p {N S SD F n : Nat} {σ : jj_S} (hn : n < N) (hN : N ≤ 9) (e : σ 26 n = nI 0) : f_Ifs_sendFirstp N S SD F σ (nI n) = some (nI 0, σ) := by
  simp (disch := omega) only [f_Ifs_sendFirstp, pp_ckE, pp_cl, e, pp_0, if_true]
theorem pc_sf1p {N S SD F n ct k a b v C : Nat} {σ : jj_S} (hn : n < N) (hN : N ≤ 9) (h1 : 1 ≤ ct) (hct : ct ≤ 2) (hk : k < 400) (ha : a < 9) (hb : b < 9) (hv : 1 ≤ v) (hv2 : v ≤ 2) (hS : S ≤ 216) (hf : qq_s C n 5 ((b + a) % v + 1 * v) < S) (e : σ 26 n = nI ct) (eA : σ 25 (2 * n) = nI k) (e0 : σ 24 0 = nI 1) (e1 : σ 24 1 = nI 2) (c1 : σ 11 k = nI a) (c2 : σ 12 k = nI b) (c3 : σ 1 3 = nI v) (c4 : σ 1 4 = nI C) : f_Ifs_sendFirstp N S SD F σ (nI n) = (if σ 7 (qq_s C n 5 ((b + a) % v + 1 * v)) = nI 0 then some (nI 0, σ) else jj_st (jj_up σ 27 n (σ 27 n + nI 1)) (fun σ7 => jj_b2 (f_Packets_length N S SD F σ7 (nI k) (σ7 24 0)) (fun r9 σ8 => if σ7 27 n = r9 then (jj_b2 (f_Packets_flit N S SD F σ8 (nI k) (σ8 24 0) (nI 1)) (fun r14 σ13 => jj_b1 (f_Links_send N S SD F σ13 (nI (qq_s C n 5 ((b + a) % v + 1 * v))) r14) (fun σ15 => jj_b1 (f_Queues_removeFirstp N S SD F σ15 (nI n)) (fun σ16 => some (nI 1, σ16))))) else (jj_b2 (f_Packets_flit N S SD F σ8 (nI k) (σ8 24 0) (nI 0)) (fun r11 σ10 => jj_b1 (f_Links_send N S SD F σ10 (nI (qq_s C n 5 ((b + a) % v + 1 * v))) r11) (fun σ12 => some (nI 1, σ12))))))) := by
  have em : n * 2 = 2 * n := Nat.mul_comm _ _
  have n0 : ¬ ct = 0 := by omega
  have FN : f_Queues_firstNumberp N S SD F σ (nI n) = some (nI k, σ) := by
    simp (disch := omega) only [f_Queues_firstNumberp, e1, pk_mul, em, pp_ckE, pp_cl, eA]
  have CH := pc_channel (n := N) (S := S) (SD := SD) (F := F) (σ := σ) (k := k) (p := 1) hk (by decide) ha hb hv hv2 c1 c2 c3
  have SL := pc_slot (n := N) (S := S) (SD := SD) (F := F) (σ := σ) (a := n) (b := 5) (c := (b + a) % v + 1 * v) c4
  generalize (b + a) % v + 1 * v = ch at *
  generalize qq_s C n 5 ch = f at *
  clear em
  unfold f_Ifs_sendFirstp
  rw [pp_ckE (by omega) (by omega), pp_cl (by omega), e, if_neg (show ¬ nI ct = (0 : Int32) by rw [pp_0, pp_eq (by omega) (by omega)]; exact n0), FN, pp_b2]
  show jj_b2 (f_Packets_channel N S SD F σ (nI k) (σ 24 0)) _ = _
  rw [e0, CH, pp_b2]
  show jj_b2 (f_Grid_slot N S SD F σ (nI n) (nI 5) (nI ch)) _ = _
  rw [SL, pp_b2]
  show jj_ck S (nI f) (if σ 7 (nI f).toNatClampNeg = nI 0 then some (nI 0, σ) else _) = _
  rw [pp_ckE hf (by omega), pp_cl (by omega)]
  by_cases h0 : σ 7 f = nI 0
  · rw [if_pos h0, if_pos h0]
  · rw [if_neg h0, if_neg h0, pp_ckE (by omega) (by omega), pp_ckE (by omega) (by omega), pp_st, pp_st, pp_ckE (by omega) (by omega)]
    rfl
theorem pr_sf0p {F n : Nat} {τ : jj_S} (hn : n < 9) (e : τ 14 n = nI 0) : f_rRef_sendAt F τ (nI n) = skA F (nI n) τ := by
  rw [sendAt_eq]
  simp (disch := omega) only [pp_ckE, pp_cl, e, pp_0, pp_le, Nat.le_refl, if_true]
theorem pr_sf1p {F n ct k a b v : Nat} {τ : jj_S} (hn : n < 9) (h1 : 1 ≤ ct) (hct : ct ≤ 2) (hk : k < 400) (ha : a < 9) (hb : b < 9) (hv : 1 ≤ v) (hv2 : v ≤ 2) (hch : (b + a) % v + 1 * v < 4) (e : τ 14 n = nI ct) (eA : τ 15 (2 * n) = nI (2 * k + 1)) (c1 : τ 1 k = nI a) (c2 : τ 2 k = nI b) (c3 : τ 0 3 = nI v) : f_rRef_sendAt F τ (nI n) = (if τ 20 (20 * n + ((b + a) % v + 1 * v)) ≤ nI 0 then skA F (nI n) τ else jj_b1 (f_rRef_send F τ (nI (20 * n + ((b + a) % v + 1 * v))) (nI (4 * (2 * k + 1)) + τ 16 n)) (fun σ5 => jj_st (jj_up σ5 16 n (σ5 16 n + nI 1)) (fun σ6 => jj_b2 (f_rRef_length F σ6 (nI (2 * k + 1))) (fun r8 σ7 => if σ6 16 n = r8 then (some (jj_up (jj_up (jj_up σ7 16 n (nI 0)) 14 n (σ7 14 n - nI 1)) 15 (2 * n) (σ7 15 (2 * n + 1)))) else some σ7)))) := by
  have n0' : ¬ ct ≤ 0 := by omega
  have RC := pr_channelOf (F := F) (τ := τ) (k := k) (p := 1) hk (by decide) ha hb hv hv2 c1 c2 c3
  generalize (b + a) % v + 1 * v = ch at *
  rw [sendAt_eq]
  simp (disch := omega) only [pp_ckE, pp_cl, e, pp_0, pp_1, pp_le, n0', if_false, pp_4, pp_2, pp_20, pk_mul, nI_add, pp_lt, eA, RC, pp_b2, pp_st, jj_up_ne]
