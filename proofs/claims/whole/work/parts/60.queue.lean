/-! SENDING: queues -/
/-- a row from b on, moved by one place, m times -/
def qq_sg (r : Nat → Int32) (b m : Nat) : Nat → Int32 := fun a => if b ≤ a ∧ a < b + m then r (a + 1) else r a
theorem qq_sg_0 (r : Nat → Int32) (b : Nat) : qq_sg r b 0 = r := by
  funext a; unfold qq_sg; rw [if_neg (by omega)]
theorem qq_sg_s (r : Nat → Int32) (b m : Nat) : upd (qq_sg r b m) (b + m) (qq_sg r b m (b + m + 1)) = qq_sg r b (m + 1) := by
  funext a
  unfold upd
  by_cases h : a = b + m
  · subst h
    rw [if_pos rfl]
    unfold qq_sg
    rw [if_neg (by omega), if_pos (by omega)]
  · rw [if_neg h]
    unfold qq_sg
    by_cases h2 : b ≤ a ∧ a < b + m
    · rw [if_pos h2, if_pos (by omega)]
    · rw [if_neg h2, if_neg (by omega)]
theorem qq_uu (f : Nat → Int32) (k : Nat) (x y : Int32) : upd (upd f k x) k y = upd f k y := by
  funext a; unfold upd; split <;> rfl
/-- a flit's number tells all of it -/
theorem qq_enc {k p j k' p' j' : Nat} (hk : k < 400) (hk' : k' < 400) (hp : p < 2) (hp' : p' < 2) (hj : j < 4) (hj' : j' < 4) (e : nI (4 * (2 * k + p) + j) = nI (4 * (2 * k' + p') + j')) : k = k' ∧ p = p' ∧ j = j' := by
  rw [pp_eq (by omega) (by omega)] at e
  omega
theorem pc_removeq {N S SD F : Nat} {σ : jj_S} {n ct : Nat} (hF : 300 ≤ F) (hn : n < N) (hN : N ≤ 9) (h1 : 1 ≤ ct) (hct : ct ≤ 4) (eB : σ 22 n = nI ct) (eQ : σ 20 1 = nI 4) : pp_S (f_Queues_removeFirstq N S SD F σ (nI n)) (fun σ' => σ' 21 = qq_sg (σ 21) (4 * n) (ct - 1) ∧ σ' 22 = upd (σ 22) n (nI (ct - 1)) ∧ σ' 23 = upd (σ 23) n (nI 0) ∧ ∀ q, q ≠ 21 → q ≠ 22 → q ≠ 23 → σ' q = σ q) := by
  have em : n * 4 = 4 * n := Nat.mul_comm _ _
  simp only [f_Queues_removeFirstq, pp_lt, eQ, pk_mul, em, pp_1]
  refine pp_lp3 (e := ct) (I := fun i σ' => 1 ≤ i ∧ σ' 21 = qq_sg (σ 21) (4 * n) (i - 1) ∧ ∀ q, q ≠ 21 → σ' q = σ q) ?_ ?_ F 1 _ (by omega) (by omega) ?_
  · intro rec ρ ⟨h0, a1, a2⟩
    have t1 : ρ 22 n = nI ct := by rw [a2 22 (by decide)]; exact eB
    simp (disch := omega) only [b_Queues_removeFirstq_9, pp_ckE, pp_cl, t1, pp_le, Nat.le_refl, if_true, pp_st, pp_1, pp_0, pp_subN]
    refine pp_some ⟨?_, ?_, ?_, ?_⟩
    · simp (disch := omega) only [jj_up_ne]; exact a1
    · simp (disch := omega) only [jj_up_ne, jj_up_same]; rw [a2 22 (by decide)]
    · simp (disch := omega) only [jj_up_ne, jj_up_same]; rw [a2 23 (by decide)]
    · intro q q1 q2 q3
      rw [jj_up_ne q3, jj_up_ne q2]; exact a2 q q1
  · intro rec i ρ hi ⟨h0, a1, a2⟩ ih
    have t1 : ρ 22 n = nI ct := by rw [a2 22 (by decide)]; exact eB
    have hn2 : ¬ (ct ≤ i) := by omega
    · simp (disch := omega) only [b_Queues_removeFirstq_9, pp_ckE, pp_cl, t1, pp_le, hn2, if_false, pp_st, pp_1, nI_add, pp_subN]
      refine ih _ ⟨by omega, ?_, fun q q1 => by rw [jj_up_ne q1]; exact a2 q q1⟩
      simp (disch := omega) only [jj_up_same]
      have e1 : 4 * n + i - 1 = 4 * n + (i - 1) := by omega
      have e2 : 4 * n + i = 4 * n + (i - 1) + 1 := by omega
      have e3 : i + 1 - 1 = i - 1 + 1 := by omega
      rw [a1, e1, e2, e3]
      exact qq_sg_s _ _ _
  · exact ⟨by omega, by rw [show 1 - 1 = 0 from rfl, qq_sg_0], fun q _ => rfl⟩
set_option maxHeartbeats 1000000 in
theorem qq_remq {w h d v made cpl n ct k : Nat} {σ τ σ' τ' : jj_S} (hD : qq_D w h d v) (hR : qq_Rel w h d v made cpl σ τ) (hn : n < w * h) (h1 : 1 ≤ ct) (hct : ct ≤ 4) (e1 : τ 11 n = nI ct) (hk : k < made) (e2 : τ 12 (4 * n) = nI (2 * k + 0))
    (a1 : ∀ i, i < ct - 1 → σ' 21 (4 * n + i) = σ 21 (4 * n + i + 1)) (a1' : ∀ n' i, n' ≠ n → i < 4 → σ' 21 (4 * n' + i) = σ 21 (4 * n' + i)) (a2 : σ' 22 = upd (σ 22) n (nI (ct - 1))) (a3 : σ' 23 = upd (σ 23) n (nI 0)) (sf : ∀ q, q ≠ 21 → q ≠ 22 → q ≠ 23 → σ' q = σ q)
    (b1 : ∀ i, i < ct - 1 → τ' 12 (4 * n + i) = τ 12 (4 * n + i + 1)) (b1' : ∀ n' i, n' ≠ n → i < 4 → τ' 12 (4 * n' + i) = τ 12 (4 * n' + i)) (b2 : τ' 11 = upd (τ 11) n (nI (ct - 1))) (b3 : τ' 13 = upd (τ 13) n (nI 0)) (tf : ∀ q, q ≠ 12 → q ≠ 11 → q ≠ 13 → τ' q = τ q) :
    qq_Rel w h d v made cpl σ' τ' ∧ σ 15 k = (if 0 = 0 then τ 5 k else τ 6 k) ∧ ∀ t a i p', ¬ qq_KT cpl τ' t a i k p' := by
  obtain ⟨hZ, hM, hP, hW, hQ, hL, hRt, hE, hU, hV⟩ := hR
  have h9 := qq_n9 hD
  have hm := hP.1.1
  have hKs : ∀ {t a i k1 p1 : Nat}, qq_KT cpl τ' t a i k1 p1 → qq_KT cpl τ t a (if t = 0 ∧ a = n then i + 1 else i) k1 p1 := by
    intro t a i k1 p1 hK
    obtain ⟨hk1, hK⟩ := hK
    simp (disch := omega) only [tf, b2] at hK
    rcases hK with hK | hK | hK | hK | hK
    · obtain ⟨rfl, hp, ha, ⟨c1, x1, x2, x3⟩, e⟩ := hK
      by_cases han : a = n
      · subst han
        rw [pk_us, pp_eq (by omega) (by omega)] at x1
        rw [if_pos ⟨rfl, rfl⟩]
        rw [b1 i (by omega)] at e
        exact ⟨hk1, Or.inl ⟨rfl, hp, ha, ⟨ct, e1, hct, (show i + 1 < ct by omega)⟩, e⟩⟩
      · rw [pk_un han] at x1
        rw [if_neg (fun q => han q.2)]
        rw [b1' a i han (by omega)] at e
        exact ⟨hk1, Or.inl ⟨rfl, hp, ha, ⟨c1, x1, x2, x3⟩, e⟩⟩
    · obtain ⟨rfl, hp, ha, ⟨c1, x1, x2, x3⟩, e⟩ := hK
      rw [if_neg (fun q => absurd q.1 (by decide))]
      exact ⟨hk1, Or.inr (Or.inl ⟨rfl, hp, ha, ⟨c1, x1, x2, x3⟩, e⟩)⟩
    · obtain ⟨rfl, hK⟩ := hK
      rw [if_neg (fun q => absurd q.1 (by decide))]
      exact ⟨hk1, Or.inr (Or.inr (Or.inl ⟨rfl, hK⟩))⟩
    · obtain ⟨rfl, hK⟩ := hK
      rw [if_neg (fun q => absurd q.1 (by decide))]
      exact ⟨hk1, Or.inr (Or.inr (Or.inr (Or.inl ⟨rfl, hK⟩)))⟩
    · obtain ⟨rfl, hK⟩ := hK
      rw [if_neg (fun q => absurd q.1 (by decide))]
      exact ⟨hk1, Or.inr (Or.inr (Or.inr (Or.inr ⟨rfl, hK⟩)))⟩
  have h00 : qq_KT cpl τ 0 n 0 k 0 := ⟨by omega, Or.inl ⟨rfl, rfl, by omega, ⟨ct, e1, by omega, (show 0 < ct by omega)⟩, by rw [Nat.add_zero]; exact e2⟩⟩
  refine ⟨⟨?_, ?_, ?_, ?_, ?_, ?_, ?_, ?_, ?_, ?_⟩, (hV _ _ _ _ _ h00).2, fun t a i p' q => ?_⟩
  · unfold qq_Z at hZ ⊢
    simp (disch := omega) only [sf, tf]; exact hZ
  · unfold qq_M at hM ⊢
    simp (disch := omega) only [sf, tf]; exact hM
  · unfold qq_PT at hP ⊢
    simp (disch := omega) only [sf, tf]; exact hP
  · unfold qq_WT at hW ⊢
    simp (disch := omega) only [sf, tf]; exact hW
  · unfold qq_QT at hQ ⊢
    simp (disch := omega) only [sf, tf, a2, a3, b2, b3]
    refine ⟨fun n' hn' => ?_, hQ.2⟩
    obtain ⟨ct', g, c1, c2, c3, c4, c5, c6, c7⟩ := hQ.1 n' hn'
    by_cases hnn : n' = n
    · subst hnn
      have ec : ct' = ct := by rw [e1, pp_eq (by omega) (by omega)] at c3; exact c3.symm
      subst ec
      refine ⟨ct' - 1, 0, by omega, pk_us, pk_us, pk_us, pk_us, fun _ => rfl, fun i hi => ?_⟩
      rw [a1 i hi, b1 i hi]
      obtain ⟨k2, y1, y2, y3, y4⟩ := c7 (i + 1) (by omega)
      have := qq_len_in (τ 3 k2) 0
      exact ⟨k2, y1, y2, y3, fun _ => by omega⟩
    · refine ⟨ct', g, c1, by rw [pk_un hnn]; exact c2, by rw [pk_un hnn]; exact c3, by rw [pk_un hnn]; exact c4, by rw [pk_un hnn]; exact c5, c6, fun i hi => ?_⟩
      rw [a1' n' i hnn (by omega), b1' n' i hnn (by omega)]
      exact c7 i hi
  · unfold qq_LT at hL ⊢
    simp (disch := omega) only [sf, tf]; exact hL
  · unfold qq_RT at hRt ⊢
    simp (disch := omega) only [sf, tf]; exact hRt
  · simp (disch := omega) only [tf]; exact hE
  · intro t a i t' a' i' k1 p1 p1' q q'
    obtain ⟨z1, z2, z3⟩ := hU _ _ _ _ _ _ _ _ _ (hKs q) (hKs q')
    subst z1; subst z2
    refine ⟨rfl, rfl, ?_⟩
    split at z3 <;> omega
  · intro t a i k1 p1 q
    simp (disch := omega) only [sf, tf]
    exact hV _ _ _ _ _ (hKs q)
  · obtain ⟨z1, z2, z3⟩ := hU _ _ _ _ _ _ _ _ _ h00 (hKs q)
    rw [← z1, ← z2, if_pos ⟨rfl, rfl⟩] at z3
    omega
theorem pc_removep {N S SD F : Nat} {σ : jj_S} {n ct : Nat} (hF : 300 ≤ F) (hn : n < N) (hN : N ≤ 9) (h1 : 1 ≤ ct) (hct : ct ≤ 2) (eB : σ 26 n = nI ct) (eQ : σ 24 1 = nI 2) : pp_S (f_Queues_removeFirstp N S SD F σ (nI n)) (fun σ' => σ' 25 = qq_sg (σ 25) (2 * n) (ct - 1) ∧ σ' 26 = upd (σ 26) n (nI (ct - 1)) ∧ σ' 27 = upd (σ 27) n (nI 0) ∧ ∀ q, q ≠ 25 → q ≠ 26 → q ≠ 27 → σ' q = σ q) := by
  have em : n * 2 = 2 * n := Nat.mul_comm _ _
  simp only [f_Queues_removeFirstp, pp_lt, eQ, pk_mul, em, pp_1]
  refine pp_lp3 (e := ct) (I := fun i σ' => 1 ≤ i ∧ σ' 25 = qq_sg (σ 25) (2 * n) (i - 1) ∧ ∀ q, q ≠ 25 → σ' q = σ q) ?_ ?_ F 1 _ (by omega) (by omega) ?_
  · intro rec ρ ⟨h0, a1, a2⟩
    have t1 : ρ 26 n = nI ct := by rw [a2 26 (by decide)]; exact eB
    simp (disch := omega) only [b_Queues_removeFirstp_9, pp_ckE, pp_cl, t1, pp_le, Nat.le_refl, if_true, pp_st, pp_1, pp_0, pp_subN]
    refine pp_some ⟨?_, ?_, ?_, ?_⟩
    · simp (disch := omega) only [jj_up_ne]; exact a1
    · simp (disch := omega) only [jj_up_ne, jj_up_same]; rw [a2 26 (by decide)]
    · simp (disch := omega) only [jj_up_ne, jj_up_same]; rw [a2 27 (by decide)]
    · intro q q1 q2 q3
      rw [jj_up_ne q3, jj_up_ne q2]; exact a2 q q1
  · intro rec i ρ hi ⟨h0, a1, a2⟩ ih
    have t1 : ρ 26 n = nI ct := by rw [a2 26 (by decide)]; exact eB
    have hn2 : ¬ (ct ≤ i) := by omega
    · simp (disch := omega) only [b_Queues_removeFirstp_9, pp_ckE, pp_cl, t1, pp_le, hn2, if_false, pp_st, pp_1, nI_add, pp_subN]
      refine ih _ ⟨by omega, ?_, fun q q1 => by rw [jj_up_ne q1]; exact a2 q q1⟩
      simp (disch := omega) only [jj_up_same]
      have e1 : 2 * n + i - 1 = 2 * n + (i - 1) := by omega
      have e2 : 2 * n + i = 2 * n + (i - 1) + 1 := by omega
      have e3 : i + 1 - 1 = i - 1 + 1 := by omega
      rw [a1, e1, e2, e3]
      exact qq_sg_s _ _ _
  · exact ⟨by omega, by rw [show 1 - 1 = 0 from rfl, qq_sg_0], fun q _ => rfl⟩
set_option maxHeartbeats 1000000 in
theorem qq_remp {w h d v made cpl n ct k : Nat} {σ τ σ' τ' : jj_S} (hD : qq_D w h d v) (hR : qq_Rel w h d v made cpl σ τ) (hn : n < w * h) (h1 : 1 ≤ ct) (hct : ct ≤ 2) (e1 : τ 14 n = nI ct) (hk : k < made) (e2 : τ 15 (2 * n) = nI (2 * k + 1))
    (a1 : ∀ i, i < ct - 1 → σ' 25 (2 * n + i) = σ 25 (2 * n + i + 1)) (a1' : ∀ n' i, n' ≠ n → i < 2 → σ' 25 (2 * n' + i) = σ 25 (2 * n' + i)) (a2 : σ' 26 = upd (σ 26) n (nI (ct - 1))) (a3 : σ' 27 = upd (σ 27) n (nI 0)) (sf : ∀ q, q ≠ 25 → q ≠ 26 → q ≠ 27 → σ' q = σ q)
    (b1 : ∀ i, i < ct - 1 → τ' 15 (2 * n + i) = τ 15 (2 * n + i + 1)) (b1' : ∀ n' i, n' ≠ n → i < 2 → τ' 15 (2 * n' + i) = τ 15 (2 * n' + i)) (b2 : τ' 14 = upd (τ 14) n (nI (ct - 1))) (b3 : τ' 16 = upd (τ 16) n (nI 0)) (tf : ∀ q, q ≠ 15 → q ≠ 14 → q ≠ 16 → τ' q = τ q) :
    qq_Rel w h d v made cpl σ' τ' ∧ σ 15 k = (if 1 = 0 then τ 5 k else τ 6 k) ∧ ∀ t a i p', ¬ qq_KT cpl τ' t a i k p' := by
  obtain ⟨hZ, hM, hP, hW, hQ, hL, hRt, hE, hU, hV⟩ := hR
  have h9 := qq_n9 hD
  have hm := hP.1.1
  have hKs : ∀ {t a i k1 p1 : Nat}, qq_KT cpl τ' t a i k1 p1 → qq_KT cpl τ t a (if t = 1 ∧ a = n then i + 1 else i) k1 p1 := by
    intro t a i k1 p1 hK
    obtain ⟨hk1, hK⟩ := hK
    simp (disch := omega) only [tf, b2] at hK
    rcases hK with hK | hK | hK | hK | hK
    · obtain ⟨rfl, hp, ha, ⟨c1, x1, x2, x3⟩, e⟩ := hK
      rw [if_neg (fun q => absurd q.1 (by decide))]
      exact ⟨hk1, Or.inl ⟨rfl, hp, ha, ⟨c1, x1, x2, x3⟩, e⟩⟩
    · obtain ⟨rfl, hp, ha, ⟨c1, x1, x2, x3⟩, e⟩ := hK
      by_cases han : a = n
      · subst han
        rw [pk_us, pp_eq (by omega) (by omega)] at x1
        rw [if_pos ⟨rfl, rfl⟩]
        rw [b1 i (by omega)] at e
        exact ⟨hk1, Or.inr (Or.inl ⟨rfl, hp, ha, ⟨ct, e1, hct, (show i + 1 < ct by omega)⟩, e⟩)⟩
      · rw [pk_un han] at x1
        rw [if_neg (fun q => han q.2)]
        rw [b1' a i han (by omega)] at e
        exact ⟨hk1, Or.inr (Or.inl ⟨rfl, hp, ha, ⟨c1, x1, x2, x3⟩, e⟩)⟩
    · obtain ⟨rfl, hK⟩ := hK
      rw [if_neg (fun q => absurd q.1 (by decide))]
      exact ⟨hk1, Or.inr (Or.inr (Or.inl ⟨rfl, hK⟩))⟩
    · obtain ⟨rfl, hK⟩ := hK
      rw [if_neg (fun q => absurd q.1 (by decide))]
      exact ⟨hk1, Or.inr (Or.inr (Or.inr (Or.inl ⟨rfl, hK⟩)))⟩
    · obtain ⟨rfl, hK⟩ := hK
      rw [if_neg (fun q => absurd q.1 (by decide))]
      exact ⟨hk1, Or.inr (Or.inr (Or.inr (Or.inr ⟨rfl, hK⟩)))⟩
  have h00 : qq_KT cpl τ 1 n 0 k 1 := ⟨by omega, Or.inr (Or.inl ⟨rfl, rfl, by omega, ⟨ct, e1, by omega, (show 0 < ct by omega)⟩, by rw [Nat.add_zero]; exact e2⟩)⟩
  refine ⟨⟨?_, ?_, ?_, ?_, ?_, ?_, ?_, ?_, ?_, ?_⟩, (hV _ _ _ _ _ h00).2, fun t a i p' q => ?_⟩
  · unfold qq_Z at hZ ⊢
    simp (disch := omega) only [sf, tf]; exact hZ
  · unfold qq_M at hM ⊢
    simp (disch := omega) only [sf, tf]; exact hM
  · unfold qq_PT at hP ⊢
    simp (disch := omega) only [sf, tf]; exact hP
  · unfold qq_WT at hW ⊢
    simp (disch := omega) only [sf, tf]; exact hW
  · unfold qq_QT at hQ ⊢
    simp (disch := omega) only [sf, tf, a2, a3, b2, b3]
    refine ⟨hQ.1, fun n' hn' => ?_⟩
    obtain ⟨ct', g, c1, c2, c3, c4, c5, c6, c7⟩ := hQ.2 n' hn'
    by_cases hnn : n' = n
    · subst hnn
      have ec : ct' = ct := by rw [e1, pp_eq (by omega) (by omega)] at c3; exact c3.symm
      subst ec
      refine ⟨ct' - 1, 0, by omega, pk_us, pk_us, pk_us, pk_us, fun _ => rfl, fun i hi => ?_⟩
      rw [a1 i hi, b1 i hi]
      obtain ⟨k2, y1, y2, y3, y4⟩ := c7 (i + 1) (by omega)
      have := qq_len_in (τ 3 k2) 1
      exact ⟨k2, y1, y2, y3, fun _ => by omega⟩
    · refine ⟨ct', g, c1, by rw [pk_un hnn]; exact c2, by rw [pk_un hnn]; exact c3, by rw [pk_un hnn]; exact c4, by rw [pk_un hnn]; exact c5, c6, fun i hi => ?_⟩
      rw [a1' n' i hnn (by omega), b1' n' i hnn (by omega)]
      exact c7 i hi
  · unfold qq_LT at hL ⊢
    simp (disch := omega) only [sf, tf]; exact hL
  · unfold qq_RT at hRt ⊢
    simp (disch := omega) only [sf, tf]; exact hRt
  · simp (disch := omega) only [tf]; exact hE
  · intro t a i t' a' i' k1 p1 p1' q q'
    obtain ⟨z1, z2, z3⟩ := hU _ _ _ _ _ _ _ _ _ (hKs q) (hKs q')
    subst z1; subst z2
    refine ⟨rfl, rfl, ?_⟩
    split at z3 <;> omega
  · intro t a i k1 p1 q
    simp (disch := omega) only [sf, tf]
    exact hV _ _ _ _ _ (hKs q)
  · obtain ⟨z1, z2, z3⟩ := hU _ _ _ _ _ _ _ _ _ h00 (hKs q)
    rw [← z1, ← z2, if_pos ⟨rfl, rfl⟩] at z3
    omega
