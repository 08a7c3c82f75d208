/-! THE CONSTRUCTORS: the relation at the beginning -/
theorem pp_na {β : Type} {N : Nat} {o : Option β} (hN : N ≤ 1000) : jj_na N (nI N) o = o := by
  rw [jj_na, if_pos ⟨rfl, hN⟩]
theorem pp_nw {σ : jj_S} {k : Nat} (h : σ k = fun _ => 0) : jj_nw σ k = σ := by
  funext q
  unfold jj_nw
  by_cases e : q = k
  · rw [if_pos e, e, h]
  · rw [if_neg e]
theorem pp_nw0 (k : Nat) : jj_nw (fun _ _ => 0) k = fun _ _ => 0 := pp_nw rfl
theorem pp_bz0 {β : Type} {o : Option β} : jj_bz 0 o = o := by rw [jj_bz, if_pos (Or.inl rfl)]
theorem pp_bz1 {β : Type} {o : Option β} : jj_bz 1 o = o := by rw [jj_bz, if_pos (Or.inr rfl)]
theorem pp_neglt {a : Int32} {b : Nat} (h : a < 0) (hb : b ≤ 2147483647) : a < nI b := by
  rw [Int32.lt_iff_toInt_lt] at h ⊢
  rw [Int32.toInt_zero] at h
  rw [nI_toInt (by omega)]
  omega
theorem qq_jnE (a : Int32) (b : Nat) (K : Int32 → Option jj_S) : jj_jn (fun K' => if (1 : Int32) ≤ a then (if a ≤ nI b then (K' a) else (K' (nI b))) else (K' (1 : Int32))) K = if (1 : Int32) ≤ a then (if a ≤ nI b then (K a) else (K (nI b))) else (K (1 : Int32)) := rfl
theorem qq_clamp (a : Int32) (b : Nat) (hb1 : 1 ≤ b) (hb : b ≤ 1000) : ∃ m : Nat, 1 ≤ m ∧ m ≤ b ∧ (if (1 : Int32) < (if a < nI b then a else nI b) then (if a < nI b then a else nI b) else (1 : Int32)) = nI m ∧ ∀ K : Int32 → Option jj_S, jj_jn (fun K' => if (1 : Int32) ≤ a then (if a ≤ nI b then (K' a) else (K' (nI b))) else (K' (1 : Int32))) K = K (nI m) := by
  by_cases h0 : a < 0
  · have hlt : a < nI b := pp_neglt h0 (by omega)
    rw [Int32.lt_iff_toInt_lt, Int32.toInt_zero] at h0
    have hn1 : ¬ (1 : Int32) < a := fun h1 => by
      rw [Int32.lt_iff_toInt_lt, pp_1, nI_toInt (by omega)] at h1
      omega
    have hn2 : ¬ (1 : Int32) ≤ a := fun h1 => by
      rw [Int32.le_iff_toInt_le, pp_1, nI_toInt (by omega)] at h1
      omega
    refine ⟨1, by omega, hb1, ?_, fun K => ?_⟩
    · rw [if_pos hlt, if_neg hn1]; rfl
    · rw [qq_jnE, if_neg hn2]; rfl
  · obtain ⟨m0, hm0, rfl⟩ := pp_ofN h0
    have e1 : ∀ c : Nat, c ≤ 2147483647 → ((1 : Int32) < nI c ↔ 1 < c) := fun c hc => by rw [pp_1, pp_ltN (by omega) hc]
    have e2 : (1 : Int32) ≤ nI m0 ↔ 1 ≤ m0 := by rw [pp_1, pp_le (by omega) hm0]
    have e3 : nI m0 ≤ nI b ↔ m0 ≤ b := by rw [pp_le hm0 (by omega)]
    have e4 : nI m0 < nI b ↔ m0 < b := by rw [pp_ltN hm0 (by omega)]
    by_cases h1 : m0 < b
    · rw [if_pos (e4.mpr h1)]
      by_cases h2 : 1 < m0
      · refine ⟨m0, by omega, by omega, ?_, fun K => ?_⟩
        · rw [if_pos ((e1 m0 hm0).mpr h2)]
        · rw [qq_jnE, if_pos (e2.mpr (by omega)), if_pos (e3.mpr (by omega))]
      · refine ⟨1, by omega, by omega, ?_, fun K => ?_⟩
        · rw [if_neg (fun q => h2 ((e1 m0 hm0).mp q))]; rfl
        · rw [qq_jnE]
          by_cases h3 : m0 = 1
          · rw [if_pos (e2.mpr (by omega)), if_pos (e3.mpr (by omega)), h3]
          · rw [if_neg (fun q => h3 (by have := e2.mp q; omega))]; rfl
    · rw [if_neg (fun q => h1 (e4.mp q))]
      refine ⟨b, hb1, by omega, ?_, fun K => ?_⟩
      · by_cases h2 : 1 < b
        · rw [if_pos ((e1 b (by omega)).mpr h2)]
        · have h3 : b = 1 := by omega
          rw [if_neg (fun q => h2 ((e1 b (by omega)).mp q)), h3]; rfl
      · rw [qq_jnE, if_pos (e2.mpr (by omega))]
        by_cases h4 : m0 ≤ b
        · have h5 : m0 = b := by omega
          rw [if_pos (e3.mpr h4), h5]
        · rw [if_neg (fun q => h4 (e3.mp q))]
/-- the far end of a slot -/
theorem pc_far {N S SD F w h C n sd c : Nat} {σ : jj_S} (hw : 1 ≤ w) (hw3 : w ≤ 3) (hh : h ≤ 3) (hn : n < 9) (hs : sd < 6) (e0 : σ 1 0 = nI w) (e1 : σ 1 1 = nI h) (e4 : σ 1 4 = nI C) : f_ibGrid_farSlot N S SD F σ (nI n) (nI sd) (nI c) = some (nI (qq_s C (qq_f w h n sd).1 (qq_f w h n sd).2 c), σ) := by
  have hm : n % w < w := Nat.mod_lt _ hw
  have hv : n / w ≤ n := Nat.div_le_self _ _
  have SL : ∀ a b : Nat, f_ibGrid_slot N S SD F σ (nI a) (nI b) (nI c) = some (nI (qq_s C a b c), σ) := fun a b => by
    simp only [f_ibGrid_slot, e4, pp_6, pk_mul, nI_add, qq_s]
  have CO : f_ibGrid_column N S SD F σ (nI n) = some (nI (n % w), σ) := by
    simp (disch := omega) only [f_ibGrid_column, e0, pp_nzE, pp_rem]
  have RO : f_ibGrid_row N S SD F σ (nI n) = some (nI (n / w), σ) := by
    simp (disch := omega) only [f_ibGrid_row, e0, pp_nzE, pp_div]
  rcases (show sd = 0 ∨ sd = 1 ∨ sd = 2 ∨ sd = 3 ∨ sd = 4 ∨ sd = 5 by omega) with rfl | rfl | rfl | rfl | rfl | rfl
  · simp (disch := omega) only [f_ibGrid_farSlot, f_ibGrid_neighbour, f_ibGrid_opposite, SL, pp_0, pp_1, pp_2, pp_3, pp_4, pp_5, pp_n1, pp_m1, pp_b2, pp_eq, qq_f, if_true, if_false, eq_self_iff_true, show ¬ (0 : Nat) = 1 by decide, show ¬ (0 : Nat) = 2 by decide, show ¬ (0 : Nat) = 3 by decide, show ¬ (0 : Nat) = 4 by decide]
  · by_cases ho : n % w + 1 < w
    · have ho' : ¬ w ≤ n % w + 1 := by omega
      simp (disch := omega) only [f_ibGrid_farSlot, f_ibGrid_neighbour, f_ibGrid_opposite, CO, e0, SL, pp_0, pp_1, pp_2, pp_3, pp_4, pp_5, pp_n1, pp_m1, pp_b2, pp_eq, pp_le, nI_add, qq_f, ho, ho', if_true, if_false, eq_self_iff_true, show ¬ (1 : Nat) = 0 by decide]
    · have ho' : w ≤ n % w + 1 := by omega
      simp (disch := omega) only [f_ibGrid_farSlot, f_ibGrid_neighbour, f_ibGrid_opposite, CO, e0, SL, pp_0, pp_1, pp_2, pp_3, pp_4, pp_5, pp_n1, pp_m1, pp_b2, pp_eq, pp_le, nI_add, qq_f, ho, ho', if_true, if_false, eq_self_iff_true, show ¬ (1 : Nat) = 0 by decide]
  · by_cases ho : 0 < n % w
    · have ho' : ¬ n % w ≤ 0 := by omega
      have hnm : n % w ≤ n := Nat.mod_le _ _
      simp (disch := omega) only [f_ibGrid_farSlot, f_ibGrid_neighbour, f_ibGrid_opposite, CO, e0, SL, pp_0, pp_1, pp_2, pp_3, pp_4, pp_5, pp_n1, pp_m1, pp_b2, pp_eq, pp_le, pp_subN, qq_f, ho, ho', if_true, if_false, eq_self_iff_true, show ¬ (2 : Nat) = 0 by decide, show ¬ (2 : Nat) = 1 by decide]
    · have ho' : n % w ≤ 0 := by omega
      simp (disch := omega) only [f_ibGrid_farSlot, f_ibGrid_neighbour, f_ibGrid_opposite, CO, e0, SL, pp_0, pp_1, pp_2, pp_3, pp_4, pp_5, pp_n1, pp_m1, pp_b2, pp_eq, pp_le, qq_f, ho, ho', if_true, if_false, eq_self_iff_true, show ¬ (2 : Nat) = 0 by decide, show ¬ (2 : Nat) = 1 by decide]
  · by_cases ho : n / w + 1 < h
    · have ho' : ¬ h ≤ n / w + 1 := by omega
      simp (disch := omega) only [f_ibGrid_farSlot, f_ibGrid_neighbour, f_ibGrid_opposite, RO, e0, e1, SL, pp_0, pp_1, pp_2, pp_3, pp_4, pp_5, pp_n1, pp_m1, pp_b2, pp_eq, pp_le, nI_add, qq_f, ho, ho', if_true, if_false, eq_self_iff_true, show ¬ (3 : Nat) = 0 by decide, show ¬ (3 : Nat) = 1 by decide, show ¬ (3 : Nat) = 2 by decide]
    · have ho' : h ≤ n / w + 1 := by omega
      simp (disch := omega) only [f_ibGrid_farSlot, f_ibGrid_neighbour, f_ibGrid_opposite, RO, e0, e1, SL, pp_0, pp_1, pp_2, pp_3, pp_4, pp_5, pp_n1, pp_m1, pp_b2, pp_eq, pp_le, nI_add, qq_f, ho, ho', if_true, if_false, eq_self_iff_true, show ¬ (3 : Nat) = 0 by decide, show ¬ (3 : Nat) = 1 by decide, show ¬ (3 : Nat) = 2 by decide]
  · by_cases ho : 0 < n / w
    · have ho' : ¬ n / w ≤ 0 := by omega
      have hwn : w ≤ n := by
        rcases Nat.lt_or_ge n w with h1 | h1
        · rw [Nat.div_eq_of_lt h1] at ho; omega
        · exact h1
      simp (disch := omega) only [f_ibGrid_farSlot, f_ibGrid_neighbour, f_ibGrid_opposite, RO, e0, e1, SL, pp_0, pp_1, pp_2, pp_3, pp_4, pp_5, pp_n1, pp_m1, pp_b2, pp_eq, pp_le, pp_subN, qq_f, ho, ho', if_true, if_false, eq_self_iff_true, show ¬ (4 : Nat) = 0 by decide, show ¬ (4 : Nat) = 1 by decide, show ¬ (4 : Nat) = 2 by decide, show ¬ (4 : Nat) = 3 by decide]
    · have ho' : n / w ≤ 0 := by omega
      simp (disch := omega) only [f_ibGrid_farSlot, f_ibGrid_neighbour, f_ibGrid_opposite, RO, e0, e1, SL, pp_0, pp_1, pp_2, pp_3, pp_4, pp_5, pp_n1, pp_m1, pp_b2, pp_eq, pp_le, qq_f, ho, ho', if_true, if_false, eq_self_iff_true, show ¬ (4 : Nat) = 0 by decide, show ¬ (4 : Nat) = 1 by decide, show ¬ (4 : Nat) = 2 by decide, show ¬ (4 : Nat) = 3 by decide]
  · simp (disch := omega) only [f_ibGrid_farSlot, f_ibGrid_neighbour, f_ibGrid_opposite, SL, pp_0, pp_1, pp_2, pp_3, pp_4, pp_5, pp_n1, pp_m1, pp_b2, pp_eq, qq_f, if_true, if_false, eq_self_iff_true, show ¬ (5 : Nat) = 0 by decide, show ¬ (5 : Nat) = 1 by decide, show ¬ (5 : Nat) = 2 by decide, show ¬ (5 : Nat) = 3 by decide, show ¬ (5 : Nat) = 4 by decide]
/-- what the links' loops have done for the slots below m -/
def qq_N (w h d C m : Nat) (σ0 σ : jj_S) : Prop := (∀ n sd c, n < w * h → sd < 6 → c < C → qq_s C n sd c < m → σ 3 (qq_s C n sd c) = nI (qq_s C (qq_f w h n sd).1 (qq_f w h n sd).2 c)) ∧ (∀ s, s < m → σ 7 s = nI d ∧ σ 8 s = qq_m) ∧ ∀ q, q ≠ 3 → q ≠ 7 → q ≠ 8 → σ q = σ0 q
theorem qq_N_step {w h d C n sd c : Nat} {σ0 σ : jj_S} (hs : sd < 6) (hc : c < C) (hN : qq_N w h d C (qq_s C n sd c) σ0 σ) : qq_N w h d C (qq_s C n sd c + 1) σ0 (jj_up (jj_up (jj_up σ 3 (qq_s C n sd c) (nI (qq_s C (qq_f w h n sd).1 (qq_f w h n sd).2 c))) 7 (qq_s C n sd c) (nI d)) 8 (qq_s C n sd c) qq_m) := by
  obtain ⟨h1, h2, h3⟩ := hN
  refine ⟨fun n' sd' c' a1 a2 a3 a4 => ?_, fun s hs' => ?_, fun q q3 q7 q8 => ?_⟩
  · rw [jj_up_ne (by decide), jj_up_ne (by decide), jj_up_same]
    by_cases e : qq_s C n' sd' c' = qq_s C n sd c
    · obtain ⟨rfl, rfl, rfl⟩ := qq_s_inj a2 a3 hs hc e
      rw [pk_us]
    · rw [pk_un e]
      exact h1 n' sd' c' a1 a2 a3 (by omega)
  · rw [jj_up_same, jj_up_ne (by decide), jj_up_same]
    rw [jj_up_ne (show (8 : Nat) ≠ 7 by decide), jj_up_ne (show (8 : Nat) ≠ 3 by decide), jj_up_ne (show (7 : Nat) ≠ 3 by decide)]
    by_cases e : s = qq_s C n sd c
    · subst e; exact ⟨pk_us, pk_us⟩
    · rw [pk_un e, pk_un e]; exact h2 s (by omega)
  · rw [jj_up_ne q8, jj_up_ne q7, jj_up_ne q3]; exact h3 q q3 q7 q8
/-- the innermost loop -/
theorem pc_lk3 {w h d v F n sd : Nat} {σ0 σ : jj_S} {Φ : jj_S → Prop} {K : jj_S → Int32 → Int32 → Int32 → Option jj_S} (hF : 300 ≤ F) (hD : qq_D w h d v) (hn : n < w * h) (hs : sd < 6) (e0 : σ0 1 0 = nI w) (e1 : σ0 1 1 = nI h) (e4 : σ0 1 4 = nI (2 * v)) (e2 : σ0 2 0 = nI d) (hN : qq_N w h d (2 * v) (qq_s (2 * v) n sd 0) σ0 σ) (hK : ∀ σ', qq_N w h d (2 * v) (qq_s (2 * v) n sd (2 * v)) σ0 σ' → pp_S (K σ' (nI n) (nI sd) (nI (2 * v))) Φ) : pp_S (jj_lp3 (b_Links_init_108 (w * h) (w * h * 6 * (2 * v)) (w * h * 6 * (2 * v) * d) F K) F σ (nI n) (nI sd) (0 : Int32)) Φ := by
  have h9 := qq_n9 hD
  have hS := qq_S216 hD
  obtain ⟨⟨d1, d2⟩, ⟨d3, d4⟩, ⟨d5, d6⟩, ⟨d7, d8⟩⟩ := id hD
  rw [pp_0]
  refine pp_lp3 (e := 2 * v) (I := fun c σ1 => qq_N w h d (2 * v) (qq_s (2 * v) n sd c) σ0 σ1) ?_ ?_ F 0 σ (by omega) (by omega) hN
  · intro rec σ1 hI
    have f4 : σ1 1 4 = nI (2 * v) := by rw [hI.2.2 1 (by decide) (by decide) (by decide)]; exact e4
    unfold b_Links_init_108
    rw [f4, if_pos (by rw [pp_le (by omega) (by omega)]; omega)]
    exact hK σ1 hI
  · intro rec c σ1 hc hI ih
    have f0 : σ1 1 0 = nI w := by rw [hI.2.2 1 (by decide) (by decide) (by decide)]; exact e0
    have f1 : σ1 1 1 = nI h := by rw [hI.2.2 1 (by decide) (by decide) (by decide)]; exact e1
    have f4 : σ1 1 4 = nI (2 * v) := by rw [hI.2.2 1 (by decide) (by decide) (by decide)]; exact e4
    have f2 : σ1 2 0 = nI d := by rw [hI.2.2 2 (by decide) (by decide) (by decide)]; exact e2
    have SL : f_ibGrid_slot (w * h) (w * h * 6 * (2 * v)) (w * h * 6 * (2 * v) * d) F σ1 (nI n) (nI sd) (nI c) = some (nI (qq_s (2 * v) n sd c), σ1) := by
      simp only [f_ibGrid_slot, f4, pp_6, pk_mul, nI_add, qq_s]
    have FA := pc_far (N := w * h) (S := w * h * 6 * (2 * v)) (SD := w * h * 6 * (2 * v) * d) (F := F) (c := c) d1 d2 d4 (show n < 9 by omega) hs f0 f1 f4
    have hsl : qq_s (2 * v) n sd c < w * h * 6 * (2 * v) := qq_s_lt hn hs hc
    have hnc : ¬ 2 * v ≤ c := by omega
    have hst := qq_N_step hs hc hI
    have B : b_Links_init_108 (w * h) (w * h * 6 * (2 * v)) (w * h * 6 * (2 * v) * d) F K rec σ1 (nI n) (nI sd) (nI c) = rec (jj_up (jj_up (jj_up σ1 3 (qq_s (2 * v) n sd c) (nI (qq_s (2 * v) (qq_f w h n sd).1 (qq_f w h n sd).2 c))) 7 (qq_s (2 * v) n sd c) (nI d)) 8 (qq_s (2 * v) n sd c) qq_m) (nI n) (nI sd) (nI (c + 1)) := by
      clear hI ih hst hK hN
      simp (disch := omega) only [b_Links_init_108, f4, pp_le, hnc, if_false, SL, FA, pp_b2, pp_ckE, pp_cl, pp_st, jj_up_ne, f2, pp_1, pp_n1, nI_add]
    rw [B]
    exact ih _ hst
theorem pc_lk2 {w h d v F n : Nat} {σ0 σ : jj_S} {Φ : jj_S → Prop} {K : jj_S → Int32 → Int32 → Option jj_S} (hF : 300 ≤ F) (hD : qq_D w h d v) (hn : n < w * h) (e0 : σ0 1 0 = nI w) (e1 : σ0 1 1 = nI h) (e4 : σ0 1 4 = nI (2 * v)) (e2 : σ0 2 0 = nI d) (hN : qq_N w h d (2 * v) (qq_s (2 * v) n 0 0) σ0 σ) (hK : ∀ σ', qq_N w h d (2 * v) (qq_s (2 * v) n 6 0) σ0 σ' → pp_S (K σ' (nI n) (nI 6)) Φ) : pp_S (jj_lp2 (b_Links_init_99 (w * h) (w * h * 6 * (2 * v)) (w * h * 6 * (2 * v) * d) F K) F σ (nI n) (0 : Int32)) Φ := by
  rw [pp_0]
  refine pp_lp2 (e := 6) (I := fun sd σ1 => qq_N w h d (2 * v) (qq_s (2 * v) n sd 0) σ0 σ1) ?_ ?_ F 0 σ (by omega) (by omega) hN
  · intro rec σ1 hI
    unfold b_Links_init_99
    rw [pp_6, if_pos (by rw [pp_le (by omega) (by omega)]; omega)]
    exact hK σ1 hI
  · intro rec sd σ1 hsd hI ih
    unfold b_Links_init_99
    rw [if_neg (by rw [pp_6, pp_le (by omega) (by omega)]; omega)]
    refine pc_lk3 hF hD hn hsd e0 e1 e4 e2 hI (fun σ' h' => ?_)
    show pp_S (rec σ' (nI n) (nI sd + 1)) Φ
    rw [pp_1, nI_add]
    refine ih σ' ?_
    have e : qq_s (2 * v) n sd (2 * v) = qq_s (2 * v) n (sd + 1) 0 := by
      unfold qq_s
      have : n * 6 + (sd + 1) = n * 6 + sd + 1 := by omega
      rw [this]; exact (Nat.succ_mul (n * 6 + sd) (2 * v)).symm
    rw [← e]; exact h'
theorem pc_lk1 {w h d v F : Nat} {σ0 : jj_S} (hF : 300 ≤ F) (hD : qq_D w h d v) (e0 : σ0 1 0 = nI w) (e1 : σ0 1 1 = nI h) (e4 : σ0 1 4 = nI (2 * v)) (e5 : σ0 1 5 = nI (w * h)) (e2 : σ0 2 0 = nI d) : pp_S (jj_lp1 (b_Links_init_89 (w * h) (w * h * 6 * (2 * v)) (w * h * 6 * (2 * v) * d) F (fun σ23 _ => some σ23)) F σ0 (0 : Int32)) (fun σ' => qq_N w h d (2 * v) (w * h * 6 * (2 * v)) σ0 σ') := by
  have h9 := qq_n9 hD
  rw [pp_0]
  refine pp_lp1 (e := w * h) (I := fun n σ1 => qq_N w h d (2 * v) (qq_s (2 * v) n 0 0) σ0 σ1) ?_ ?_ F 0 σ0 (by omega) (by omega) ?_
  · intro rec σ1 hI
    have f5 : σ1 1 5 = nI (w * h) := by rw [hI.2.2 1 (by decide) (by decide) (by decide)]; exact e5
    unfold b_Links_init_89
    rw [f5, if_pos (by rw [pp_le (by omega) (by omega)]; omega)]
    have e : qq_s (2 * v) (w * h) 0 0 = w * h * 6 * (2 * v) := by unfold qq_s; rfl
    rw [← e]
    exact pp_some hI
  · intro rec n σ1 hn hI ih
    have f5 : σ1 1 5 = nI (w * h) := by rw [hI.2.2 1 (by decide) (by decide) (by decide)]; exact e5
    unfold b_Links_init_89
    rw [f5, if_neg (by rw [pp_le (by omega) (by omega)]; omega)]
    refine pc_lk2 hF hD hn e0 e1 e4 e2 hI (fun σ' h' => ?_)
    show pp_S (rec σ' (nI n + 1)) _
    rw [pp_1, nI_add]
    refine ih σ' ?_
    have e : qq_s (2 * v) n 6 0 = qq_s (2 * v) (n + 1) 0 0 := by
      unfold qq_s
      have : (n + 1) * 6 + 0 = n * 6 + 6 := by omega
      rw [this]
    rw [← e]; exact h'
  · have e : qq_s (2 * v) 0 0 0 = 0 := by unfold qq_s; omega
    rw [e]
    exact ⟨fun n sd c a1 a2 a3 a4 => absurd a4 (by omega), fun s hs => absurd hs (by omega), fun q _ _ _ => rfl⟩
/-- the grid -/
def qq_G0 (w h d v : Nat) : jj_S := jj_up (jj_up (jj_up (jj_up (jj_up (jj_up (jj_up (fun _ _ => 0) 1 0 (nI w)) 1 1 (nI h)) 1 2 (nI d)) 1 3 (nI v)) 1 4 (nI (2 * v))) 1 5 (nI (w * h))) 1 6 (nI (w * h * 6 * (2 * v)))
theorem qq_G0_in (w h d v : Nat) : (∀ q, q ≠ 1 → qq_G0 w h d v q = fun _ => 0) ∧ qq_G0 w h d v 1 0 = nI w ∧ qq_G0 w h d v 1 1 = nI h ∧ qq_G0 w h d v 1 2 = nI d ∧ qq_G0 w h d v 1 3 = nI v ∧ qq_G0 w h d v 1 4 = nI (2 * v) ∧ qq_G0 w h d v 1 5 = nI (w * h) ∧ qq_G0 w h d v 1 6 = nI (w * h * 6 * (2 * v)) := by
  unfold qq_G0
  refine ⟨fun q hq => ?_, ?_, ?_, ?_, ?_, ?_, ?_, ?_⟩
  · rw [jj_up_ne hq, jj_up_ne hq, jj_up_ne hq, jj_up_ne hq, jj_up_ne hq, jj_up_ne hq, jj_up_ne hq]
  all_goals simp (disch := omega) only [jj_up_same, pk_us, pk_un]
theorem pc_grid0 {N S SD F w h d v : Nat} {a1 a2 a3 a4 : Int32} (h1 : (if (1 : Int32) < (if a1 < nI 3 then a1 else nI 3) then (if a1 < nI 3 then a1 else nI 3) else (1 : Int32)) = nI w) (h2 : (if (1 : Int32) < (if a2 < nI 3 then a2 else nI 3) then (if a2 < nI 3 then a2 else nI 3) else (1 : Int32)) = nI h) (h3 : (if (1 : Int32) < (if a3 < nI 4 then a3 else nI 4) then (if a3 < nI 4 then a3 else nI 4) else (1 : Int32)) = nI d) (h4 : (if (1 : Int32) < (if a4 < nI 2 then a4 else nI 2) then (if a4 < nI 2 then a4 else nI 2) else (1 : Int32)) = nI v) : f_Grid_init N S SD F (fun _ _ => 0) a1 a2 a3 a4 = some (qq_G0 w h d v) := by
  have W1 : ∀ σ : jj_S, f_iaGrid_within F σ a1 (3 : Int32) = some (nI w, σ) := fun σ => by rw [← h1]; rfl
  have W2 : ∀ σ : jj_S, f_iaGrid_within F σ a2 (3 : Int32) = some (nI h, σ) := fun σ => by rw [← h2]; rfl
  have W3 : ∀ σ : jj_S, f_iaGrid_within F σ a3 (4 : Int32) = some (nI d, σ) := fun σ => by rw [← h3]; rfl
  have W4 : ∀ σ : jj_S, f_iaGrid_within F σ a4 (nI 2) = some (nI v, σ) := fun σ => by rw [← h4]; rfl
  clear h1 h2 h3 h4
  simp (disch := omega) only [f_Grid_init, W1, W2, W3, W4, pp_b2, pp_st, jj_up_same, pk_us, pk_un, pp_2, pp_6, pk_mul, qq_G0]
/-- the rest of the class: nothing but rooms, and two queues -/
theorem pc_packets0 {N S SD F : Nat} {σ : jj_S} (hz : ∀ q, 10 < q → σ q = fun _ => 0) : f_Packets_init N S SD F σ = some σ := by
  simp only [f_Packets_init, pp_400, pp_na (show 400 ≤ 1000 by decide), pp_st, pp_nw (hz 11 (by decide)), pp_nw (hz 12 (by decide)), pp_nw (hz 13 (by decide)), pp_nw (hz 14 (by decide)), pp_nw (hz 15 (by decide))]
def qq_G2 (σ : jj_S) : jj_S := jj_up (jj_up (jj_up (jj_up σ 20 0 (nI 0)) 20 1 (nI 4)) 24 0 (nI 1)) 24 1 (nI 2)
theorem qq_G2_in (σ : jj_S) : (∀ q, q ≠ 20 → q ≠ 24 → qq_G2 σ q = σ q) ∧ qq_G2 σ 20 0 = nI 0 ∧ qq_G2 σ 20 1 = nI 4 ∧ qq_G2 σ 24 0 = nI 1 ∧ qq_G2 σ 24 1 = nI 2 := by
  unfold qq_G2
  refine ⟨fun q h1 h2 => by rw [jj_up_ne h2, jj_up_ne h2, jj_up_ne h1, jj_up_ne h1], ?_, ?_, ?_, ?_⟩ <;> simp (disch := omega) only [jj_up_same, jj_up_ne, pk_us, pk_un]
theorem pc_complete0 {N S SD F : Nat} {σ : jj_S} (hz : ∀ q, 10 < q → σ q = fun _ => 0) : f_Complete_init N S SD F σ = some σ := by
  simp only [f_Complete_init, pp_400, pp_na (show 400 ≤ 1000 by decide), pp_st, pp_nw (hz 18 (by decide)), pp_nw (hz 19 (by decide))]
theorem pc_queue0 {N S SD F : Nat} {σ : jj_S} (hN : N ≤ 9) (h21 : σ 21 = fun _ => 0) (h22 : σ 22 = fun _ => 0) (h23 : σ 23 = fun _ => 0) : f_Queues_init N S SD F σ (nI N) (4 : Int32) (0 : Int32) = some (jj_up (jj_up σ 20 0 (nI 0)) 20 1 (nI 4)) := by
  have e21 : jj_nw (jj_up (jj_up σ 20 0 (nI 0)) 20 1 (nI 4)) 21 = jj_up (jj_up σ 20 0 (nI 0)) 20 1 (nI 4) := pp_nw (by rw [jj_up_ne (by decide), jj_up_ne (by decide)]; exact h21)
  have e22 : jj_nw (jj_up (jj_up σ 20 0 (nI 0)) 20 1 (nI 4)) 22 = jj_up (jj_up σ 20 0 (nI 0)) 20 1 (nI 4) := pp_nw (by rw [jj_up_ne (by decide), jj_up_ne (by decide)]; exact h22)
  have e23 : jj_nw (jj_up (jj_up σ 20 0 (nI 0)) 20 1 (nI 4)) 23 = jj_up (jj_up σ 20 0 (nI 0)) 20 1 (nI 4) := pp_nw (by rw [jj_up_ne (by decide), jj_up_ne (by decide)]; exact h23)
  unfold f_Queues_init
  rw [pp_bz0, pp_st, pp_st, pp_4, pk_mul, pp_na (by omega), pp_st]
  rw [pp_0, e21, pp_na (by omega), pp_st, e22, pp_na (by omega), pp_st, e23]
theorem pc_queue1 {N S SD F : Nat} {σ : jj_S} (hN : N ≤ 9) (h25 : σ 25 = fun _ => 0) (h26 : σ 26 = fun _ => 0) (h27 : σ 27 = fun _ => 0) : f_Queues_init2 N S SD F σ (nI N) (2 : Int32) (1 : Int32) = some (jj_up (jj_up σ 24 0 (nI 1)) 24 1 (nI 2)) := by
  have e21 : jj_nw (jj_up (jj_up σ 24 0 (nI 1)) 24 1 (nI 2)) 25 = jj_up (jj_up σ 24 0 (nI 1)) 24 1 (nI 2) := pp_nw (by rw [jj_up_ne (by decide), jj_up_ne (by decide)]; exact h25)
  have e22 : jj_nw (jj_up (jj_up σ 24 0 (nI 1)) 24 1 (nI 2)) 26 = jj_up (jj_up σ 24 0 (nI 1)) 24 1 (nI 2) := pp_nw (by rw [jj_up_ne (by decide), jj_up_ne (by decide)]; exact h26)
  have e23 : jj_nw (jj_up (jj_up σ 24 0 (nI 1)) 24 1 (nI 2)) 27 = jj_up (jj_up σ 24 0 (nI 1)) 24 1 (nI 2) := pp_nw (by rw [jj_up_ne (by decide), jj_up_ne (by decide)]; exact h27)
  unfold f_Queues_init2
  rw [pp_bz1, pp_st, pp_st, pp_2, pk_mul, pp_na (by omega), pp_st]
  rw [pp_1, e21, pp_na (by omega), pp_st, e22, pp_na (by omega), pp_st, e23]
theorem pc_ifs0 {N S SD F : Nat} {σ : jj_S} (hN : N ≤ 9) (e5 : σ 1 5 = nI N) (hz : ∀ q, 10 < q → σ q = fun _ => 0) : f_Ifs_init N S SD F σ = some (qq_G2 σ) := by
  have Q0 := pc_queue0 (S := S) (SD := SD) (F := F) (σ := σ) hN (hz 21 (by decide)) (hz 22 (by decide)) (hz 23 (by decide))
  have n24 : jj_nw (jj_up (jj_up σ 20 0 (nI 0)) 20 1 (nI 4)) 24 = jj_up (jj_up σ 20 0 (nI 0)) 20 1 (nI 4) := pp_nw (by rw [jj_up_ne (by decide), jj_up_ne (by decide)]; exact hz 24 (by decide))
  have f5 : jj_up (jj_up σ 20 0 (nI 0)) 20 1 (nI 4) 1 5 = nI N := by rw [jj_up_ne (by decide), jj_up_ne (by decide)]; exact e5
  have Q1 := pc_queue1 (S := S) (SD := SD) (F := F) (σ := jj_up (jj_up σ 20 0 (nI 0)) 20 1 (nI 4)) hN (by rw [jj_up_ne (by decide), jj_up_ne (by decide)]; exact hz 25 (by decide)) (by rw [jj_up_ne (by decide), jj_up_ne (by decide)]; exact hz 26 (by decide)) (by rw [jj_up_ne (by decide), jj_up_ne (by decide)]; exact hz 27 (by decide))
  have Q1 : f_Queues_init2 N S SD F (jj_up (jj_up σ 20 0 (nI 0)) 20 1 (nI 4)) (nI N) (2 : Int32) (1 : Int32) = some (qq_G2 σ) := Q1
  obtain ⟨g1, -⟩ := qq_G2_in σ
  have n28 : jj_nw (qq_G2 σ) 28 = qq_G2 σ := pp_nw (by rw [g1 28 (by decide) (by decide)]; exact hz 28 (by decide))
  have n29 : jj_nw (qq_G2 σ) 29 = qq_G2 σ := pp_nw (by rw [g1 29 (by decide) (by decide)]; exact hz 29 (by decide))
  have g5 : qq_G2 σ 1 5 = nI N := by rw [g1 1 (by decide) (by decide)]; exact e5
  unfold f_Ifs_init
  rw [pp_st, pp_nw (hz 17 (by decide)), pc_complete0 hz, pp_b1, pp_st, pp_nw (hz 20 (by decide)), e5, Q0, pp_b1, pp_st, n24, f5, Q1, pp_b1, g5, pp_8, pk_mul, pp_na (by omega), pp_st, n28, g5, pp_na (by omega), pp_st, n29]
theorem pc_routers0 {N S SD F : Nat} {σ : jj_S} (hN : N ≤ 9) (hS : S ≤ 216) (e5 : σ 1 5 = nI N) (e6 : σ 1 6 = nI S) (hz : ∀ q, 30 < q → σ q = fun _ => 0) : f_Routers_init N S SD F σ = some σ := by
  simp only [f_Routers_init, pp_5, e5, e6, pk_mul, pp_na (show 5 ≤ 1000 by decide), pp_na (show S ≤ 1000 by omega), pp_na (show N * 5 ≤ 1000 by omega), pp_st, pp_nw (hz 31 (by decide)), pp_nw (hz 32 (by decide)), pp_nw (hz 33 (by decide)), pp_nw (hz 34 (by decide)), pp_nw (hz 35 (by decide)), pp_nw (hz 36 (by decide)), pp_nw (hz 37 (by decide))]
theorem qq_SD864 {w h d v : Nat} (hD : qq_D w h d v) : w * h * 6 * (2 * v) * d ≤ 864 := by
  have hS := qq_S216 hD
  exact Nat.le_trans (Nat.mul_le_mul hS hD.2.2.1.2) (by decide)
theorem pc_links0 {w h d v F : Nat} {σ : jj_S} (hF : 300 ≤ F) (hD : qq_D w h d v) (e0 : σ 1 0 = nI w) (e1 : σ 1 1 = nI h) (e2 : σ 1 2 = nI d) (e4 : σ 1 4 = nI (2 * v)) (e5 : σ 1 5 = nI (w * h)) (e6 : σ 1 6 = nI (w * h * 6 * (2 * v))) (hz : ∀ q, q ≠ 1 → σ q = fun _ => 0) : pp_S (f_Links_init (w * h) (w * h * 6 * (2 * v)) (w * h * 6 * (2 * v) * d) F σ) (fun σ' => qq_N w h d (2 * v) (w * h * 6 * (2 * v)) (jj_up σ 2 0 (nI d)) σ') := by
  have hS := qq_S216 hD
  have hSD := qq_SD864 hD
  have f6 : jj_up σ 2 0 (nI d) 1 6 = nI (w * h * 6 * (2 * v)) := by rw [jj_up_ne (by decide)]; exact e6
  have f2 : jj_up σ 2 0 (nI d) 2 0 = nI d := by rw [jj_up_same, pk_us]
  have hq : ∀ q, q ≠ 1 → q ≠ 2 → jj_nw (jj_up σ 2 0 (nI d)) q = jj_up σ 2 0 (nI d) := fun q h1 h2 => pp_nw (by rw [jj_up_ne h2]; exact hz q h1)
  have L := pc_lk1 (F := F) (σ0 := jj_up σ 2 0 (nI d)) hF hD (by rw [jj_up_ne (by decide)]; exact e0) (by rw [jj_up_ne (by decide)]; exact e1) (by rw [jj_up_ne (by decide)]; exact e4) (by rw [jj_up_ne (by decide)]; exact e5) f2
  have E : f_Links_init (w * h) (w * h * 6 * (2 * v)) (w * h * 6 * (2 * v) * d) F σ = jj_lp1 (b_Links_init_89 (w * h) (w * h * 6 * (2 * v)) (w * h * 6 * (2 * v) * d) F (fun σ23 _ => some σ23)) F (jj_up σ 2 0 (nI d)) (0 : Int32) := by
    simp only [f_Links_init, pp_st, e2, f6, f2, pk_mul, pp_na (show w * h * 6 * (2 * v) ≤ 1000 by omega), pp_na (show w * h * 6 * (2 * v) * d ≤ 1000 by omega), hq 3 (by decide) (by decide), hq 4 (by decide) (by decide), hq 5 (by decide) (by decide), hq 6 (by decide) (by decide), hq 7 (by decide) (by decide), hq 8 (by decide) (by decide), hq 9 (by decide) (by decide)]
  rw [E]; exact L
/-- the class at the beginning -/
theorem pc_mesh0 {w h d v F : Nat} {a1 a2 a3 a4 : Int32} (hF : 300 ≤ F) (hD : qq_D w h d v) (G : f_Grid_init (w * h) (w * h * 6 * (2 * v)) (w * h * 6 * (2 * v) * d) F (fun _ _ => 0) a1 a2 a3 a4 = some (qq_G0 w h d v)) : pp_S (f_Mesh_init (w * h) (w * h * 6 * (2 * v)) (w * h * 6 * (2 * v) * d) F (fun _ _ => 0) a1 a2 a3 a4) (fun σ' => ∃ σ1, qq_N w h d (2 * v) (w * h * 6 * (2 * v)) (jj_up (qq_G0 w h d v) 2 0 (nI d)) σ1 ∧ σ' = qq_G2 σ1) := by
  have h9 := qq_n9 hD
  have hS := qq_S216 hD
  obtain ⟨z, g0, g1, g2, g3, g4, g5, g6⟩ := qq_G0_in w h d v
  obtain ⟨σ1, L1, L2⟩ := pc_links0 (F := F) hF hD g0 g1 g2 g4 g5 g6 z
  have z1 : ∀ q, 9 < q → σ1 q = fun _ => 0 := fun q hq => by
    rw [L2.2.2 q (by omega) (by omega) (by omega), jj_up_ne (by omega)]; exact z q (by omega)
  have f5 : σ1 1 5 = nI (w * h) := by rw [L2.2.2 1 (by decide) (by decide) (by decide), jj_up_ne (by decide)]; exact g5
  have f6 : σ1 1 6 = nI (w * h * 6 * (2 * v)) := by rw [L2.2.2 1 (by decide) (by decide) (by decide), jj_up_ne (by decide)]; exact g6
  have I := pc_ifs0 (S := w * h * 6 * (2 * v)) (SD := w * h * 6 * (2 * v) * d) (F := F) h9 f5 (fun q hq => z1 q (by omega))
  have P := pc_packets0 (N := w * h) (S := w * h * 6 * (2 * v)) (SD := w * h * 6 * (2 * v) * d) (F := F) (fun q hq => z1 q (by omega))
  obtain ⟨k1, -⟩ := qq_G2_in σ1
  have R := pc_routers0 (SD := w * h * 6 * (2 * v) * d) (F := F) (σ := qq_G2 σ1) h9 hS (by rw [k1 1 (by decide) (by decide)]; exact f5) (by rw [k1 1 (by decide) (by decide)]; exact f6) (fun q hq => by rw [k1 q (by omega) (by omega)]; exact z1 q (by omega))
  refine ⟨qq_G2 σ1, ?_, σ1, L2, rfl⟩
  unfold f_Mesh_init
  rw [pp_st, pp_nw0, G, pp_b1, pp_st, pp_nw (z 2 (by decide)), L1, pp_b1, pp_st, pp_nw (z1 10 (by decide)), P, pp_b1, pp_st, pp_nw (z1 16 (by decide)), I, pp_b1, pp_st, pp_nw (by rw [k1 30 (by decide) (by decide)]; exact z1 30 (by decide)), R, pp_b1]
/-- the reference at the beginning -/
def qq_H0 (w h d v : Nat) : jj_S := jj_up (jj_up (jj_up (jj_up (jj_up (fun _ _ => 0) 0 0 (nI w)) 0 1 (nI h)) 0 2 (nI d)) 0 3 (nI v)) 0 4 (nI (2 * v))
theorem pr_init0 {F w h d v : Nat} {a1 a2 a3 a4 : Int32} (h1 : ∀ K : Int32 → Option jj_S, jj_jn (fun K' => if (1 : Int32) ≤ a1 then (if a1 ≤ (3 : Int32) then (K' a1) else (K' (3 : Int32))) else (K' (1 : Int32))) K = K (nI w)) (h2 : ∀ K : Int32 → Option jj_S, jj_jn (fun K' => if (1 : Int32) ≤ a2 then (if a2 ≤ (3 : Int32) then (K' a2) else (K' (3 : Int32))) else (K' (1 : Int32))) K = K (nI h)) (h3 : ∀ K : Int32 → Option jj_S, jj_jn (fun K' => if (1 : Int32) ≤ a3 then (if a3 ≤ (4 : Int32) then (K' a3) else (K' (4 : Int32))) else (K' (1 : Int32))) K = K (nI d)) (h4 : ∀ K : Int32 → Option jj_S, jj_jn (fun K' => if (1 : Int32) ≤ a4 then (if a4 ≤ (2 : Int32) then (K' a4) else (K' (2 : Int32))) else (K' (1 : Int32))) K = K (nI v)) : f_rRef_init F (fun _ _ => 0) a1 a2 a3 a4 = jj_lp5 (b_rRef_init_352 F (fun σ40 _ _ _ _ _ => some σ40)) F (qq_H0 w h d v) a1 a2 a3 a4 (0 : Int32) := by
  have A : ∀ (N : Nat) (x : Int32) (o : Option jj_S), x = nI N → N ≤ 1000 → jj_na N x o = o := fun N x o e hN => by rw [e]; exact pp_na hN
  have a400 := fun o => A 400 400 o rfl (by decide)
  have a72 := fun o => A 72 72 o rfl (by decide)
  have a9 := fun o => A 9 9 o rfl (by decide)
  have a36 := fun o => A 36 36 o rfl (by decide)
  have a18 := fun o => A 18 18 o rfl (by decide)
  have a216 := fun o => A 216 216 o rfl (by decide)
  have a864 := fun o => A 864 864 o rfl (by decide)
  have a180 := fun o => A 180 180 o rfl (by decide)
  have a45 := fun o => A 45 45 o rfl (by decide)
  have a5 := fun o => A 5 5 o rfl (by decide)
  have u3 : jj_up (jj_up (jj_up (jj_up (fun _ _ => 0) 0 0 (nI w)) 0 1 (nI h)) 0 2 (nI d)) 0 3 (nI v) 0 3 = nI v := by rw [jj_up_same, pk_us]
  unfold f_rRef_init qq_H0
  simp only [a400, a72, a9, a36, a18, a216, a864, a180, a45, a5, pp_st, pp_nw0]
  rw [h1, h2, h3, h4, u3, pp_2, pk_mul]
theorem qq_H0_in (w h d v : Nat) : (∀ q, q ≠ 0 → qq_H0 w h d v q = fun _ => 0) ∧ qq_H0 w h d v 0 0 = nI w ∧ qq_H0 w h d v 0 1 = nI h ∧ qq_H0 w h d v 0 2 = nI d ∧ qq_H0 w h d v 0 3 = nI v ∧ qq_H0 w h d v 0 4 = nI (2 * v) ∧ ∀ j, 5 ≤ j → qq_H0 w h d v 0 j = nI 0 := by
  unfold qq_H0
  refine ⟨fun q hq => ?_, ?_, ?_, ?_, ?_, ?_, fun j hj => ?_⟩
  · rw [jj_up_ne hq, jj_up_ne hq, jj_up_ne hq, jj_up_ne hq, jj_up_ne hq]
  all_goals simp (disch := omega) only [jj_up_same, pk_us, pk_un, pp_0]
theorem pr_loop0 {F w h d v : Nat} {a1 a2 a3 a4 : Int32} (hF : 300 ≤ F) : pp_S (jj_lp5 (b_rRef_init_352 F (fun σ40 _ _ _ _ _ => some σ40)) F (qq_H0 w h d v) a1 a2 a3 a4 (0 : Int32)) (fun τ => (∀ l, l < 216 → τ 19 l = qq_m ∧ τ 20 l = nI d) ∧ ∀ q, q ≠ 19 → q ≠ 20 → τ q = qq_H0 w h d v q) := by
  obtain ⟨z, g0, g1, g2, g3, g4, g5⟩ := qq_H0_in w h d v
  rw [pp_0]
  refine pp_lp5 (e := 216) (I := fun i τ => (∀ l, l < i → τ 19 l = qq_m ∧ τ 20 l = nI d) ∧ ∀ q, q ≠ 19 → q ≠ 20 → τ q = qq_H0 w h d v q) ?_ ?_ F 0 _ (by omega) (by omega) ⟨fun l hl => absurd hl (by omega), fun q _ _ => rfl⟩
  · intro rec τ1 hI
    unfold b_rRef_init_352
    rw [pp_216, if_pos (by rw [pp_le (by omega) (by omega)]; omega)]
    exact pp_some hI
  · intro rec i τ1 hi ⟨I1, I2⟩ ih
    have f2 : τ1 0 2 = nI d := by rw [I2 0 (by decide) (by decide)]; exact g2
    have hni : ¬ 216 ≤ i := by omega
    have B : b_rRef_init_352 F (fun σ40 _ _ _ _ _ => some σ40) rec τ1 a1 a2 a3 a4 (nI i) = rec (jj_up (jj_up τ1 19 i qq_m) 20 i (nI d)) a1 a2 a3 a4 (nI (i + 1)) := by
      clear I1 I2 ih
      simp (disch := omega) only [b_rRef_init_352, pp_216, pp_le, hni, if_false, pp_ckE, pp_cl, pp_st, jj_up_ne, f2, pp_1, pp_n1, nI_add]
    rw [B]
    refine ih _ ⟨fun l hl => ?_, fun q q1 q2 => ?_⟩
    · rw [jj_up_same, jj_up_ne (show (19 : Nat) ≠ 20 by decide), jj_up_ne (show (20 : Nat) ≠ 19 by decide), jj_up_same]
      by_cases e : l = i
      · subst e; exact ⟨pk_us, pk_us⟩
      · rw [pk_un e, pk_un e]; exact I1 l (by omega)
    · rw [jj_up_ne q2, jj_up_ne q1]; exact I2 q q1 q2
/-- the relation at the beginning -/
theorem qq_start {w h d v : Nat} {σ τ : jj_S} (hD : qq_D w h d v) (hZ : qq_Z w h d v σ τ) (hs : ∀ q, q ≠ 1 → q ≠ 2 → q ≠ 3 → q ≠ 7 → q ≠ 8 → q ≠ 20 → q ≠ 24 → σ q = fun _ => 0) (s28 : σ 2 8 = nI 0) (h78 : ∀ s, s < w * h * 6 * (2 * v) → σ 7 s = nI d ∧ σ 8 s = qq_m) (ht : ∀ q, q ≠ 0 → q ≠ 19 → q ≠ 20 → τ q = fun _ => 0) (t0 : ∀ j, 5 ≤ j → τ 0 j = nI 0) (h19 : ∀ l, l < 216 → τ 19 l = qq_m ∧ τ 20 l = nI d) : qq_Rel w h d v 0 0 σ τ := by
  have h9 := qq_n9 hD
  have h2v : 2 * v ≤ 4 := by have := hD.2.2.2.2; omega
  have hno : ∀ t a i k p, ¬ qq_KT 0 τ t a i k p := by
    intro t a i k p ⟨hk, hK⟩
    rw [ht 11 (by decide) (by decide) (by decide), ht 14 (by decide) (by decide) (by decide), ht 17 (by decide) (by decide) (by decide)] at hK
    rcases hK with ⟨-, -, ha, ⟨ct, c1, c2, c3⟩, -⟩ | ⟨-, -, ha, ⟨ct, c1, c2, c3⟩, -⟩ | ⟨-, -, ha, ⟨ct, c1, c2, c3⟩, -⟩ | ⟨-, hp, ha, rfl, j, hj, e⟩ | ⟨-, -, -, hi, -⟩
    · have c1 : nI 0 = nI ct := c1
      rw [pp_eq (by omega) (by omega)] at c1; omega
    · have c1 : nI 0 = nI ct := c1
      rw [pp_eq (by omega) (by omega)] at c1; omega
    · have c1 : nI 0 = nI ct := c1
      rw [pp_eq (by omega) (by omega)] at c1; omega
    · have hl := qq_len_in (τ 3 k) p
      rw [(h19 a ha).1, pp_m1' (by omega)] at e; exact e
    · omega
  refine ⟨hZ, ?_, ?_, ?_, ?_, ?_, ?_, ?_, ?_, ?_⟩
  · unfold qq_M
    rw [hs 10 (by decide) (by decide) (by decide) (by decide) (by decide) (by decide) (by decide), hs 17 (by decide) (by decide) (by decide) (by decide) (by decide) (by decide) (by decide), hs 0 (by decide) (by decide) (by decide) (by decide) (by decide) (by decide) (by decide), t0 5 (by decide), t0 12 (by decide), t0 15 (by decide), t0 16 (by decide), s28]
    exact ⟨rfl, rfl, rfl, rfl, rfl, rfl⟩
  · exact ⟨⟨by omega, fun k hk => absurd hk (by omega)⟩, fun j hj => absurd hj (by omega)⟩
  · unfold qq_WT
    rw [hs 28 (by decide) (by decide) (by decide) (by decide) (by decide) (by decide) (by decide), hs 29 (by decide) (by decide) (by decide) (by decide) (by decide) (by decide) (by decide), ht 9 (by decide) (by decide) (by decide), ht 10 (by decide) (by decide) (by decide)]
    exact ⟨fun _ _ => rfl, fun _ _ => rfl⟩
  · unfold qq_QT
    rw [hs 22 (by decide) (by decide) (by decide) (by decide) (by decide) (by decide) (by decide), hs 23 (by decide) (by decide) (by decide) (by decide) (by decide) (by decide) (by decide), hs 26 (by decide) (by decide) (by decide) (by decide) (by decide) (by decide) (by decide), hs 27 (by decide) (by decide) (by decide) (by decide) (by decide) (by decide) (by decide), ht 11 (by decide) (by decide) (by decide), ht 13 (by decide) (by decide) (by decide), ht 14 (by decide) (by decide) (by decide), ht 16 (by decide) (by decide) (by decide)]
    exact ⟨fun n hn => ⟨0, 0, by omega, rfl, rfl, rfl, rfl, fun _ => rfl, fun i hi => absurd hi (by omega)⟩, fun n hn => ⟨0, 0, by omega, rfl, rfl, rfl, rfl, fun _ => rfl, fun i hi => absurd hi (by omega)⟩⟩
  · intro n sd c hn hsd hc
    obtain ⟨q1, q2, q3⟩ := qq_geo hD hn hsd
    have a1 := h78 _ (qq_s_lt hn hsd hc)
    have a2 := h78 _ (qq_s_lt q1 q2 hc)
    have a3 := h19 _ (qq_l_lt (n := n) (sd := sd) (c := c) (by omega) hsd (by omega)).1
    have hd1 := hD.2.2.1.1
    rw [hs 4 (by decide) (by decide) (by decide) (by decide) (by decide) (by decide) (by decide), hs 5 (by decide) (by decide) (by decide) (by decide) (by decide) (by decide) (by decide), hs 6 (by decide) (by decide) (by decide) (by decide) (by decide) (by decide) (by decide), hs 9 (by decide) (by decide) (by decide) (by decide) (by decide) (by decide) (by decide), ht 17 (by decide) (by decide) (by decide), ht 18 (by decide) (by decide) (by decide), ht 21 (by decide) (by decide) (by decide)]
    exact ⟨0, 0, d, 0, by omega, rfl, rfl, rfl, a2.1, a3.2, rfl, rfl, by rw [if_pos a3.1]; omega, fun i hi => absurd hi (by omega), Or.inl ⟨a1.2, a3.1⟩⟩
  · unfold qq_RT
    rw [hs 32 (by decide) (by decide) (by decide) (by decide) (by decide) (by decide) (by decide), hs 33 (by decide) (by decide) (by decide) (by decide) (by decide) (by decide) (by decide), hs 34 (by decide) (by decide) (by decide) (by decide) (by decide) (by decide) (by decide), hs 35 (by decide) (by decide) (by decide) (by decide) (by decide) (by decide) (by decide), hs 36 (by decide) (by decide) (by decide) (by decide) (by decide) (by decide) (by decide), hs 37 (by decide) (by decide) (by decide) (by decide) (by decide) (by decide) (by decide), ht 22 (by decide) (by decide) (by decide), ht 23 (by decide) (by decide) (by decide), ht 24 (by decide) (by decide) (by decide), ht 25 (by decide) (by decide) (by decide), ht 26 (by decide) (by decide) (by decide), ht 27 (by decide) (by decide) (by decide)]
    have hv1 := hD.2.2.2.1
    exact ⟨fun n sd c _ _ _ => ⟨0, 0, 0, 0, by omega, by omega, by omega, by omega, rfl, rfl, rfl, rfl, fun h0 => absurd rfl h0, rfl, rfl, rfl, rfl⟩, fun n sd _ _ => ⟨0, 0, by omega, by omega, rfl, rfl, rfl, rfl⟩⟩
  · intro l hl _
    rw [ht 17 (by decide) (by decide) (by decide), ht 21 (by decide) (by decide) (by decide)]
    exact ⟨rfl, (h19 l hl).1, (h19 l hl).2, rfl⟩
  · intro t a i t' a' i' k p p' h1 h2
    exact absurd h1 (hno _ _ _ _ _)
  · intro t a i k p h1
    exact absurd h1 (hno _ _ _ _ _)
/-- both constructors -/
theorem qq_init {F : Nat} (hF : 300 ≤ F) (a1 a2 a3 a4 : Int32) : ∃ (w h d v : Nat) (σ τ : jj_S), qq_D w h d v ∧ f_Mesh_init (w * h) (w * h * 6 * (2 * v)) (w * h * 6 * (2 * v) * d) F (fun _ _ => 0) a1 a2 a3 a4 = some σ ∧ f_rRef_init F (fun _ _ => 0) a1 a2 a3 a4 = some τ ∧ qq_Rel w h d v 0 0 σ τ := by
  obtain ⟨w, w1, w2, w3, w4⟩ := qq_clamp a1 3 (by decide) (by decide)
  obtain ⟨h, x1, x2, x3, x4⟩ := qq_clamp a2 3 (by decide) (by decide)
  obtain ⟨d, d1, d2, d3, d4⟩ := qq_clamp a3 4 (by decide) (by decide)
  obtain ⟨v, v1, v2, v3, v4⟩ := qq_clamp a4 2 (by decide) (by decide)
  have hD : qq_D w h d v := ⟨⟨w1, w2⟩, ⟨x1, x2⟩, ⟨d1, d2⟩, ⟨v1, v2⟩⟩
  obtain ⟨σ, M1, σ1, M2, M3⟩ := pc_mesh0 hF hD (pc_grid0 w3 x3 d3 v3)
  have T := pr_init0 (F := F) w4 x4 d4 v4
  obtain ⟨τ, T1, T2, T3⟩ := pr_loop0 (F := F) (w := w) (h := h) (d := d) (v := v) (a1 := a1) (a2 := a2) (a3 := a3) (a4 := a4) hF
  refine ⟨w, h, d, v, σ, τ, hD, M1, by rw [T]; exact T1, ?_⟩
  obtain ⟨z, g0, g1, g2, g3, g4, g5, g6⟩ := qq_G0_in w h d v
  obtain ⟨y, y0, y1, y2, y3, y4, y5⟩ := qq_H0_in w h d v
  obtain ⟨k1, k2, k3, k4, k5⟩ := qq_G2_in σ1
  obtain ⟨N1, N2, N3⟩ := M2
  have c1 : σ 1 = qq_G0 w h d v 1 := by rw [M3, k1 1 (by decide) (by decide), N3 1 (by decide) (by decide) (by decide), jj_up_ne (by decide)]
  have c2 : σ 2 = upd (qq_G0 w h d v 2) 0 (nI d) := by rw [M3, k1 2 (by decide) (by decide), N3 2 (by decide) (by decide) (by decide), jj_up_same]
  have c0 : τ 0 = qq_H0 w h d v 0 := T3 0 (by decide) (by decide)
  refine qq_start hD ⟨?_, ?_, ?_, ?_⟩ ?_ ?_ ?_ ?_ ?_ T2
  · rw [c1]; exact ⟨g0, g1, g2, g3, g4, g5⟩
  · rw [c2, pk_us, M3]; exact ⟨rfl, k2, k3, k4, k5⟩
  · rw [c0]; exact ⟨y0, y1, y2, y3, y4⟩
  · intro n sd c a b e
    rw [M3, k1 3 (by decide) (by decide)]
    exact N1 n sd c a b e (qq_s_lt a b e)
  · intro q q1 q2 q3 q7 q8 q20 q24
    rw [M3, k1 q q20 q24, N3 q q3 q7 q8, jj_up_ne q2]; exact z q q1
  · rw [c2, pk_un (by decide), z 2 (by decide)]; rfl
  · intro s hs
    rw [M3, k1 7 (by decide) (by decide), k1 8 (by decide) (by decide)]; exact N2 s hs
  · intro q q0 q19 q20
    rw [T3 q q19 q20]; exact y q q0
  · intro j hj
    rw [c0]; exact y5 j hj
