/-! THE RELATION. w columns, h rows, d the lanes' depth, C channels; n a node, sd one of its six sides (5: the interface), c a channel. -/
def qq_s (C n sd c : Nat) : Nat := (n * 6 + sd) * C + c
def qq_l (n sd c : Nat) : Nat := if sd < 5 then 4 * (5 * n + sd) + c else 180 + 4 * n + c
/-- the other end of a side's link: node and side (itself, where there is none) -/
def qq_f (w h n sd : Nat) : Nat × Nat :=
  if sd = 0 then (n, 5) else if sd = 1 then (if n % w + 1 < w then (n + 1, 2) else (n, 1)) else if sd = 2 then (if 0 < n % w then (n - 1, 1) else (n, 2)) else if sd = 3 then (if n / w + 1 < h then (n + w, 4) else (n, 3)) else if sd = 4 then (if 0 < n / w then (n - w, 3) else (n, 4)) else (n, 0)
/-- the side leads somewhere -/
def qq_o (w h n sd : Nat) : Bool :=
  if sd = 1 then decide (n % w + 1 < w) else if sd = 2 then decide (0 < n % w) else if sd = 3 then decide (n / w + 1 < h) else if sd = 4 then decide (0 < n / w) else true
def qq_D (w h d v : Nat) : Prop := (1 ≤ w ∧ w ≤ 3) ∧ (1 ≤ h ∧ h ≤ 3) ∧ (1 ≤ d ∧ d ≤ 4) ∧ (1 ≤ v ∧ v ≤ 2)
def qq_len (x : Int32) (p : Nat) : Nat := if x = 0 then 2 else if p = 0 then 3 else 1
/-- a flit of the class and a flit of the reference: number k, reply or not (p), place in its packet (j) -/
def qq_F (made : Nat) (wr : Nat → Int32) (cf rf : Int32) : Prop := ∃ k p j : Nat, k < made ∧ p < 2 ∧ j < qq_len (wr k) p ∧ rf = nI (4 * (2 * k + p) + j) ∧ cf = nI (4 * k + 2 * p + (if j + 1 = qq_len (wr k) p then 1 else 0))
/-- a lane: s its slot, f the slot at the other end, l its number in the reference -/
def qq_L (d made : Nat) (wr c4 c5 c6 c7 c8 c9 r17 r18 r19 r20 r21 : Nat → Int32) (s f l : Nat) : Prop := ∃ sz fi cr bk : Nat, fi < d ∧ c6 s = nI sz ∧ r17 l = nI sz ∧ c5 s = nI fi ∧ c7 f = nI cr ∧ r20 l = nI cr ∧ c9 f = nI bk ∧ r21 l = nI bk ∧ sz + cr + bk + (if r19 l = qq_m then 0 else 1) ≤ d ∧ (∀ i, i < sz → qq_F made wr (c4 (s * d + (fi + i) % d)) (r18 (4 * l + i))) ∧ ((c8 s = qq_m ∧ r19 l = qq_m) ∨ qq_F made wr (c8 s) (r19 l))
def qq_LL (w h d C made : Nat) (wr c4 c5 c6 c7 c8 c9 r17 r18 r19 r20 r21 : Nat → Int32) : Prop := ∀ n sd c : Nat, n < w * h → sd < 6 → c < C → qq_L d made wr c4 c5 c6 c7 c8 c9 r17 r18 r19 r20 r21 (qq_s C n sd c) (qq_s C (qq_f w h n sd).1 (qq_f w h n sd).2 c) (qq_l n sd c)
/-- a router's input lane and output -/
def qq_R (w h n : Nat) (c32 c33 c34 c35 r22 r23 r24 r25 : Nat → Int32) (s l : Nat) : Prop := ∃ st wy tk tn : Nat, st ≤ 2 ∧ wy < 5 ∧ tk < 2 ∧ tn < 5 ∧ c32 s = nI st ∧ r22 l = nI st ∧ c33 s = nI wy ∧ r23 l = nI wy ∧ (st ≠ 0 → qq_o w h n wy = true) ∧ c34 s = nI tk ∧ r24 l = nI tk ∧ c35 s = nI tn ∧ r25 l = nI tn
def qq_RR (w h C : Nat) (c32 c33 c34 c35 r22 r23 r24 r25 : Nat → Int32) : Prop := ∀ n sd c : Nat, n < w * h → sd < 5 → c < C → qq_R w h n c32 c33 c34 c35 r22 r23 r24 r25 (qq_s C n sd c) (qq_l n sd c)
def qq_T (w h C : Nat) (c36 c37 r26 r27 : Nat → Int32) : Prop := ∀ n sd : Nat, n < w * h → sd < 5 → ∃ a b : Nat, a < C ∧ b < 5 ∧ c36 (5 * n + sd) = nI a ∧ r26 (5 * n + sd) = nI a ∧ c37 (5 * n + sd) = nI b ∧ r27 (5 * n + sd) = nI b
/-- a queue of packets at a node: room, and 0 for requests, 1 for replies -/
def qq_Q (room p made : Nat) (wr cn cc cg rn rc rg : Nat → Int32) (n : Nat) : Prop := ∃ ct g : Nat, ct ≤ room ∧ cc n = nI ct ∧ rc n = nI ct ∧ cg n = nI g ∧ rg n = nI g ∧ (ct = 0 → g = 0) ∧ ∀ i, i < ct → ∃ k : Nat, k < made ∧ cn (room * n + i) = nI k ∧ rn (room * n + i) = nI (2 * k + p) ∧ (i = 0 → g < qq_len (wr k) p)
def qq_QQ (room p N made : Nat) (wr cn cc cg rn rc rg : Nat → Int32) : Prop := ∀ n, n < N → qq_Q room p made wr cn cc cg rn rc rg n
/-- what is known of the requests -/
def qq_P (N made : Nat) (c11 c12 c13 c14 r1 r2 r3 r4 : Nat → Int32) : Prop := made ≤ 400 ∧ ∀ k, k < made → ∃ a b x wd : Nat, a < N ∧ b < N ∧ x < 2 ∧ wd < 8 ∧ c11 k = nI a ∧ r1 k = nI a ∧ c12 k = nI b ∧ r2 k = nI b ∧ c13 k = nI x ∧ r3 k = nI x ∧ c14 k = nI wd ∧ r4 k = nI wd
def qq_C (cpl made : Nat) (c18 c19 r7 r8 : Nat → Int32) : Prop := ∀ j, j < cpl → (∃ k, k < made ∧ c18 j = nI k ∧ r7 j = nI k) ∧ c19 j = r8 j
/-- lanes of the reference that are never used -/
def qq_E (w h d C : Nat) (r17 r19 r20 r21 : Nat → Int32) : Prop := ∀ l, l < 216 → (∀ n sd c, n < w * h → sd < 6 → c < C → qq_o w h n sd = true → l ≠ qq_l n sd c) → r17 l = 0 ∧ r19 l = qq_m ∧ r20 l = nI d ∧ r21 l = nI 0
/-- a token: the last flit of a packet, or a packet that waits, or a complete reply. Its place: kind, row, index -/
def qq_K (cpl : Nat) (wr r7 r11 r12 r14 r15 r17 r18 r19 : Nat → Int32) (t a i k p : Nat) : Prop := k < 400 ∧ (
  (t = 0 ∧ p = 0 ∧ a < 9 ∧ (∃ ct : Nat, r11 a = nI ct ∧ ct ≤ 4 ∧ i < ct) ∧ r12 (4 * a + i) = nI (2 * k)) ∨
  (t = 1 ∧ p = 1 ∧ a < 9 ∧ (∃ ct : Nat, r14 a = nI ct ∧ ct ≤ 2 ∧ i < ct) ∧ r15 (2 * a + i) = nI (2 * k + 1)) ∨
  (t = 2 ∧ p < 2 ∧ a < 216 ∧ (∃ sz : Nat, r17 a = nI sz ∧ sz ≤ 4 ∧ i < sz) ∧ ∃ j, j + 1 = qq_len (wr k) p ∧ r18 (4 * a + i) = nI (4 * (2 * k + p) + j)) ∨
  (t = 3 ∧ p < 2 ∧ a < 216 ∧ i = 0 ∧ ∃ j, j + 1 = qq_len (wr k) p ∧ r19 a = nI (4 * (2 * k + p) + j)) ∨
  (t = 4 ∧ p = 1 ∧ a = 0 ∧ i < cpl ∧ r7 i = nI k))
theorem qq_all {P : Nat → Nat → Nat → Nat → Bool} (a b c e : Nat) (h : ((List.range a).all fun w => (List.range b).all fun x => (List.range c).all fun n => (List.range e).all fun s => P w x n s) = true) : ∀ w x n s, w < a → x < b → n < c → s < e → P w x n s = true := by
  intro w x n s hw hx hn hs
  have h1 := List.all_eq_true.mp h w (List.mem_range.mpr hw)
  have h2 := List.all_eq_true.mp h1 x (List.mem_range.mpr hx)
  have h3 := List.all_eq_true.mp h2 n (List.mem_range.mpr hn)
  exact List.all_eq_true.mp h3 s (List.mem_range.mpr hs)
theorem qq_geo {w h d v n sd : Nat} (hD : qq_D w h d v) (hn : n < w * h) (hs : sd < 6) : (qq_f w h n sd).1 < w * h ∧ (qq_f w h n sd).2 < 6 ∧ qq_f w h (qq_f w h n sd).1 (qq_f w h n sd).2 = (n, sd) := by
  have h9 : w * h ≤ 9 := Nat.le_trans (Nat.mul_le_mul hD.1.2 hD.2.1.2) (by decide)
  have k := qq_all (P := fun w h n sd => decide ((1 ≤ w ∧ 1 ≤ h ∧ n < w * h) → (qq_f w h n sd).1 < w * h ∧ (qq_f w h n sd).2 < 6 ∧ qq_f w h (qq_f w h n sd).1 (qq_f w h n sd).2 = (n, sd))) 4 4 9 6 (by decide +kernel) w h n sd (by have := hD.1.2; omega) (by have := hD.2.1.2; omega) (by omega) hs
  exact of_decide_eq_true k ⟨hD.1.1, hD.2.1.1, hn⟩
theorem qq_geo2 {w h d v n sd : Nat} (hD : qq_D w h d v) (hn : n < w * h) (hs : sd < 5) (ho : qq_o w h n sd = true) : qq_l (qq_f w h n sd).1 (qq_f w h n sd).2 0 = (if sd = 0 then 180 + 4 * n else if sd = 1 then 4 * (5 * (n + 1) + 2) else if sd = 2 then 4 * (5 * (n - 1) + 1) else if sd = 3 then 4 * (5 * (n + w) + 4) else 4 * (5 * (n - w) + 3)) ∧ (sd = 2 → 1 ≤ n) ∧ (sd = 4 → w ≤ n) := by
  have h9 : w * h ≤ 9 := Nat.le_trans (Nat.mul_le_mul hD.1.2 hD.2.1.2) (by decide)
  have k := qq_all (P := fun w h n sd => decide ((1 ≤ w ∧ 1 ≤ h ∧ n < w * h ∧ qq_o w h n sd = true) → (qq_l (qq_f w h n sd).1 (qq_f w h n sd).2 0 = (if sd = 0 then 180 + 4 * n else if sd = 1 then 4 * (5 * (n + 1) + 2) else if sd = 2 then 4 * (5 * (n - 1) + 1) else if sd = 3 then 4 * (5 * (n + w) + 4) else 4 * (5 * (n - w) + 3)) ∧ (sd = 2 → 1 ≤ n) ∧ (sd = 4 → w ≤ n)))) 4 4 9 5 (by decide +kernel) w h n sd (by have := hD.1.2; omega) (by have := hD.2.1.2; omega) (by omega) hs
  exact of_decide_eq_true k ⟨hD.1.1, hD.2.1.1, hn, ho⟩
theorem qq_n9 {w h d v : Nat} (hD : qq_D w h d v) : w * h ≤ 9 := by
  obtain ⟨⟨_, h1⟩, ⟨_, h2⟩, _⟩ := hD
  exact Nat.le_trans (Nat.mul_le_mul h1 h2) (by decide)
theorem qq_s_lt {N C n sd c : Nat} (hn : n < N) (hs : sd < 6) (hc : c < C) : qq_s C n sd c < N * 6 * C := by
  unfold qq_s
  have h1 : n * 6 + sd + 1 ≤ N * 6 := by omega
  have h2 : (n * 6 + sd + 1) * C ≤ N * 6 * C := Nat.mul_le_mul_right C h1
  have h3 : (n * 6 + sd + 1) * C = (n * 6 + sd) * C + C := Nat.succ_mul _ _
  omega
theorem qq_s_inj {C n sd c n' sd' c' : Nat} (hs : sd < 6) (hc : c < C) (hs' : sd' < 6) (hc' : c' < C) (e : qq_s C n sd c = qq_s C n' sd' c') : n = n' ∧ sd = sd' ∧ c = c' := by
  unfold qq_s at e
  have h1 : (n * 6 + sd) = (n' * 6 + sd') := by
    have a1 : ((n * 6 + sd) * C + c) / C = n * 6 + sd := by rw [Nat.mul_comm, Nat.mul_add_div (by omega), Nat.div_eq_of_lt hc]; rfl
    have a2 : ((n' * 6 + sd') * C + c') / C = n' * 6 + sd' := by rw [Nat.mul_comm, Nat.mul_add_div (by omega), Nat.div_eq_of_lt hc']; rfl
    rw [← a1, ← a2, e]
  rw [h1] at e
  omega
theorem qq_l_inj {n sd c n' sd' c' : Nat} (hn : n < 9) (hn' : n' < 9) (hs : sd < 6) (hc : c < 4) (hs' : sd' < 6) (hc' : c' < 4) (e : qq_l n sd c = qq_l n' sd' c') : n = n' ∧ sd = sd' ∧ c = c' := by
  unfold qq_l at e
  split at e <;> split at e <;> omega
theorem qq_l_lt {n sd c : Nat} (hn : n < 9) (hs : sd < 6) (hc : c < 4) : qq_l n sd c < 216 ∧ (sd < 5 → qq_l n sd c < 180) := by
  unfold qq_l
  split <;> omega
