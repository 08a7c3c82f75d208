/-! CONSTRUCTORS: the world grows. Its addresses stand in a list. -/
def jj_ad (L : List Nat) (k : Nat) : Nat := L.getD k 0
def jj_nw (σ : jj_S) (k : Nat) : jj_S := fun k' => if k' = k then (fun _ => 0) else σ k'
def jj_na {β : Type} (N : Nat) (x : Int32) (o : Option β) : Option β := if x = nI N ∧ N ≤ 1000 then o else none
def jj_bz {β : Type} (x : Int32) (o : Option β) : Option β := if x = 0 ∨ x = 1 then o else none
def jj_jn {β : Type} (b : (Int32 → Option β) → Option β) (K : Int32 → Option β) : Option β := b K
theorem jj_na_in {β : Type} {N : Nat} {x : Int32} {o : Option β} {z : β} (h : jj_na N x o = some z) : (x = nI N ∧ N ≤ 1000) ∧ o = some z := by
  unfold jj_na at h
  by_cases hc : x = nI N ∧ N ≤ 1000
  · rw [if_pos hc] at h; exact ⟨hc, h⟩
  · rw [if_neg hc] at h; cases h
theorem jj_bz_in {β : Type} {x : Int32} {o : Option β} {z : β} (h : jj_bz x o = some z) : (x = 0 ∨ x = 1) ∧ o = some z := by
  unfold jj_bz at h
  by_cases hc : x = 0 ∨ x = 1
  · rw [if_pos hc] at h; exact ⟨hc, h⟩
  · rw [if_neg hc] at h; cases h
/-- addresses alone say that cells are apart -/
def jj_dx (A : Nat → Prop) (ad : Nat → Nat) (n : Nat) : Prop := (∀ i j, i < n → j < n → ad i = ad j → i = j) ∧ ∀ i, i < n → A (ad i)
theorem jj_w_len (ad : Nat → Nat) (cA : FieldType → ClassId) (G : List jj_H) (σ : jj_S) : (jj_w ad cA G σ).length = G.length := by simp [jj_w]
theorem jj_w_at {ad : Nat → Nat} {cA : FieldType → ClassId} {G : List jj_H} {σ : jj_S} {i : Nat} {q : Nat × va_E} (h : (jj_w ad cA G σ)[i]? = some q) : i < G.length ∧ q.1 = ad i := by
  have hl : i < (jj_w ad cA G σ).length := (List.getElem?_eq_some_iff.mp h).1
  rw [jj_w_len] at hl
  refine ⟨hl, ?_⟩
  rw [jj_w_get σ (List.getElem?_eq_getElem hl)] at h
  rw [← Option.some.inj h, jj_cell_ad]
theorem jj_w_ex {ad : Nat → Nat} {cA : FieldType → ClassId} {G : List jj_H} {σ : jj_S} {i : Nat} (h : i < G.length) : ∃ q, (jj_w ad cA G σ)[i]? = some q ∧ q.1 = ad i :=
  ⟨_, jj_w_get σ (List.getElem?_eq_getElem h), jj_cell_ad ..⟩
theorem jj_dx_iff {A : Nat → Prop} {ad : Nat → Nat} {cA : FieldType → ClassId} {G : List jj_H} {σ : jj_S} : va_D A (jj_w ad cA G σ) ↔ jj_dx A ad G.length := by
  constructor
  · intro h
    refine ⟨fun i j hi hj e => ?_, fun i hi => ?_⟩
    · obtain ⟨p, hp, ep⟩ := jj_w_ex (ad := ad) (cA := cA) (σ := σ) hi
      obtain ⟨q, hq, eq⟩ := jj_w_ex (ad := ad) (cA := cA) (σ := σ) hj
      exact h.1 i j p q hp hq (by rw [ep, eq, e])
    · obtain ⟨p, hp, ep⟩ := jj_w_ex (ad := ad) (cA := cA) (σ := σ) hi
      rw [← ep]; exact h.2 i p hp
  · intro h
    refine ⟨fun i j p q hp hq e => ?_, fun k q hq => ?_⟩
    · obtain ⟨a1, a2⟩ := jj_w_at hp
      obtain ⟨b1, b2⟩ := jj_w_at hq
      exact h.1 i j a1 b1 (by rw [← a2, ← b2, e])
    · obtain ⟨a1, a2⟩ := jj_w_at hq
      rw [a2]; exact h.2 k a1
theorem jj_w_ad {ad ad' : Nat → Nat} {cA : FieldType → ClassId} {G : List jj_H} {σ : jj_S} (hr : ∀ (k : Nat) (o : Nat × List (Option (Option Nat))) (j r : Nat), G[k]? = some (.inl o) → o.2[j]? = some (some (some r)) → ad r = ad' r) (h : ∀ i, i < G.length → ad i = ad' i) : jj_w ad cA G σ = jj_w ad' cA G σ := by
  apply List.ext_getElem?
  intro i
  by_cases hi : i < G.length
  · have hg := List.getElem?_eq_getElem hi
    rw [jj_w_get σ hg, jj_w_get σ hg]
    congr 1
    generalize hx : G[i] = x at hg
    cases x with
    | inr a => simp only [jj_cell]; rw [h i hi]
    | inl o =>
      simp only [jj_cell]
      rw [h i hi]
      congr 3
      apply List.ext_getElem?
      intro j
      rw [List.getElem?_mapIdx, List.getElem?_mapIdx]
      cases hj : o.2[j]? with
      | none => rfl
      | some f =>
        rcases f with _ | _ | r
        · rfl
        · rfl
        · simp only [Option.map_some, jj_fv]; rw [hr i o j r hg hj]
  · rw [List.getElem?_eq_none (by rw [jj_w_len]; omega), List.getElem?_eq_none (by rw [jj_w_len]; omega)]
theorem jj_ad_app {L u : List Nat} {k : Nat} (h : k < L.length) : jj_ad L k = jj_ad (L ++ u) k := by
  simp [jj_ad, List.getD, List.getElem?_append_left h]
theorem jj_ad_new {L : List Nat} {q : Nat} : jj_ad (L ++ [q]) L.length = q := by
  simp [jj_ad, List.getD]
/-- all references of the shapes are to cells that stand -/
def jj_cl (G : List jj_H) : Bool := G.all (fun h => match h with
  | .inl o => o.2.all (fun f => match f with
    | some (some r) => decide (r < G.length)
    | _ => true)
  | .inr _ => true)
theorem jj_cl_at {G : List jj_H} (h : jj_cl G = true) {k j r : Nat} {o : Nat × List (Option (Option Nat))} (hk : G[k]? = some (.inl o)) (hj : o.2[j]? = some (some (some r))) : r < G.length := by
  have h1 := List.all_eq_true.mp h _ (List.mem_of_getElem? hk)
  have h2 := List.all_eq_true.mp h1 _ (List.mem_of_getElem? hj)
  simpa using h2
def jj_X (K : Nat) (L : List Nat) (G : List jj_H) : Prop := G.length = L.length ∧ jj_cl G = true ∧ G.length = K
theorem jj_cl_iff {G : List jj_H} : jj_cl G = true ↔ ∀ (k j r : Nat) (o : Nat × List (Option (Option Nat))), G[k]? = some (.inl o) → o.2[j]? = some (some (some r)) → r < G.length := by
  refine ⟨fun h k j r o hk hj => jj_cl_at h hk hj, fun h => ?_⟩
  refine List.all_eq_true.mpr (fun x hx => ?_)
  obtain ⟨k, hk⟩ := List.getElem?_of_mem hx
  cases x with
  | inr a => rfl
  | inl o =>
    refine List.all_eq_true.mpr (fun f hf => ?_)
    obtain ⟨j, hj⟩ := List.getElem?_of_mem hf
    rcases f with _ | _ | r
    · rfl
    · rfl
    · simpa using h k j r o hk hj
theorem jj_X_snoc {K : Nat} {L : List Nat} {G : List jj_H} {x : jj_H} {q : Nat} (h : jj_X K L G) (hx : ∀ (o : Nat × List (Option (Option Nat))) (j r : Nat), x = .inl o → o.2[j]? = some (some (some r)) → False) : jj_X (K + 1) (L ++ [q]) (G ++ [x]) := by
  refine ⟨by simp [h.1], ?_, by rw [List.length_append, h.2.2]; rfl⟩
  refine (jj_cl_iff.mpr (fun k j r o hk hj => ?_))
  rw [List.getElem?_append] at hk
  by_cases hk2 : k < G.length
  · rw [if_pos hk2] at hk
    have := jj_cl_iff.mp h.2.1 k j r o hk hj
    simp only [List.length_append, List.length_cons, List.length_nil]; omega
  · rw [if_neg hk2] at hk
    have h3 : x = .inl o := by
      cases hz : k - G.length with
      | zero => rw [hz] at hk; simpa using hk
      | succ t => rw [hz] at hk; simp at hk
    exact absurd hj (fun hj => hx o j r h3 hj)
theorem jj_X_set {K : Nat} {L : List Nat} {G G' : List jj_H} {k ci j r : Nat} {fs : List (Option (Option Nat))} (h : jj_X K L G) (hG : G[k]? = some (.inl (ci, fs))) (hr : r < K) (hG' : G.set k (.inl (ci, fs.set j (some (some r)))) = G') : jj_X K L G' := by
  subst hG'
  refine ⟨by rw [List.length_set]; exact h.1, ?_, by rw [List.length_set]; exact h.2.2⟩
  refine jj_cl_iff.mpr (fun a b c o ha hb => ?_)
  rw [List.length_set]
  rw [List.getElem?_set] at ha
  by_cases hk : k = a
  · subst hk
    have hlt : k < G.length := (List.getElem?_eq_some_iff.mp hG).1
    rw [if_pos rfl, if_pos hlt] at ha
    cases ha
    have hb : (fs.set j (some (some r)))[b]? = some (some (some c)) := hb
    rw [List.getElem?_set] at hb
    by_cases hj : j = b
    · rw [if_pos hj] at hb
      by_cases hjl : j < fs.length
      · rw [if_pos hjl] at hb; cases hb; rw [h.2.2]; exact hr
      · rw [if_neg hjl] at hb; cases hb
    · rw [if_neg hj] at hb
      exact jj_cl_iff.mp h.2.1 k b c _ hG hb
  · rw [if_neg hk] at ha
    exact jj_cl_iff.mp h.2.1 a b c o ha hb
theorem jj_w_grow {L u : List Nat} {cA : FieldType → ClassId} {G : List jj_H} {σ : jj_S} (hL : G.length = L.length) (hc : jj_cl G = true) : jj_w (jj_ad L) cA G σ = jj_w (jj_ad (L ++ u)) cA G σ :=
  jj_w_ad (fun k o j r hk hj => jj_ad_app (by rw [← hL]; exact jj_cl_at hc hk hj)) (fun i hi => jj_ad_app (by rw [← hL]; exact hi))
theorem jj_w_sg {ad : Nat → Nat} {cA : FieldType → ClassId} {G : List jj_H} {σ σ' : jj_S} (h : ∀ k, k < G.length → σ k = σ' k) : jj_w ad cA G σ = jj_w ad cA G σ' := by
  apply List.ext_getElem?
  intro i
  by_cases hi : i < G.length
  · have hg := List.getElem?_eq_getElem hi
    rw [jj_w_get σ hg, jj_w_get σ' hg]
    have e := h i hi
    generalize G[i] = x
    cases x with
    | inr a => simp only [jj_cell]; rw [e]
    | inl o =>
      simp only [jj_cell]
      have e2 : jj_fv ad σ i = jj_fv ad σ' i := by
        funext j f
        rcases f with _ | _ | r <;> simp [jj_fv, e]
      rw [e2]
  · rw [List.getElem?_eq_none (by rw [jj_w_len]; omega), List.getElem?_eq_none (by rw [jj_w_len]; omega)]
theorem jj_w_snoc {ad : Nat → Nat} {cA : FieldType → ClassId} {G : List jj_H} {σ : jj_S} {h : jj_H} : jj_w ad cA (G ++ [h]) σ = jj_w ad cA G σ ++ [jj_cell ad cA σ G.length h] := by
  simp [jj_w, List.mapIdx_append, List.mapIdx_cons, List.mapIdx_nil]
theorem jj_nw_ne {σ : jj_S} {k k' : Nat} (h : k' ≠ k) : jj_nw σ k k' = σ k' := by simp [jj_nw, h]
theorem jj_nw_same {σ : jj_S} {k : Nat} : jj_nw σ k k = fun _ => 0 := by simp [jj_nw]
/-- one cell more -/
theorem jj_w_new {L : List Nat} {cA : FieldType → ClassId} {G : List jj_H} {σ : jj_S} {h : jj_H} {q : Nat} {e : va_E} (hL : G.length = L.length) (hc : jj_cl G = true) (he : jj_cell (jj_ad (L ++ [q])) cA (jj_nw σ G.length) G.length h = (q, e)) : jj_w (jj_ad L) cA G σ ++ [(q, e)] = jj_w (jj_ad (L ++ [q])) cA (G ++ [h]) (jj_nw σ G.length) := by
  rw [jj_w_snoc, he, jj_w_grow (u := [q]) hL hc, jj_w_sg (fun k hk => (jj_nw_ne (Nat.ne_of_lt hk)).symm)]
theorem jj_w_setr {ad : Nat → Nat} {cA : FieldType → ClassId} {G : List jj_H} {σ : jj_S} {k ci j r : Nat} {fs : List (Option (Option Nat))} (hG : G[k]? = some (.inl (ci, fs))) : (jj_w ad cA G σ).set k (ad k, .inr (ci, (fs.mapIdx (jj_fv ad σ k)).set j (.ref (ad r)))) = jj_w ad cA (G.set k (.inl (ci, fs.set j (some (some r))))) σ := by
  apply List.ext_getElem?
  intro i
  have hlt : k < G.length := (List.getElem?_eq_some_iff.mp hG).1
  rw [List.getElem?_set]
  by_cases hj : k = i
  · subst hj
    rw [if_pos rfl, if_pos (by rw [jj_w_len]; exact hlt)]
    have h2 : (G.set k (.inl (ci, fs.set j (some (some r)))))[k]? = some (.inl (ci, fs.set j (some (some r)))) := by
      rw [List.getElem?_set, if_pos rfl, if_pos hlt]
    rw [jj_w_get σ h2]
    simp only [jj_cell]
    congr 4
    apply List.ext_getElem?
    intro a
    rw [List.getElem?_set, List.getElem?_mapIdx, List.getElem?_mapIdx, List.getElem?_set]
    by_cases hja : j = a
    · subst hja
      by_cases hjl : j < fs.length
      · rw [if_pos rfl, if_pos (by rw [List.length_mapIdx]; exact hjl), if_pos rfl, if_pos hjl]; rfl
      · rw [if_pos rfl, if_neg (by rw [List.length_mapIdx]; exact hjl), if_pos rfl, if_neg hjl]; rfl
    · rw [if_neg hja, if_neg hja]
  · rw [if_neg hj]
    simp only [jj_w, List.getElem?_mapIdx, List.getElem?_set]
    rw [if_neg hj]
theorem jj_cA {D : va_G} {cl : List vw_C} {cA : FieldType → ClassId} {s : State} {cX : ClassId} {ty : FieldType} (hty : ty = .int ∨ ty = .boolean) (hK : va_K D cl (jj_t cA ++ [(cX, ty)]) s) : cX = cA ty := by
  have h2 := (hK.2 2 (cX, ty) rfl).2
  rcases hty with rfl | rfl
  · have h1 := (hK.2 0 (cA .int, .int) rfl).2
    exact Option.some.inj (h2.symm.trans h1)
  · have h1 := (hK.2 1 (cA .boolean, .boolean) rfl).2
    exact Option.some.inj (h2.symm.trans h1)
section JC
variable {p : Program} {l : Launch} {e : Env} {R : Room} {s : State} {m : MethodId} {args : Array Value} {below : List Frame} {meth : Method} {c : Code} {D : va_G} {cl : List vw_C} {A : Nat → Prop} {ad : Nat → Nat} {cA : FieldType → ClassId} {G G' : List jj_H} {L : List Nat} {nL cs sl K : Nat} {β : Type} {Q : β → State → Prop} {cc : ByteArray} {own : String} {Ts : List Cond} {σ : jj_S} {pc : Nat} {lv lv' : List (Nat × Value)} {st rest : List Value} {o o1 o2 : Option β}
theorem jj_obj (C : jj_C p R s m args c D cl A ad cA G nL cs sl cc own Ts) {index k : Nat} (h1 : Cond.methodLink own index Lib.objectInit ∈ Ts) (h2 : Cond.instanceMethod Lib.objectInit ∈ Ts) (h3 : Cond.code Lib.objectInit ⟨#[0xb1]⟩ 1 none ∈ Ts) (hf : 1 ≤ R.frames) (hlo : (rest.map fun v => v.category).sum + 12 ≤ R.locals) (hd : decode cc pc = .ok (.invokespecial index, 3)) (kk : jj_J p l e R s m args below meth c D cl A ad cA G nL cs sl Q o σ (pc + 3) lv rest) : jj_J p l e R s m args below meth c D cl A ad cA G nL cs sl Q o σ pc lv (.ref k :: rest) := fun z hz H locs ls hP hS hl => W.objInit C.1 C.2.1 C.2.2.2.1 (C.2.2.2.2.1 _ h1) (C.2.2.2.2.1 _ h2) (C.2.2.2.2.1 _ h3) rfl (by rw [C.2.2.1]; exact hl.1) rfl hd hf (by show 2 * 0 + _ + 12 ≤ _; omega) (kk z hz H locs ls hP hS hl)
theorem jj_putFi (C : jj_C p R s m args c D cl A ad cA G nL cs sl cc own Ts) {Cn : String} {T : u_T} {N ci index : Nat} (k j : Nat) {fs : List (Option (Option Nat))} {x : Int32} (hin : ∀ w ∈ u_ws Cn T N, w ∈ Ts) (hG : G[k]? = some (.inl (ci, fs))) (hc : cl[ci]? = some (Cn, T, N)) (hk : j < N) (hlink : Cond.fieldLink own index (T j).1 (T j).2.1 (T j).2.2.1 ∈ Ts) (ty0 : Nat → FieldType) (hty : ∀ k, k < N → parseFieldDescriptor (T k).2.2.1 = some (ty0 k)) (hnm : ∀ a, a < N → ∀ b, b < N → a ≠ b → (T a).2.1 ≠ (T b).2.1) (hfin : (T j).2.2.2 = true) (hin2 : meth.name = "<init>") (hdecl : (T j).1 = own) (h0 : parseFieldDescriptor (T j).2.2.1 = some .int) (hf : fs[j]? = some none) (hd : decode cc pc = .ok (.putfield index, 3)) (kk : jj_J p l e R s m args below meth c D cl A ad cA G nL cs sl Q o (jj_up σ k j x) (pc + 3) lv rest) : jj_J p l e R s m args below meth c D cl A ad cA G nL cs sl Q o σ pc lv (.int x :: .ref (ad k) :: rest) := by
  intro z hz H locs ls hP hS hl
  refine va_putF (q0 := k) (k := j) C.1 C.2.1 C.2.2.2.2.1 hin ty0 hty hnm C.2.2.2.1 C.2.2.2.2.2.1 hP (C.2.2.2.2.2.2.1 σ) hS (jj_w_get σ hG) hc hk (C.2.2.2.2.1 _ hlink) (fun _ h => h) hfin hin2 hdecl h0 rfl rfl (by rw [List.length_mapIdx]; exact (List.getElem?_eq_some_iff.mp hf).1) hd (fun H1 locs1 hP1 _ hS1 => ?_)
  rw [jj_w_set (x := x) (i := j) hG (by show (ad k, _) = _; rw [jj_fset hf])] at hP1
  exact kk z hz H1 locs1 ls hP1 hS1 hl
theorem jj_putFz (C : jj_C p R s m args c D cl A ad cA G nL cs sl cc own Ts) {Cn : String} {T : u_T} {N ci index : Nat} (k j : Nat) {fs : List (Option (Option Nat))} {x : Int32} (hin : ∀ w ∈ u_ws Cn T N, w ∈ Ts) (hG : G[k]? = some (.inl (ci, fs))) (hc : cl[ci]? = some (Cn, T, N)) (hk : j < N) (hlink : Cond.fieldLink own index (T j).1 (T j).2.1 (T j).2.2.1 ∈ Ts) (ty0 : Nat → FieldType) (hty : ∀ k, k < N → parseFieldDescriptor (T k).2.2.1 = some (ty0 k)) (hnm : ∀ a, a < N → ∀ b, b < N → a ≠ b → (T a).2.1 ≠ (T b).2.1) (hfin : (T j).2.2.2 = true) (hin2 : meth.name = "<init>") (hdecl : (T j).1 = own) (h0 : parseFieldDescriptor (T j).2.2.1 = some .boolean) (hf : fs[j]? = some none) (hd : decode cc pc = .ok (.putfield index, 3)) (kk : jj_J p l e R s m args below meth c D cl A ad cA G nL cs sl Q o (jj_up σ k j x) (pc + 3) lv rest) : jj_J p l e R s m args below meth c D cl A ad cA G nL cs sl Q (jj_bz x o) σ pc lv (.int x :: .ref (ad k) :: rest) := by
  intro z hz H locs ls hP hS hl
  refine va_putF (q0 := k) (k := j) C.1 C.2.1 C.2.2.2.2.1 hin ty0 hty hnm C.2.2.2.1 C.2.2.2.2.2.1 hP (C.2.2.2.2.2.2.1 σ) hS (jj_w_get σ hG) hc hk (C.2.2.2.2.1 _ hlink) (fun _ h => h) hfin hin2 hdecl h0 (by rcases (jj_bz_in hz).1 with rfl | rfl <;> rfl) (by rcases (jj_bz_in hz).1 with rfl | rfl <;> rfl) (by rw [List.length_mapIdx]; exact (List.getElem?_eq_some_iff.mp hf).1) hd (fun H1 locs1 hP1 _ hS1 => ?_)
  rw [jj_w_set (x := x) (i := j) hG (by show (ad k, _) = _; rw [jj_fset hf])] at hP1
  exact kk z (jj_bz_in hz).2 H1 locs1 ls hP1 hS1 hl
theorem jj_putFr (C : jj_C p R s m args c D cl A (jj_ad L) cA G nL cs sl cc own Ts) {Cn : String} {T : u_T} {N ci index : Nat} (k j : Nat) {fs : List (Option (Option Nat))} (r : Nat) {ty : FieldType} (hX : jj_X K L G) (hin : ∀ w ∈ u_ws Cn T N, w ∈ Ts) (hG : G[k]? = some (.inl (ci, fs))) (hc : cl[ci]? = some (Cn, T, N)) (hk : j < N) (hlink : Cond.fieldLink own index (T j).1 (T j).2.1 (T j).2.2.1 ∈ Ts) (ty0 : Nat → FieldType) (hty : ∀ k, k < N → parseFieldDescriptor (T k).2.2.1 = some (ty0 k)) (hnm : ∀ a, a < N → ∀ b, b < N → a ≠ b → (T a).2.1 ≠ (T b).2.1) (hfin : (T j).2.2.2 = true) (hin2 : meth.name = "<init>") (hdecl : (T j).1 = own) (h0 : parseFieldDescriptor (T j).2.2.1 = some ty) (hrl : r < K) (hr : narrow ty (.ref (jj_ad L r)) = .ref (jj_ad L r)) (hft : fits ty (.ref (jj_ad L r)) = true) (hf : j < fs.length) (hd : decode cc pc = .ok (.putfield index, 3)) (hG' : G.set k (.inl (ci, fs.set j (some (some r)))) = G') (kk : jj_C p R s m args c D cl A (jj_ad L) cA G' nL cs sl cc own Ts → jj_X K L G' → jj_J p l e R s m args below meth c D cl A (jj_ad L) cA G' nL cs sl Q o σ (pc + 3) lv rest) : jj_J p l e R s m args below meth c D cl A (jj_ad L) cA G nL cs sl Q o σ pc lv (.ref (jj_ad L r) :: .ref (jj_ad L k) :: rest) := by
  intro z hz H locs ls hP hS hl
  refine va_putF (q0 := k) (k := j) C.1 C.2.1 C.2.2.2.2.1 hin ty0 hty hnm C.2.2.2.1 C.2.2.2.2.2.1 hP (C.2.2.2.2.2.2.1 σ) hS (jj_w_get σ hG) hc hk (C.2.2.2.2.1 _ hlink) (fun _ h => h) hfin hin2 hdecl h0 hr hft (by rw [List.length_mapIdx]; exact hf) hd (fun H1 locs1 hP1 _ hS1 => ?_)
  rw [jj_w_setr hG, hG'] at hP1
  have C' : jj_C p R s m args c D cl A (jj_ad L) cA G' nL cs sl cc own Ts := ⟨C.1, C.2.1, C.2.2.1, C.2.2.2.1, C.2.2.2.2.1, C.2.2.2.2.2.1, fun σ' => jj_dx_iff.mpr (by rw [← hG', List.length_set]; exact jj_dx_iff.mp (C.2.2.2.2.2.2.1 σ')), C.2.2.2.2.2.2.2⟩
  exact kk C' (jj_X_set hX hG hrl hG') z hz H1 locs1 ls hP1 hS1 hl
/-- what stands fast, with one cell more -/
theorem jj_C_new (C : jj_C p R s m args c D cl A (jj_ad L) cA G nL cs sl cc own Ts) {h : jj_H} {q n : Nat} {σ : jj_S} (hD : va_D A (jj_w (jj_ad (L ++ [q])) cA (G ++ [h]) σ)) (h1 : cs + 1 ≤ R.cells) (h2 : sl + n ≤ R.slots) : jj_C p R s m args c D cl A (jj_ad (L ++ [q])) cA (G ++ [h]) nL (cs + 1) (sl + n) cc own Ts :=
  ⟨C.1, C.2.1, C.2.2.1, C.2.2.2.1, C.2.2.2.2.1, C.2.2.2.2.2.1, fun _ => jj_D hD, C.2.2.2.2.2.2.2.1, h1, h2⟩
theorem jj_newi (C : jj_C p R s m args c D cl A (jj_ad L) cA G nL cs sl cc own Ts) {x : Int32} (N : Nat) (hX : jj_X K L G) (har : Cond.arrayClass .int ∈ Ts) (hcs : cs + 1 ≤ R.cells) (hsl : sl + 1000 ≤ R.slots) (hd : decode cc pc = .ok (.newarray .int, 2)) (kk : ∀ q : Nat, jj_C p R s m args c D cl A (jj_ad (L ++ [q])) cA (G ++ [.inr (.int, N)]) nL (cs + 1) (sl + 1000) cc own Ts → jj_X (K + 1) (L ++ [q]) (G ++ [.inr (.int, N)]) → jj_J p l e R s m args below meth c D cl A (jj_ad (L ++ [q])) cA (G ++ [.inr (.int, N)]) nL (cs + 1) (sl + 1000) Q o (jj_nw σ K) (pc + 2) lv (.ref q :: rest)) : jj_J p l e R s m args below meth c D cl A (jj_ad L) cA G nL cs sl Q (jj_na N x o) σ pc lv (.int x :: rest) := by
  intro z hz H locs ls hP hS hl
  have eK : G.length = K := hX.2.2
  obtain ⟨⟨rfl, hN⟩, hz2⟩ := jj_na_in hz
  refine va_newa (atype := .int) (ty := .int) (N' := N) (a0 := (N, .inl (fun _ => 0))) C.1 C.2.1 (C.2.2.2.2.1 (Cond.arrayClass .int) har) rfl C.2.2.2.2.2.1 hP (C.2.2.2.2.2.2.1 σ) hS C.2.2.2.2.2.2.2.1 (fun _ => rfl) (nI_pos (by omega)) (nI_clamp (by omega)) (by show N * _ ≤ _; simp only [newarray.typeOf, componentBytes]; omega) hcs (by omega) hd (fun q cX H1 hK1 hP1 hD1 hS1 => ?_)
  obtain rfl := jj_cA (by simp) hK1
  have he : jj_cell (jj_ad (L ++ [q])) cA (jj_nw σ G.length) G.length (.inr (.int, N)) = (q, .inl (cA .int, N, .inl (fun _ => 0))) := by
    simp only [jj_cell]
    rw [hX.1, jj_ad_new, jj_nw_same]
  rw [jj_w_new hX.1 hX.2.1 he] at hP1 hD1
  refine W.widen (k := cs + 1) (n := sl + 1000) (Nat.le_refl _) (by omega) ?_
  rw [eK] at hP1 hD1
  exact kk q (jj_C_new C hD1 hcs hsl) (jj_X_snoc hX (fun o j r h => by cases h)) z hz2 H1 locs ls hP1 hS1 hl
theorem jj_newz (C : jj_C p R s m args c D cl A (jj_ad L) cA G nL cs sl cc own Ts) {x : Int32} (N : Nat) (hX : jj_X K L G) (har : Cond.arrayClass .boolean ∈ Ts) (hcs : cs + 1 ≤ R.cells) (hsl : sl + 1000 ≤ R.slots) (hd : decode cc pc = .ok (.newarray .boolean, 2)) (kk : ∀ q : Nat, jj_C p R s m args c D cl A (jj_ad (L ++ [q])) cA (G ++ [.inr (.boolean, N)]) nL (cs + 1) (sl + 1000) cc own Ts → jj_X (K + 1) (L ++ [q]) (G ++ [.inr (.boolean, N)]) → jj_J p l e R s m args below meth c D cl A (jj_ad (L ++ [q])) cA (G ++ [.inr (.boolean, N)]) nL (cs + 1) (sl + 1000) Q o (jj_nw σ K) (pc + 2) lv (.ref q :: rest)) : jj_J p l e R s m args below meth c D cl A (jj_ad L) cA G nL cs sl Q (jj_na N x o) σ pc lv (.int x :: rest) := by
  intro z hz H locs ls hP hS hl
  have eK : G.length = K := hX.2.2
  obtain ⟨⟨rfl, hN⟩, hz2⟩ := jj_na_in hz
  refine va_newa (atype := .boolean) (ty := .boolean) (N' := N) (a0 := (N, .inl (fun _ => 0))) C.1 C.2.1 (C.2.2.2.2.1 (Cond.arrayClass .boolean) har) rfl C.2.2.2.2.2.1 hP (C.2.2.2.2.2.2.1 σ) hS C.2.2.2.2.2.2.2.1 (fun _ => rfl) (nI_pos (by omega)) (nI_clamp (by omega)) (by show N * _ ≤ _; simp only [newarray.typeOf, componentBytes]; omega) hcs (by omega) hd (fun q cX H1 hK1 hP1 hD1 hS1 => ?_)
  obtain rfl := jj_cA (by simp) hK1
  have he : jj_cell (jj_ad (L ++ [q])) cA (jj_nw σ G.length) G.length (.inr (.boolean, N)) = (q, .inl (cA .boolean, N, .inl (fun _ => 0))) := by
    simp only [jj_cell]
    rw [hX.1, jj_ad_new, jj_nw_same]
  rw [jj_w_new hX.1 hX.2.1 he] at hP1 hD1
  refine W.widen (k := cs + 1) (n := sl + 1000) (Nat.le_refl _) (by omega) ?_
  rw [eK] at hP1 hD1
  exact kk q (jj_C_new C hD1 hcs hsl) (jj_X_snoc hX (fun o j r h => by cases h)) z hz2 H1 locs ls hP1 hS1 hl
theorem jj_newo (C : jj_C p R s m args c D cl A (jj_ad L) cA G nL cs sl cc own Ts) {Cn : String} {T : u_T} {N ci index : Nat} (fs : List (Option (Option Nat))) (hX : jj_X K L G) (hno : ∀ (j r : Nat), fs[j]? = some (some (some r)) → False) (hin : ∀ w ∈ u_ws Cn T N, w ∈ Ts) (ty : Nat → FieldType) (hty : ∀ k, k < N → parseFieldDescriptor (T k).2.2.1 = some (ty k)) (h1 : Cond.classLink own index Cn ∈ Ts) (h2 : Cond.instantiable Cn N ∈ Ts) (h3 : Cond.initialized Cn ∈ Ts) (hcl : cl[ci]? = some (Cn, T, N)) (hfs : ∀ (a : Nat → Nat) (σ : jj_S) (k : Nat), σ k = (fun _ => 0) → ∀ j, j < N → defaultValue (ty j) = vp_V (fs.mapIdx (jj_fv a σ k)) j) (hnul : ∀ (τ : jj_S) (k : Nat) (a b : Nat → Nat), fs.mapIdx (jj_fv a τ k) = fs.mapIdx (jj_fv b τ k)) (hN : N ≤ 1000) (hcs : cs + 1 ≤ R.cells) (hsl : sl + 1000 ≤ R.slots) (hd : decode cc pc = .ok (.new index, 3)) (kk : ∀ q : Nat, jj_C p R s m args c D cl A (jj_ad (L ++ [q])) cA (G ++ [.inl (ci, fs)]) nL (cs + 1) (sl + 1000) cc own Ts → jj_X (K + 1) (L ++ [q]) (G ++ [.inl (ci, fs)]) → jj_J p l e R s m args below meth c D cl A (jj_ad (L ++ [q])) cA (G ++ [.inl (ci, fs)]) nL (cs + 1) (sl + 1000) Q o (jj_nw σ K) (pc + 3) lv (.ref q :: rest)) : jj_J p l e R s m args below meth c D cl A (jj_ad L) cA G nL cs sl Q o σ pc lv rest := by
  intro z hz H locs ls hP hS hl
  have eK : G.length = K := hX.2.2
  refine va_new (ci := ci) (fs := fs.mapIdx (jj_fv (fun _ => 0) (jj_nw σ G.length) G.length)) C.1 C.2.1 C.2.2.2.2.1 hin ty hty C.2.2.2.1 (C.2.2.2.2.1 _ h1) (C.2.2.2.2.1 _ h2) (C.2.2.2.2.1 _ h3) C.2.2.2.2.2.1 hP (C.2.2.2.2.2.2.1 σ) hS C.2.2.2.2.2.2.2.1 hcl (fun j hj => hfs _ _ _ jj_nw_same j hj) hcs (by omega) hd (fun q H1 hP1 hD1 hS1 => ?_)
  have hnr : fs.mapIdx (jj_fv (jj_ad (L ++ [q])) (jj_nw σ G.length) G.length) = fs.mapIdx (jj_fv (fun _ => 0) (jj_nw σ G.length) G.length) := hnul _ _ _ _
  have he : jj_cell (jj_ad (L ++ [q])) cA (jj_nw σ G.length) G.length (.inl (ci, fs)) = (q, .inr (ci, fs.mapIdx (jj_fv (fun _ => 0) (jj_nw σ G.length) G.length))) := by
    simp only [jj_cell]
    rw [hnr, hX.1, jj_ad_new]
  rw [jj_w_new hX.1 hX.2.1 he] at hP1 hD1
  refine W.widen (k := cs + 1) (n := sl + 1000) (Nat.le_refl _) (by omega) ?_
  rw [eK] at hP1 hD1
  exact kk q (jj_C_new C hD1 hcs hsl) (jj_X_snoc hX (fun o j r h hj => by cases h; exact hno j r hj)) z hz H1 locs ls hP1 hS1 hl
theorem jj_jnn {b : (Int32 → Option β) → Option β} {K : Int32 → Option β} {pc2 : Nat} {lv2 : List (Nat × Value)} (hK : ∀ v : Int32, jj_J p l e R s m args below meth c D cl A ad cA G nL cs sl Q (K v) σ pc2 lv2 (.int v :: rest)) (hb : (∀ v : Int32, jj_J p l e R s m args below meth c D cl A ad cA G nL cs sl Q (K v) σ pc2 lv2 (.int v :: rest)) → jj_J p l e R s m args below meth c D cl A ad cA G nL cs sl Q (b K) σ pc lv st) : jj_J p l e R s m args below meth c D cl A ad cA G nL cs sl Q (jj_jn b K) σ pc lv st := hb hK
theorem jj_mmax (C : jj_C p R s m args c D cl A ad cA G nL cs sl cc own Ts) {index : Nat} {x y : Int32} (h1 : Cond.methodLink own index Lib.Math.max.name ∈ Ts) (h2 : Cond.static Lib.Math.max.name ∈ Ts) (h3 : Cond.initialized "java/lang/Math" ∈ Ts) (h4 : Cond.code Lib.Math.max.name Lib.Math.max.code 2 (some .int) ∈ Ts) (hf : 1 ≤ R.frames) (hlo : (rest.map fun v => v.category).sum + 13 ≤ R.locals) (hd : decode cc pc = .ok (.invokestatic index, 3)) (kk : jj_J p l e R s m args below meth c D cl A ad cA G nL cs sl Q o σ (pc + 3) lv (.int (if x < y then y else x) :: rest)) : jj_J p l e R s m args below meth c D cl A ad cA G nL cs sl Q o σ pc lv (.int y :: .int x :: rest) := fun z hz H locs ls hP hS hl => va_mmax C.1 C.2.1 (by rw [C.2.2.1]; exact hl.1.symm) C.2.2.2.1 (C.2.2.2.2.1 _ h1) (C.2.2.2.2.1 _ h2) (C.2.2.2.2.1 _ h3) (C.2.2.2.2.1 _ h4) hf hlo C.2.2.2.2.2.2.2.2.1 C.2.2.2.2.2.2.2.2.2 hd (kk z hz H locs ls hP hS hl)
theorem jj_mmin (C : jj_C p R s m args c D cl A ad cA G nL cs sl cc own Ts) {index : Nat} {x y : Int32} (h1 : Cond.methodLink own index Lib.Math.min.name ∈ Ts) (h2 : Cond.static Lib.Math.min.name ∈ Ts) (h3 : Cond.initialized "java/lang/Math" ∈ Ts) (h4 : Cond.code Lib.Math.min.name Lib.Math.min.code 2 (some .int) ∈ Ts) (hf : 1 ≤ R.frames) (hlo : (rest.map fun v => v.category).sum + 13 ≤ R.locals) (hd : decode cc pc = .ok (.invokestatic index, 3)) (kk : jj_J p l e R s m args below meth c D cl A ad cA G nL cs sl Q o σ (pc + 3) lv (.int (if y < x then y else x) :: rest)) : jj_J p l e R s m args below meth c D cl A ad cA G nL cs sl Q o σ pc lv (.int y :: .int x :: rest) := fun z hz H locs ls hP hS hl => va_mmin C.1 C.2.1 (by rw [C.2.2.1]; exact hl.1.symm) C.2.2.2.1 (C.2.2.2.2.1 _ h1) (C.2.2.2.2.1 _ h2) (C.2.2.2.2.1 _ h3) (C.2.2.2.2.1 _ h4) hf hlo C.2.2.2.2.2.2.2.2.1 C.2.2.2.2.2.2.2.2.2 hd (kk z hz H locs ls hP hS hl)
/-- the link of the one private constructor that a nest mate calls -/
def jj_Mc (E : State → Prop) (l : Launch) (y : MethodName) (ws : List Cond) (rm : Room) (D : va_G) (cl : List vw_C) (cA : FieldType → ClassId) (L : List Nat) (G G' : List jj_H) (mc ms : Nat) (av : List Value) (σ z : jj_S) : Prop :=
  ∀ sz : Nat, Met l y ws rm (va_Pc av (fun U => U.heap.size = sz ∧ va_P D cl (jj_w (jj_ad L) cA G σ) U.heap ∧ va_K D cl (jj_t cA) U ∧ va_D (fun _ => True) (jj_w (jj_ad L) cA G σ) ∧ E U)) (va_Qv (fun (u : List Nat) => u.length = mc) (fun u t => va_P D cl (jj_w (jj_ad (L ++ u)) cA G' z) t.heap ∧ va_D (va_A (jj_w (jj_ad L) cA G σ) sz) (jj_w (jj_ad (L ++ u)) cA G' z)) (va_A (jj_w (jj_ad L) cA G σ) sz)) mc ms (va_A (jj_w (jj_ad L) cA G σ) sz)
def jj_Qc (below : List Frame) (D : va_G) (cl : List vw_C) (A : Nat → Prop) (cA : FieldType → ClassId) (L : List Nat) (G' : List jj_H) (mc ms : Nat) (args : Array Value) (s : State) (z : jj_S) : State → Prop := MQ below (va_Qv (fun (u : List Nat) => u.length = mc) (fun u t => va_P D cl (jj_w (jj_ad (L ++ u)) cA G' z) t.heap ∧ va_D A (jj_w (jj_ad (L ++ u)) cA G' z)) A) args s mc ms A
theorem jj_ofc {E : State → Prop} {y : MethodName} {rm : Room} {av : List Value} {z : jj_S} {o : Option jj_S} {ys : List Cond} {mc ms : Nat} (hn : plainName y.cls = true) (hin : y.name = "<init>") (ho : o = some z) (hal : (lg_sl av).length ≤ nL)
    (body : ∀ (p : Program) (e : Env) (s : State) (m : MethodId) (below : List Frame) (meth : Method) (c : Code), jj_C p (headSpec (Cond.code y cc nL none :: ys) rm).room s m av.toArray c D cl (va_A (jj_w (jj_ad L) cA G σ) s.heap.size) (jj_ad L) cA G nL 0 0 cc y.cls ys → meth.sig.returnType = none → meth.locks = false → meth.name = "<init>" → E s →
      jj_J p l e (headSpec (Cond.code y cc nL none :: ys) rm).room s m av.toArray below meth c D cl (va_A (jj_w (jj_ad L) cA G σ) s.heap.size) (jj_ad L) cA G nL 0 0 (jj_Qc below D cl (va_A (jj_w (jj_ad L) cA G σ) s.heap.size) cA L G' mc ms av.toArray s) o σ 0 (lv_args 0 av) []) :
    jj_Mc E l y (Cond.code y cc nL none :: ys) rm D cl cA L G G' mc ms av σ z := by
  intro sz
  refine Met.ofW (cc := cc) (maxL := nL) (ret := none) hn rfl ?_
  intro p e s m args below meth c s₁ B hml hv
  obtain ⟨rfl, hsz, hP, hK, hD0, hE⟩ := hv
  subst hsz
  have hts := atoms_spec (ws := Cond.code y cc nL none :: ys) B.pre
  have hD := hD0.self (sz := s.heap.size)
  rw [lg_entry_eq]
  exact body p e s m below meth c ⟨B.exec, B.bytes, hml, findClass_of_methodNamed B.named, fun w hw => hts w (List.mem_cons_of_mem _ hw), hK, fun _ => jj_D hD, fun q h => Or.inr h, Nat.zero_le _, Nat.zero_le _⟩ B.returns B.notSynchronized ((name_of_methodNamed B.named B.method).1.trans hin) hE z ho s.heap [] _ hP va_S.rf (lv_entry av hal)
theorem jj_cret {L0 u : List Nat} (C : jj_C p R s m args c D cl A (jj_ad (L0 ++ u)) cA G nL cs sl cc own Ts) (hu : u.length = cs) (hr : meth.sig.returnType = none) (hlocks : meth.locks = false) (hd : decode cc pc = .ok (.return_, 1)) : jj_J p l e R s m args below meth c D cl A (jj_ad (L0 ++ u)) cA G nL cs sl (jj_Qc below D cl A cA L0 G cs sl args s) (some σ) σ pc lv [] := fun z hz H locs ls hP hS hl => W.vret C.1 C.2.1 hr (fun t ht _ => ⟨⟨u, rfl, hu, (show va_P D cl (jj_w (jj_ad (L0 ++ u)) cA G z) t.heap from by rw [ht, ← Option.some.inj hz]; exact hP), C.2.2.2.2.2.2.1 z⟩, hS.F ht⟩) hS.2.2 hd hlocks
theorem jj_callI (C : jj_C p R s m args c D cl A (jj_ad L) cA G nL cs sl cc own Ts) {E : State → Prop} {y : MethodName} {bytes : ByteArray} {maxL n index mc ms : Nat} {rm : Room} {ys : List Cond} {As : List Value} {kr : Nat} {f : Option jj_S} {k : jj_S → Option β}  (hE : E s) (hEc : ∀ (a : Array Value) (U : State) (g : JFrame) (mk : MethodId), E U → E (U.calling g mk a)) (hEw : ∀ U : State, s.WarmedH U.vm → E U) (hM : ∀ z, f = some z → jj_Mc E l y (Cond.code y bytes maxL none :: ys) rm D cl cA L G G' mc ms (.ref kr :: As) σ z) (hcw : CallB R s args own index y bytes maxL none (Cond.code y bytes maxL none :: ys) rm mc ms n ∧ y.name = "<init>" ∧ (Cond.instanceMethod y).before args s = true) (hn : As.length = n) (hst : st = As.reverse ++ .ref kr :: rest) (hW : (rest.map fun v => v.category).sum ≤ 8) (hcs : cs + mc ≤ R.cells) (hsl : sl + ms ≤ R.slots) {K' : Nat} (hX : jj_X K L G) (hg1 : G'.length = K' ∧ jj_cl G' = true) (hg2 : K' = K + mc) (hd : decode cc pc = .ok (.invokespecial index, 3)) (kk : ∀ (σ' : jj_S) (u : List Nat), f = some σ' → u.length = mc → jj_X K' (L ++ u) G' → jj_C p R s m args c D cl A (jj_ad (L ++ u)) cA G' nL (cs + mc) (sl + ms) cc own Ts → jj_J p l e R s m args below meth c D cl A (jj_ad (L ++ u)) cA G' nL (cs + mc) (sl + ms) Q (k σ') σ' (pc + 3) lv rest) : jj_J p l e R s m args below meth c D cl A (jj_ad L) cA G nL cs sl Q (jj_b1 f k) σ pc lv st := by
  intro z hz H locs ls hP hS hl
  subst hst
  obtain ⟨z1, hf, hz⟩ := Option.bind_eq_some_iff.mp hz
  have hF : ∀ q, va_A (jj_w (jj_ad L) cA G σ) H.size q → A q := fun q hq => by
    rcases hq with ⟨j, e1, hj⟩ | hq
    · exact (C.2.2.2.2.2.2.1 σ).2 j _ hj
    · exact C.2.2.2.2.2.2.2.1 q (Nat.le_trans hS.1 hq)
  refine va_callv (va_runI (As := As) (rest := rest) ⟨C.1, C.2.1, C.2.2.1, C.2.2.2.1, C.2.2.2.2.1⟩ (hM z1 hf H.size) hcw ⟨fun a U g mk q => by obtain ⟨q0, q1, qP, qK, qD, qE⟩ := q; exact ⟨q0, q1, qP, va_K.moved (u := U) (U := U.calling g mk a) (Vm.Alike.refl U.vm) qK, qD, hEc a U g mk qE⟩, fun U hU hW => ⟨rfl, by rw [hU], by rw [hU]; exact hP, va_K.moved hW.alike C.2.2.2.2.2.1, (C.2.2.2.2.2.2.1 σ).weaken (fun _ _ _ _ => trivial), hEw U hW⟩⟩ rfl hn hl.1 rfl (lv_room hW) hd ⟨hcs, hsl⟩) hS (fun q _ h => hF q h) hF ?_
  intro u t H1 locs1 ht hvm hw hB hz1 hk1 hS1
  rw [ht] at hB
  have C' : jj_C p R s m args c D cl A (jj_ad (L ++ u)) cA G' nL (cs + mc) (sl + ms) cc own Ts := ⟨C.1, C.2.1, C.2.2.1, C.2.2.2.1, C.2.2.2.2.1, C.2.2.2.2.2.1, fun _ => jj_D (hB.2.weaken (fun _ q _ h => hF _ h)), C.2.2.2.2.2.2.2.1, hcs, hsl⟩
  exact kk z1 u hf hw ⟨by rw [List.length_append, hw, hg1.1, hg2, ← hX.1, hX.2.2], hg1.2, hg1.1⟩ C' z hz H1 locs1 ls hB.1 hS1 hl
theorem jj_callIN (C : jj_C p R s m args c D cl A (jj_ad L) cA G nL cs sl cc own Ts) {E : State → Prop} {y : MethodName} {bytes : ByteArray} {maxL n index mc ms : Nat} {rm : Room} {ys : List Cond} {As : List Value} {kr : Nat} {f : Option jj_S} {k : jj_S → Option β} {host : String} (hE : E s) (hEc : ∀ (a : Array Value) (U : State) (g : JFrame) (mk : MethodId), E U → E (U.calling g mk a)) (hEw : ∀ U : State, s.WarmedH U.vm → E U) (hM : ∀ z, f = some z → jj_Mc E l y (Cond.code y bytes maxL none :: ys) rm D cl cA L G G' mc ms (.ref kr :: As) σ z) (hcw : va_CN R s args own index y host bytes maxL none (Cond.code y bytes maxL none :: ys) rm mc ms n ∧ y.name = "<init>" ∧ (Cond.instanceMethod y).before args s = true) (hn : As.length = n) (hst : st = As.reverse ++ .ref kr :: rest) (hW : (rest.map fun v => v.category).sum ≤ 8) (hcs : cs + mc ≤ R.cells) (hsl : sl + ms ≤ R.slots) {K' : Nat} (hX : jj_X K L G) (hg1 : G'.length = K' ∧ jj_cl G' = true) (hg2 : K' = K + mc) (hd : decode cc pc = .ok (.invokespecial index, 3)) (kk : ∀ (σ' : jj_S) (u : List Nat), f = some σ' → u.length = mc → jj_X K' (L ++ u) G' → jj_C p R s m args c D cl A (jj_ad (L ++ u)) cA G' nL (cs + mc) (sl + ms) cc own Ts → jj_J p l e R s m args below meth c D cl A (jj_ad (L ++ u)) cA G' nL (cs + mc) (sl + ms) Q (k σ') σ' (pc + 3) lv rest) : jj_J p l e R s m args below meth c D cl A (jj_ad L) cA G nL cs sl Q (jj_b1 f k) σ pc lv st := by
  intro z hz H locs ls hP hS hl
  subst hst
  obtain ⟨z1, hf, hz⟩ := Option.bind_eq_some_iff.mp hz
  have hF : ∀ q, va_A (jj_w (jj_ad L) cA G σ) H.size q → A q := fun q hq => by
    rcases hq with ⟨j, e1, hj⟩ | hq
    · exact (C.2.2.2.2.2.2.1 σ).2 j _ hj
    · exact C.2.2.2.2.2.2.2.1 q (Nat.le_trans hS.1 hq)
  refine va_callv (va_runIN (As := As) (rest := rest) ⟨C.1, C.2.1, C.2.2.1, C.2.2.2.1, C.2.2.2.2.1⟩ (hM z1 hf H.size) hcw ⟨fun a U g mk q => by obtain ⟨q0, q1, qP, qK, qD, qE⟩ := q; exact ⟨q0, q1, qP, va_K.moved (u := U) (U := U.calling g mk a) (Vm.Alike.refl U.vm) qK, qD, hEc a U g mk qE⟩, fun U hU hW => ⟨rfl, by rw [hU], by rw [hU]; exact hP, va_K.moved hW.alike C.2.2.2.2.2.1, (C.2.2.2.2.2.2.1 σ).weaken (fun _ _ _ _ => trivial), hEw U hW⟩⟩ rfl hn hl.1 rfl (lv_room hW) hd ⟨hcs, hsl⟩) hS (fun q _ h => hF q h) hF ?_
  intro u t H1 locs1 ht hvm hw hB hz1 hk1 hS1
  rw [ht] at hB
  have C' : jj_C p R s m args c D cl A (jj_ad (L ++ u)) cA G' nL (cs + mc) (sl + ms) cc own Ts := ⟨C.1, C.2.1, C.2.2.1, C.2.2.2.1, C.2.2.2.2.1, C.2.2.2.2.2.1, fun _ => jj_D (hB.2.weaken (fun _ q _ h => hF _ h)), C.2.2.2.2.2.2.2.1, hcs, hsl⟩
  exact kk z1 u hf hw ⟨by rw [List.length_append, hw, hg1.1, hg2, ← hX.1, hX.2.2], hg1.2, hg1.1⟩ C' z hz H1 locs1 ls hB.1 hS1 hl
end JC
