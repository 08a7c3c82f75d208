/-! THE WALK OVER ONE NUMBERED WORLD. A world is a list of shapes (an object of a class with its fields, an array with its length); its cells stand at addresses ad 0, ad 1, ..; what the ints of cell k are, says σ k. 'jj_J' walks the machine beside a pure computation: where the computation answers z, the machine comes to Q z. -/
abbrev jj_S : Type := Nat → Nat → Int32
/-- a shape: an object (number of its class, its fields: a cell's number or null, or an int), or an array (type, length) -/
abbrev jj_H : Type := (Nat × List (Option (Option Nat))) ⊕ (FieldType × Nat)
def jj_up (σ : jj_S) (k i : Nat) (x : Int32) : jj_S := fun k' => if k' = k then upd (σ k) i x else σ k'
def jj_fv (ad : Nat → Nat) (σ : jj_S) (k j : Nat) (f : Option (Option Nat)) : Value := match f with
  | some (some r) => .ref (ad r)
  | some none => .null
  | none => .int (σ k j)
def jj_cell (ad : Nat → Nat) (cA : FieldType → ClassId) (σ : jj_S) (k : Nat) (h : jj_H) : Nat × va_E := match h with
  | .inl o => (ad k, .inr (o.1, o.2.mapIdx (jj_fv ad σ k)))
  | .inr a => (ad k, .inl (cA a.1, a.2, .inl (σ k)))
def jj_w (ad : Nat → Nat) (cA : FieldType → ClassId) (G : List jj_H) (σ : jj_S) : va_W := G.mapIdx (jj_cell ad cA σ)
abbrev jj_t (cA : FieldType → ClassId) : List (ClassId × FieldType) := [(cA .int, .int), (cA .boolean, .boolean)]
theorem jj_up_same (σ : jj_S) (k i : Nat) (x : Int32) : jj_up σ k i x k = upd (σ k) i x := by simp [jj_up]
theorem jj_up_ne {σ : jj_S} {k i k' : Nat} {x : Int32} (h : k' ≠ k) : jj_up σ k i x k' = σ k' := by simp [jj_up, h]
theorem jj_w_get {ad : Nat → Nat} {cA : FieldType → ClassId} {G : List jj_H} {k : Nat} {h : jj_H} (σ : jj_S) (hG : G[k]? = some h) : (jj_w ad cA G σ)[k]? = some (jj_cell ad cA σ k h) := by
  simp [jj_w, List.getElem?_mapIdx, hG]
theorem jj_cell_ad (ad : Nat → Nat) (cA : FieldType → ClassId) (σ : jj_S) (k : Nat) (h : jj_H) : (jj_cell ad cA σ k h).1 = ad k := by
  cases h <;> rfl
theorem jj_cell_ne {ad : Nat → Nat} {cA : FieldType → ClassId} {σ : jj_S} {k i k' : Nat} {x : Int32} (h : jj_H) (hk : k' ≠ k) : jj_cell ad cA (jj_up σ k i x) k' h = jj_cell ad cA σ k' h := by
  have e : jj_up σ k i x k' = σ k' := jj_up_ne hk
  cases h with
  | inl o =>
    have e2 : jj_fv ad (jj_up σ k i x) k' = jj_fv ad σ k' := by
      funext j f
      rcases f with _ | _ | r <;> simp [jj_fv, e]
    simp [jj_cell, e2]
  | inr a => simp [jj_cell, e]
theorem jj_w_set {ad : Nat → Nat} {cA : FieldType → ClassId} {G : List jj_H} {k i : Nat} {h : jj_H} {x : Int32} {σ : jj_S} (hG : G[k]? = some h) {q : Nat × va_E} (hq : jj_cell ad cA (jj_up σ k i x) k h = q) : (jj_w ad cA G σ).set k q = jj_w ad cA G (jj_up σ k i x) := by
  apply List.ext_getElem?
  intro j
  rw [List.getElem?_set]
  have hlt : k < (jj_w ad cA G σ).length := by
    simp only [jj_w, List.length_mapIdx]
    exact (List.getElem?_eq_some_iff.mp hG).1
  by_cases hj : k = j
  · subst hj
    rw [if_pos rfl, if_pos hlt, jj_w_get _ hG, hq]
  · rw [if_neg hj]
    simp only [jj_w, List.getElem?_mapIdx]
    cases G[j]? with
    | none => rfl
    | some h2 => simp only [Option.map_some]; rw [jj_cell_ne h2 (fun e => hj e.symm)]
theorem jj_D {A : Nat → Prop} {ad : Nat → Nat} {cA : FieldType → ClassId} {G : List jj_H} {σ σ' : jj_S} (h : va_D A (jj_w ad cA G σ)) : va_D A (jj_w ad cA G σ') := by
  have key : ∀ (σ : jj_S) (i : Nat) (q : Nat × va_E), (jj_w ad cA G σ)[i]? = some q → q.1 = ad i ∧ ∀ σ2, ∃ q2, (jj_w ad cA G σ2)[i]? = some q2 ∧ q2.1 = ad i := by
    intro σ i q hq
    simp only [jj_w, List.getElem?_mapIdx] at hq ⊢
    cases hg : G[i]? with
    | none => rw [hg] at hq; cases hq
    | some h2 =>
      rw [hg] at hq
      simp only [Option.map_some, Option.some.injEq] at hq
      refine ⟨by rw [← hq, jj_cell_ad], fun σ2 => ⟨_, rfl, jj_cell_ad ..⟩⟩
  refine ⟨fun i j p q hp hq e => ?_, fun k q hq => ?_⟩
  · obtain ⟨a1, a2⟩ := key σ' i p hp
    obtain ⟨b1, b2⟩ := key σ' j q hq
    obtain ⟨p2, hp2, ep⟩ := a2 σ
    obtain ⟨q2, hq2, eq2⟩ := b2 σ
    exact h.1 i j p2 q2 hp2 hq2 (by rw [ep, eq2, ← a1, ← b1, e])
  · obtain ⟨a1, a2⟩ := key σ' k q hq
    obtain ⟨p2, hp2, ep⟩ := a2 σ
    rw [a1, ← ep]
    exact h.2 k p2 hp2
theorem jj_A {ad : Nat → Nat} {cA : FieldType → ClassId} {G : List jj_H} {σ σ' : jj_S} {sz q : Nat} (h : va_A (jj_w ad cA G σ) sz q) : va_A (jj_w ad cA G σ') sz q := by
  rcases h with ⟨k, e, hk⟩ | h
  · refine Or.inl ?_
    simp only [jj_w, List.getElem?_mapIdx] at hk
    cases hg : G[k]? with
    | none => rw [hg] at hk; cases hk
    | some h2 =>
      rw [hg] at hk
      simp only [Option.map_some, Option.some.injEq] at hk
      have e1 : q = ad k := by have := jj_cell_ad ad cA σ k h2; rw [hk] at this; exact this
      refine ⟨k, (jj_cell ad cA σ' k h2).2, ?_⟩
      rw [jj_w_get _ hg, e1, ← jj_cell_ad ad cA σ' k h2]
  · exact Or.inr h
/-- an index out of its bounds: no answer -/
def jj_ck {β : Type} (n : Nat) (i : Int32) (o : Option β) : Option β := if i < 0 ∨ n ≤ i.toNatClampNeg then none else o
def jj_nz {β : Type} (y : Int32) (o : Option β) : Option β := if y = 0 then none else o
theorem jj_ck_in {β : Type} {n : Nat} {i : Int32} {o : Option β} {z : β} (h : jj_ck n i o = some z) : vp_in i n ∧ o = some z := by
  unfold jj_ck at h
  by_cases hc : i < 0 ∨ n ≤ i.toNatClampNeg
  · rw [if_pos hc] at h; cases h
  · rw [if_neg hc] at h; exact ⟨hc, h⟩
theorem jj_nz_in {β : Type} {y : Int32} {o : Option β} {z : β} (h : jj_nz y o = some z) : ¬ y = 0 ∧ o = some z := by
  unfold jj_nz at h
  by_cases hc : y = 0
  · rw [if_pos hc] at h; cases h
  · rw [if_neg hc] at h; exact ⟨hc, h⟩
section JJ
variable {p : Program} {l : Launch} {e : Env} {R : Room} {s : State} {m : MethodId} {args : Array Value} {below : List Frame} {meth : Method} {c : Code} {D : va_G} {cl : List vw_C} {A : Nat → Prop} {ad : Nat → Nat} {cA : FieldType → ClassId} {G : List jj_H} {nL cs sl : Nat} {β : Type} {Q : β → State → Prop} {cc : ByteArray} {own : String} {Ts : List Cond} {σ : jj_S} {pc : Nat} {lv lv' : List (Nat × Value)} {st rest : List Value} {o o1 o2 : Option β}
/-- the walk beside a computation -/
def jj_J (p : Program) (l : Launch) (e : Env) (R : Room) (s : State) (m : MethodId) (args : Array Value) (below : List Frame) (meth : Method) (c : Code) (D : va_G) (cl : List vw_C) (A : Nat → Prop) (ad : Nat → Nat) (cA : FieldType → ClassId) (G : List jj_H) (nL cs sl : Nat) (Q : β → State → Prop) (o : Option β) (σ : jj_S) (pc : Nat) (lv : List (Nat × Value)) (st : List Value) : Prop :=
  ∀ z, o = some z → ∀ (H : Heap) (locs : List Loc) (ls : Array Slot), va_P D cl (jj_w ad cA G σ) H → va_S A s.heap H locs → lv_has ls nL lv → W p l e R s m args below meth c H locs cs sl (Q z) (F0 m pc ls st)
/-- what stands fast on a walk -/
def jj_C (p : Program) (R : Room) (s : State) (m : MethodId) (args : Array Value) (c : Code) (D : va_G) (cl : List vw_C) (A : Nat → Prop) (ad : Nat → Nat) (cA : FieldType → ClassId) (G : List jj_H) (nL cs sl : Nat) (cc : ByteArray) (own : String) (Ts : List Cond) : Prop :=
  p.tables.exec = Jvm.exec ∧ c.code = cc ∧ c.maxLocals = nL ∧ s.vm.findClass own = some m.cls ∧ (∀ w ∈ Ts, w.before args s = true) ∧ va_K D cl (jj_t cA) s ∧ (∀ σ, va_D A (jj_w ad cA G σ)) ∧ (∀ q, s.heap.size ≤ q → A q) ∧ cs ≤ R.cells ∧ sl ≤ R.slots
theorem jj_iconst (C : jj_C p R s m args c D cl A ad cA G nL cs sl cc own Ts) {n : Int} {v : Int32} (hd : decode cc pc = .ok (.iconst n, 1)) (hv : Int32.ofInt n = v) (k : jj_J p l e R s m args below meth c D cl A ad cA G nL cs sl Q o σ (pc + 1) lv (.int v :: st)) : jj_J p l e R s m args below meth c D cl A ad cA G nL cs sl Q o σ pc lv st := fun z hz H locs ls hP hS hl => lv_iconst C.1 C.2.1 hd hv (k z hz H locs ls hP hS hl)
theorem jj_bipush (C : jj_C p R s m args c D cl A ad cA G nL cs sl cc own Ts) {n : Int} {v : Int32} (hd : decode cc pc = .ok (.bipush n, 2)) (hv : (Int8.ofInt n).toInt32 = v) (k : jj_J p l e R s m args below meth c D cl A ad cA G nL cs sl Q o σ (pc + 2) lv (.int v :: st)) : jj_J p l e R s m args below meth c D cl A ad cA G nL cs sl Q o σ pc lv st := fun z hz H locs ls hP hS hl => lv_bipush C.1 C.2.1 hd hv (k z hz H locs ls hP hS hl)
theorem jj_sipush (C : jj_C p R s m args c D cl A ad cA G nL cs sl cc own Ts) {n : Int} {v : Int32} (hd : decode cc pc = .ok (.sipush n, 3)) (hv : (Int16.ofInt n).toInt32 = v) (k : jj_J p l e R s m args below meth c D cl A ad cA G nL cs sl Q o σ (pc + 3) lv (.int v :: st)) : jj_J p l e R s m args below meth c D cl A ad cA G nL cs sl Q o σ pc lv st := fun z hz H locs ls hP hS hl => lv_sipush C.1 C.2.1 hd hv (k z hz H locs ls hP hS hl)
theorem jj_iload_n (C : jj_C p R s m args c D cl A ad cA G nL cs sl cc own Ts) {k : Fin 4} {i : Nat} {x : Int32} (j : Nat) (hd : decode cc pc = .ok (.iload_n k, 1)) (hi : (k : Nat) = i) (hj : lv[j]? = some (i, .int x)) (kk : jj_J p l e R s m args below meth c D cl A ad cA G nL cs sl Q o σ (pc + 1) lv (.int x :: st)) : jj_J p l e R s m args below meth c D cl A ad cA G nL cs sl Q o σ pc lv st := fun z hz H locs ls hP hS hl => lv_iload_n C.1 C.2.1 hd hi (lv_at hl j hj) (kk z hz H locs ls hP hS hl)
theorem jj_iload (C : jj_C p R s m args c D cl A ad cA G nL cs sl cc own Ts) {i : Nat} {x : Int32} (j : Nat) (hd : decode cc pc = .ok (.iload i, 2)) (hj : lv[j]? = some (i, .int x)) (kk : jj_J p l e R s m args below meth c D cl A ad cA G nL cs sl Q o σ (pc + 2) lv (.int x :: st)) : jj_J p l e R s m args below meth c D cl A ad cA G nL cs sl Q o σ pc lv st := fun z hz H locs ls hP hS hl => lv_iload C.1 C.2.1 hd (lv_at hl j hj) (kk z hz H locs ls hP hS hl)
theorem jj_istore_n (C : jj_C p R s m args c D cl A ad cA G nL cs sl cc own Ts) {k : Fin 4} {i : Nat} {x : Int32} (lv' : List (Nat × Value)) (hd : decode cc pc = .ok (.istore_n k, 1)) (hi : (k : Nat) = i) (hn : i < nL) (hv : (i, Value.int x) :: lv.filter (fun q => !(q.1 == i) && !(q.1 + 1 == i && q.2.category == 2)) = lv') (kk : jj_J p l e R s m args below meth c D cl A ad cA G nL cs sl Q o σ (pc + 1) lv' rest) : jj_J p l e R s m args below meth c D cl A ad cA G nL cs sl Q o σ pc lv (.int x :: rest) := fun z hz H locs ls hP hS hl => lv_istore_n C.1 C.2.1 hd hi hl hn hv (fun ls' hl' => kk z hz H locs ls' hP hS hl')
theorem jj_istore (C : jj_C p R s m args c D cl A ad cA G nL cs sl cc own Ts) {i : Nat} {x : Int32} (lv' : List (Nat × Value)) (hd : decode cc pc = .ok (.istore i, 2)) (hn : i < nL) (hv : (i, Value.int x) :: lv.filter (fun q => !(q.1 == i) && !(q.1 + 1 == i && q.2.category == 2)) = lv') (kk : jj_J p l e R s m args below meth c D cl A ad cA G nL cs sl Q o σ (pc + 2) lv' rest) : jj_J p l e R s m args below meth c D cl A ad cA G nL cs sl Q o σ pc lv (.int x :: rest) := fun z hz H locs ls hP hS hl => lv_istore C.1 C.2.1 hd hl hn hv (fun ls' hl' => kk z hz H locs ls' hP hS hl')
theorem jj_aload_n (C : jj_C p R s m args c D cl A ad cA G nL cs sl cc own Ts) {k : Fin 4} {i : Nat} {x : Nat} (j : Nat) (hd : decode cc pc = .ok (.aload_n k, 1)) (hi : (k : Nat) = i) (hj : lv[j]? = some (i, .ref x)) (kk : jj_J p l e R s m args below meth c D cl A ad cA G nL cs sl Q o σ (pc + 1) lv (.ref x :: st)) : jj_J p l e R s m args below meth c D cl A ad cA G nL cs sl Q o σ pc lv st := fun z hz H locs ls hP hS hl => lv_aload_n C.1 C.2.1 hd hi (lv_at hl j hj) (kk z hz H locs ls hP hS hl)
theorem jj_aload (C : jj_C p R s m args c D cl A ad cA G nL cs sl cc own Ts) {i : Nat} {x : Nat} (j : Nat) (hd : decode cc pc = .ok (.aload i, 2)) (hj : lv[j]? = some (i, .ref x)) (kk : jj_J p l e R s m args below meth c D cl A ad cA G nL cs sl Q o σ (pc + 2) lv (.ref x :: st)) : jj_J p l e R s m args below meth c D cl A ad cA G nL cs sl Q o σ pc lv st := fun z hz H locs ls hP hS hl => lv_aload C.1 C.2.1 hd (lv_at hl j hj) (kk z hz H locs ls hP hS hl)
theorem jj_astore_n (C : jj_C p R s m args c D cl A ad cA G nL cs sl cc own Ts) {k : Fin 4} {i : Nat} {x : Nat} (lv' : List (Nat × Value)) (hd : decode cc pc = .ok (.astore_n k, 1)) (hi : (k : Nat) = i) (hn : i < nL) (hv : (i, Value.ref x) :: lv.filter (fun q => !(q.1 == i) && !(q.1 + 1 == i && q.2.category == 2)) = lv') (kk : jj_J p l e R s m args below meth c D cl A ad cA G nL cs sl Q o σ (pc + 1) lv' rest) : jj_J p l e R s m args below meth c D cl A ad cA G nL cs sl Q o σ pc lv (.ref x :: rest) := fun z hz H locs ls hP hS hl => lv_astore_n C.1 C.2.1 hd hi hl hn hv (fun ls' hl' => kk z hz H locs ls' hP hS hl')
theorem jj_astore (C : jj_C p R s m args c D cl A ad cA G nL cs sl cc own Ts) {i : Nat} {x : Nat} (lv' : List (Nat × Value)) (hd : decode cc pc = .ok (.astore i, 2)) (hn : i < nL) (hv : (i, Value.ref x) :: lv.filter (fun q => !(q.1 == i) && !(q.1 + 1 == i && q.2.category == 2)) = lv') (kk : jj_J p l e R s m args below meth c D cl A ad cA G nL cs sl Q o σ (pc + 2) lv' rest) : jj_J p l e R s m args below meth c D cl A ad cA G nL cs sl Q o σ pc lv (.ref x :: rest) := fun z hz H locs ls hP hS hl => lv_astore C.1 C.2.1 hd hl hn hv (fun ls' hl' => kk z hz H locs ls' hP hS hl')
theorem jj_iinc (C : jj_C p R s m args c D cl A ad cA G nL cs sl cc own Ts) {i : Nat} {n : Int} {x v : Int32} (lv' : List (Nat × Value)) (j : Nat) (hd : decode cc pc = .ok (.iinc i n, 3)) (hj : lv[j]? = some (i, .int x)) (hv : x + Int32.ofInt n = v) (hn : i < nL) (hw : (i, Value.int v) :: lv.filter (fun q => !(q.1 == i) && !(q.1 + 1 == i && q.2.category == 2)) = lv') (kk : jj_J p l e R s m args below meth c D cl A ad cA G nL cs sl Q o σ (pc + 3) lv' st) : jj_J p l e R s m args below meth c D cl A ad cA G nL cs sl Q o σ pc lv st := fun z hz H locs ls hP hS hl => lv_iinc C.1 C.2.1 hd hl hj hv hn hw (fun ls' hl' => kk z hz H locs ls' hP hS hl')
theorem jj_iadd (C : jj_C p R s m args c D cl A ad cA G nL cs sl cc own Ts) {x y : Int32} (hd : decode cc pc = .ok (.iadd, 1)) (kk : jj_J p l e R s m args below meth c D cl A ad cA G nL cs sl Q o σ (pc + 1) lv (.int (x + y) :: rest)) : jj_J p l e R s m args below meth c D cl A ad cA G nL cs sl Q o σ pc lv (.int y :: .int x :: rest) := fun z hz H locs ls hP hS hl => lv_iadd C.1 C.2.1 hd (kk z hz H locs ls hP hS hl)
theorem jj_isub (C : jj_C p R s m args c D cl A ad cA G nL cs sl cc own Ts) {x y : Int32} (hd : decode cc pc = .ok (.isub, 1)) (kk : jj_J p l e R s m args below meth c D cl A ad cA G nL cs sl Q o σ (pc + 1) lv (.int (x - y) :: rest)) : jj_J p l e R s m args below meth c D cl A ad cA G nL cs sl Q o σ pc lv (.int y :: .int x :: rest) := fun z hz H locs ls hP hS hl => lv_isub C.1 C.2.1 hd (kk z hz H locs ls hP hS hl)
theorem jj_imul (C : jj_C p R s m args c D cl A ad cA G nL cs sl cc own Ts) {x y : Int32} (hd : decode cc pc = .ok (.imul, 1)) (kk : jj_J p l e R s m args below meth c D cl A ad cA G nL cs sl Q o σ (pc + 1) lv (.int (x * y) :: rest)) : jj_J p l e R s m args below meth c D cl A ad cA G nL cs sl Q o σ pc lv (.int y :: .int x :: rest) := fun z hz H locs ls hP hS hl => lv_imul C.1 C.2.1 hd (kk z hz H locs ls hP hS hl)
theorem jj_iand (C : jj_C p R s m args c D cl A ad cA G nL cs sl cc own Ts) {x y : Int32} (hd : decode cc pc = .ok (.iand, 1)) (kk : jj_J p l e R s m args below meth c D cl A ad cA G nL cs sl Q o σ (pc + 1) lv (.int (x &&& y) :: rest)) : jj_J p l e R s m args below meth c D cl A ad cA G nL cs sl Q o σ pc lv (.int y :: .int x :: rest) := fun z hz H locs ls hP hS hl => lv_iand C.1 C.2.1 hd (kk z hz H locs ls hP hS hl)
theorem jj_ineg (C : jj_C p R s m args c D cl A ad cA G nL cs sl cc own Ts) {x : Int32} (hd : decode cc pc = .ok (.ineg, 1)) (kk : jj_J p l e R s m args below meth c D cl A ad cA G nL cs sl Q o σ (pc + 1) lv (.int (-x) :: rest)) : jj_J p l e R s m args below meth c D cl A ad cA G nL cs sl Q o σ pc lv (.int x :: rest) := fun z hz H locs ls hP hS hl => lv_ineg C.1 C.2.1 hd (kk z hz H locs ls hP hS hl)
theorem jj_idiv (C : jj_C p R s m args c D cl A ad cA G nL cs sl cc own Ts) {x y : Int32} (hd : decode cc pc = .ok (.idiv, 1)) (kk : jj_J p l e R s m args below meth c D cl A ad cA G nL cs sl Q o σ (pc + 1) lv (.int (x / y) :: rest)) : jj_J p l e R s m args below meth c D cl A ad cA G nL cs sl Q (jj_nz y o) σ pc lv (.int y :: .int x :: rest) := fun z hz H locs ls hP hS hl => lv_idiv C.1 C.2.1 hd (jj_nz_in hz).1 (kk z (jj_nz_in hz).2 H locs ls hP hS hl)
theorem jj_irem (C : jj_C p R s m args c D cl A ad cA G nL cs sl cc own Ts) {x y : Int32} (hd : decode cc pc = .ok (.irem, 1)) (kk : jj_J p l e R s m args below meth c D cl A ad cA G nL cs sl Q o σ (pc + 1) lv (.int (x - x / y * y) :: rest)) : jj_J p l e R s m args below meth c D cl A ad cA G nL cs sl Q (jj_nz y o) σ pc lv (.int y :: .int x :: rest) := fun z hz H locs ls hP hS hl => lv_irem C.1 C.2.1 hd (jj_nz_in hz).1 (kk z (jj_nz_in hz).2 H locs ls hP hS hl)
theorem jj_dup (C : jj_C p R s m args c D cl A ad cA G nL cs sl cc own Ts) {va : Value} (hd : decode cc pc = .ok (.dup, 1)) (h1 : va.category = 1) (kk : jj_J p l e R s m args below meth c D cl A ad cA G nL cs sl Q o σ (pc + 1) lv (va :: va :: rest)) : jj_J p l e R s m args below meth c D cl A ad cA G nL cs sl Q o σ pc lv (va :: rest) := fun z hz H locs ls hP hS hl => lv_dup C.1 C.2.1 hd h1 (kk z hz H locs ls hP hS hl)
theorem jj_pop (C : jj_C p R s m args c D cl A ad cA G nL cs sl cc own Ts) {va : Value} (hd : decode cc pc = .ok (.pop, 1)) (h1 : va.category = 1) (kk : jj_J p l e R s m args below meth c D cl A ad cA G nL cs sl Q o σ (pc + 1) lv rest) : jj_J p l e R s m args below meth c D cl A ad cA G nL cs sl Q o σ pc lv (va :: rest) := fun z hz H locs ls hP hS hl => lv_pop C.1 C.2.1 hd h1 (kk z hz H locs ls hP hS hl)
theorem jj_dup2 (C : jj_C p R s m args c D cl A ad cA G nL cs sl cc own Ts) {va vb : Value} (hd : decode cc pc = .ok (.dup2, 1)) (h1 : va.category = 1) (h2 : vb.category = 1) (kk : jj_J p l e R s m args below meth c D cl A ad cA G nL cs sl Q o σ (pc + 1) lv (va :: vb :: va :: vb :: rest)) : jj_J p l e R s m args below meth c D cl A ad cA G nL cs sl Q o σ pc lv (va :: vb :: rest) := fun z hz H locs ls hP hS hl => lv_dup2_11 C.1 C.2.1 hd h1 h2 (kk z hz H locs ls hP hS hl)
theorem jj_dup_x1 (C : jj_C p R s m args c D cl A ad cA G nL cs sl cc own Ts) {va vb : Value} (hd : decode cc pc = .ok (.dup_x1, 1)) (h1 : va.category = 1) (h2 : vb.category = 1) (kk : jj_J p l e R s m args below meth c D cl A ad cA G nL cs sl Q o σ (pc + 1) lv (va :: vb :: va :: rest)) : jj_J p l e R s m args below meth c D cl A ad cA G nL cs sl Q o σ pc lv (va :: vb :: rest) := fun z hz H locs ls hP hS hl => lv_dup_x1 C.1 C.2.1 hd h1 h2 (kk z hz H locs ls hP hS hl)
theorem jj_dup_x2 (C : jj_C p R s m args c D cl A ad cA G nL cs sl cc own Ts) {va vb vd : Value} (hd : decode cc pc = .ok (.dup_x2, 1)) (h1 : va.category = 1) (h2 : vb.category = 1) (h3 : vd.category = 1) (kk : jj_J p l e R s m args below meth c D cl A ad cA G nL cs sl Q o σ (pc + 1) lv (va :: vb :: vd :: va :: rest)) : jj_J p l e R s m args below meth c D cl A ad cA G nL cs sl Q o σ pc lv (va :: vb :: vd :: rest) := fun z hz H locs ls hP hS hl => lv_dup_x2 C.1 C.2.1 hd h1 h2 h3 (kk z hz H locs ls hP hS hl)
theorem jj_icmp_eq (C : jj_C p R s m args c D cl A ad cA G nL cs sl cc own Ts) {x y : Int32} {off : Int} {tgt : Nat} (hd : decode cc pc = .ok (.if_icmp .eq off, 3)) (ht : (pc : Int) + off = (tgt : Int)) (kt : x = y → jj_J p l e R s m args below meth c D cl A ad cA G nL cs sl Q o1 σ tgt lv rest) (kf : ¬ (x = y) → jj_J p l e R s m args below meth c D cl A ad cA G nL cs sl Q o2 σ (pc + 3) lv rest) : jj_J p l e R s m args below meth c D cl A ad cA G nL cs sl Q (if x = y then o1 else o2) σ pc lv (.int y :: .int x :: rest) := fun z hz H locs ls hP hS hl => lv_icmp_eq C.1 C.2.1 hd ht (fun q => kt q z (by rw [if_pos q] at hz; exact hz) H locs ls hP hS hl) (fun q => kf q z (by rw [if_neg q] at hz; exact hz) H locs ls hP hS hl)
theorem jj_if_eq (C : jj_C p R s m args c D cl A ad cA G nL cs sl cc own Ts) {x : Int32} {off : Int} {tgt : Nat} (hd : decode cc pc = .ok (.ifCond .eq off, 3)) (ht : (pc : Int) + off = (tgt : Int)) (kt : x = 0 → jj_J p l e R s m args below meth c D cl A ad cA G nL cs sl Q o1 σ tgt lv rest) (kf : ¬ (x = 0) → jj_J p l e R s m args below meth c D cl A ad cA G nL cs sl Q o2 σ (pc + 3) lv rest) : jj_J p l e R s m args below meth c D cl A ad cA G nL cs sl Q (if x = 0 then o1 else o2) σ pc lv (.int x :: rest) := fun z hz H locs ls hP hS hl => lv_if_eq C.1 C.2.1 hd ht (fun q => kt q z (by rw [if_pos q] at hz; exact hz) H locs ls hP hS hl) (fun q => kf q z (by rw [if_neg q] at hz; exact hz) H locs ls hP hS hl)
theorem jj_icmp_ne (C : jj_C p R s m args c D cl A ad cA G nL cs sl cc own Ts) {x y : Int32} {off : Int} {tgt : Nat} (hd : decode cc pc = .ok (.if_icmp .ne off, 3)) (ht : (pc : Int) + off = (tgt : Int)) (kt : ¬ (x = y) → jj_J p l e R s m args below meth c D cl A ad cA G nL cs sl Q o1 σ tgt lv rest) (kf : x = y → jj_J p l e R s m args below meth c D cl A ad cA G nL cs sl Q o2 σ (pc + 3) lv rest) : jj_J p l e R s m args below meth c D cl A ad cA G nL cs sl Q (if x = y then o2 else o1) σ pc lv (.int y :: .int x :: rest) := fun z hz H locs ls hP hS hl => lv_icmp_ne C.1 C.2.1 hd ht (fun q => kt q z (by rw [if_neg q] at hz; exact hz) H locs ls hP hS hl) (fun q => kf q z (by rw [if_pos q] at hz; exact hz) H locs ls hP hS hl)
theorem jj_if_ne (C : jj_C p R s m args c D cl A ad cA G nL cs sl cc own Ts) {x : Int32} {off : Int} {tgt : Nat} (hd : decode cc pc = .ok (.ifCond .ne off, 3)) (ht : (pc : Int) + off = (tgt : Int)) (kt : ¬ (x = 0) → jj_J p l e R s m args below meth c D cl A ad cA G nL cs sl Q o1 σ tgt lv rest) (kf : x = 0 → jj_J p l e R s m args below meth c D cl A ad cA G nL cs sl Q o2 σ (pc + 3) lv rest) : jj_J p l e R s m args below meth c D cl A ad cA G nL cs sl Q (if x = 0 then o2 else o1) σ pc lv (.int x :: rest) := fun z hz H locs ls hP hS hl => lv_if_ne C.1 C.2.1 hd ht (fun q => kt q z (by rw [if_neg q] at hz; exact hz) H locs ls hP hS hl) (fun q => kf q z (by rw [if_pos q] at hz; exact hz) H locs ls hP hS hl)
theorem jj_icmp_lt (C : jj_C p R s m args c D cl A ad cA G nL cs sl cc own Ts) {x y : Int32} {off : Int} {tgt : Nat} (hd : decode cc pc = .ok (.if_icmp .lt off, 3)) (ht : (pc : Int) + off = (tgt : Int)) (kt : x < y → jj_J p l e R s m args below meth c D cl A ad cA G nL cs sl Q o1 σ tgt lv rest) (kf : ¬ (x < y) → jj_J p l e R s m args below meth c D cl A ad cA G nL cs sl Q o2 σ (pc + 3) lv rest) : jj_J p l e R s m args below meth c D cl A ad cA G nL cs sl Q (if x < y then o1 else o2) σ pc lv (.int y :: .int x :: rest) := fun z hz H locs ls hP hS hl => lv_icmp_lt C.1 C.2.1 hd ht (fun q => kt q z (by rw [if_pos q] at hz; exact hz) H locs ls hP hS hl) (fun q => kf q z (by rw [if_neg q] at hz; exact hz) H locs ls hP hS hl)
theorem jj_if_lt (C : jj_C p R s m args c D cl A ad cA G nL cs sl cc own Ts) {x : Int32} {off : Int} {tgt : Nat} (hd : decode cc pc = .ok (.ifCond .lt off, 3)) (ht : (pc : Int) + off = (tgt : Int)) (kt : x < 0 → jj_J p l e R s m args below meth c D cl A ad cA G nL cs sl Q o1 σ tgt lv rest) (kf : ¬ (x < 0) → jj_J p l e R s m args below meth c D cl A ad cA G nL cs sl Q o2 σ (pc + 3) lv rest) : jj_J p l e R s m args below meth c D cl A ad cA G nL cs sl Q (if x < 0 then o1 else o2) σ pc lv (.int x :: rest) := fun z hz H locs ls hP hS hl => lv_if_lt C.1 C.2.1 hd ht (fun q => kt q z (by rw [if_pos q] at hz; exact hz) H locs ls hP hS hl) (fun q => kf q z (by rw [if_neg q] at hz; exact hz) H locs ls hP hS hl)
theorem jj_icmp_ge (C : jj_C p R s m args c D cl A ad cA G nL cs sl cc own Ts) {x y : Int32} {off : Int} {tgt : Nat} (hd : decode cc pc = .ok (.if_icmp .ge off, 3)) (ht : (pc : Int) + off = (tgt : Int)) (kt : y ≤ x → jj_J p l e R s m args below meth c D cl A ad cA G nL cs sl Q o1 σ tgt lv rest) (kf : ¬ (y ≤ x) → jj_J p l e R s m args below meth c D cl A ad cA G nL cs sl Q o2 σ (pc + 3) lv rest) : jj_J p l e R s m args below meth c D cl A ad cA G nL cs sl Q (if y ≤ x then o1 else o2) σ pc lv (.int y :: .int x :: rest) := fun z hz H locs ls hP hS hl => lv_icmp_ge C.1 C.2.1 hd ht (fun q => kt q z (by rw [if_pos q] at hz; exact hz) H locs ls hP hS hl) (fun q => kf q z (by rw [if_neg q] at hz; exact hz) H locs ls hP hS hl)
theorem jj_if_ge (C : jj_C p R s m args c D cl A ad cA G nL cs sl cc own Ts) {x : Int32} {off : Int} {tgt : Nat} (hd : decode cc pc = .ok (.ifCond .ge off, 3)) (ht : (pc : Int) + off = (tgt : Int)) (kt : 0 ≤ x → jj_J p l e R s m args below meth c D cl A ad cA G nL cs sl Q o1 σ tgt lv rest) (kf : ¬ (0 ≤ x) → jj_J p l e R s m args below meth c D cl A ad cA G nL cs sl Q o2 σ (pc + 3) lv rest) : jj_J p l e R s m args below meth c D cl A ad cA G nL cs sl Q (if 0 ≤ x then o1 else o2) σ pc lv (.int x :: rest) := fun z hz H locs ls hP hS hl => lv_if_ge C.1 C.2.1 hd ht (fun q => kt q z (by rw [if_pos q] at hz; exact hz) H locs ls hP hS hl) (fun q => kf q z (by rw [if_neg q] at hz; exact hz) H locs ls hP hS hl)
theorem jj_icmp_gt (C : jj_C p R s m args c D cl A ad cA G nL cs sl cc own Ts) {x y : Int32} {off : Int} {tgt : Nat} (hd : decode cc pc = .ok (.if_icmp .gt off, 3)) (ht : (pc : Int) + off = (tgt : Int)) (kt : y < x → jj_J p l e R s m args below meth c D cl A ad cA G nL cs sl Q o1 σ tgt lv rest) (kf : ¬ (y < x) → jj_J p l e R s m args below meth c D cl A ad cA G nL cs sl Q o2 σ (pc + 3) lv rest) : jj_J p l e R s m args below meth c D cl A ad cA G nL cs sl Q (if y < x then o1 else o2) σ pc lv (.int y :: .int x :: rest) := fun z hz H locs ls hP hS hl => lv_icmp_gt C.1 C.2.1 hd ht (fun q => kt q z (by rw [if_pos q] at hz; exact hz) H locs ls hP hS hl) (fun q => kf q z (by rw [if_neg q] at hz; exact hz) H locs ls hP hS hl)
theorem jj_if_gt (C : jj_C p R s m args c D cl A ad cA G nL cs sl cc own Ts) {x : Int32} {off : Int} {tgt : Nat} (hd : decode cc pc = .ok (.ifCond .gt off, 3)) (ht : (pc : Int) + off = (tgt : Int)) (kt : 0 < x → jj_J p l e R s m args below meth c D cl A ad cA G nL cs sl Q o1 σ tgt lv rest) (kf : ¬ (0 < x) → jj_J p l e R s m args below meth c D cl A ad cA G nL cs sl Q o2 σ (pc + 3) lv rest) : jj_J p l e R s m args below meth c D cl A ad cA G nL cs sl Q (if 0 < x then o1 else o2) σ pc lv (.int x :: rest) := fun z hz H locs ls hP hS hl => lv_if_gt C.1 C.2.1 hd ht (fun q => kt q z (by rw [if_pos q] at hz; exact hz) H locs ls hP hS hl) (fun q => kf q z (by rw [if_neg q] at hz; exact hz) H locs ls hP hS hl)
theorem jj_icmp_le (C : jj_C p R s m args c D cl A ad cA G nL cs sl cc own Ts) {x y : Int32} {off : Int} {tgt : Nat} (hd : decode cc pc = .ok (.if_icmp .le off, 3)) (ht : (pc : Int) + off = (tgt : Int)) (kt : x ≤ y → jj_J p l e R s m args below meth c D cl A ad cA G nL cs sl Q o1 σ tgt lv rest) (kf : ¬ (x ≤ y) → jj_J p l e R s m args below meth c D cl A ad cA G nL cs sl Q o2 σ (pc + 3) lv rest) : jj_J p l e R s m args below meth c D cl A ad cA G nL cs sl Q (if x ≤ y then o1 else o2) σ pc lv (.int y :: .int x :: rest) := fun z hz H locs ls hP hS hl => lv_icmp_le C.1 C.2.1 hd ht (fun q => kt q z (by rw [if_pos q] at hz; exact hz) H locs ls hP hS hl) (fun q => kf q z (by rw [if_neg q] at hz; exact hz) H locs ls hP hS hl)
theorem jj_if_le (C : jj_C p R s m args c D cl A ad cA G nL cs sl cc own Ts) {x : Int32} {off : Int} {tgt : Nat} (hd : decode cc pc = .ok (.ifCond .le off, 3)) (ht : (pc : Int) + off = (tgt : Int)) (kt : x ≤ 0 → jj_J p l e R s m args below meth c D cl A ad cA G nL cs sl Q o1 σ tgt lv rest) (kf : ¬ (x ≤ 0) → jj_J p l e R s m args below meth c D cl A ad cA G nL cs sl Q o2 σ (pc + 3) lv rest) : jj_J p l e R s m args below meth c D cl A ad cA G nL cs sl Q (if x ≤ 0 then o1 else o2) σ pc lv (.int x :: rest) := fun z hz H locs ls hP hS hl => lv_if_le C.1 C.2.1 hd ht (fun q => kt q z (by rw [if_pos q] at hz; exact hz) H locs ls hP hS hl) (fun q => kf q z (by rw [if_neg q] at hz; exact hz) H locs ls hP hS hl)
theorem jj_icmp_eq_t (C : jj_C p R s m args c D cl A ad cA G nL cs sl cc own Ts) {x y : Int32} {off : Int} {tgt : Nat} (hd : decode cc pc = .ok (.if_icmp .eq off, 3)) (ht : (pc : Int) + off = (tgt : Int)) (h : x = y) (kk : jj_J p l e R s m args below meth c D cl A ad cA G nL cs sl Q o σ tgt lv rest) : jj_J p l e R s m args below meth c D cl A ad cA G nL cs sl Q o σ pc lv (.int y :: .int x :: rest) := fun z hz H locs ls hP hS hl => lv_icmp_eq C.1 C.2.1 hd ht (fun _ => kk z hz H locs ls hP hS hl) (fun q => absurd h q)
theorem jj_icmp_eq_f (C : jj_C p R s m args c D cl A ad cA G nL cs sl cc own Ts) {x y : Int32} {off : Int} {tgt : Nat} (hd : decode cc pc = .ok (.if_icmp .eq off, 3)) (ht : (pc : Int) + off = (tgt : Int)) (h : ¬ (x = y)) (kk : jj_J p l e R s m args below meth c D cl A ad cA G nL cs sl Q o σ (pc + 3) lv rest) : jj_J p l e R s m args below meth c D cl A ad cA G nL cs sl Q o σ pc lv (.int y :: .int x :: rest) := fun z hz H locs ls hP hS hl => lv_icmp_eq C.1 C.2.1 hd ht (fun q => absurd q h) (fun _ => kk z hz H locs ls hP hS hl)
theorem jj_if_eq_t (C : jj_C p R s m args c D cl A ad cA G nL cs sl cc own Ts) {x : Int32} {off : Int} {tgt : Nat} (hd : decode cc pc = .ok (.ifCond .eq off, 3)) (ht : (pc : Int) + off = (tgt : Int)) (h : x = 0) (kk : jj_J p l e R s m args below meth c D cl A ad cA G nL cs sl Q o σ tgt lv rest) : jj_J p l e R s m args below meth c D cl A ad cA G nL cs sl Q o σ pc lv (.int x :: rest) := fun z hz H locs ls hP hS hl => lv_if_eq C.1 C.2.1 hd ht (fun _ => kk z hz H locs ls hP hS hl) (fun q => absurd h q)
theorem jj_if_eq_f (C : jj_C p R s m args c D cl A ad cA G nL cs sl cc own Ts) {x : Int32} {off : Int} {tgt : Nat} (hd : decode cc pc = .ok (.ifCond .eq off, 3)) (ht : (pc : Int) + off = (tgt : Int)) (h : ¬ (x = 0)) (kk : jj_J p l e R s m args below meth c D cl A ad cA G nL cs sl Q o σ (pc + 3) lv rest) : jj_J p l e R s m args below meth c D cl A ad cA G nL cs sl Q o σ pc lv (.int x :: rest) := fun z hz H locs ls hP hS hl => lv_if_eq C.1 C.2.1 hd ht (fun q => absurd q h) (fun _ => kk z hz H locs ls hP hS hl)
theorem jj_icmp_ne_t (C : jj_C p R s m args c D cl A ad cA G nL cs sl cc own Ts) {x y : Int32} {off : Int} {tgt : Nat} (hd : decode cc pc = .ok (.if_icmp .ne off, 3)) (ht : (pc : Int) + off = (tgt : Int)) (h : ¬ (x = y)) (kk : jj_J p l e R s m args below meth c D cl A ad cA G nL cs sl Q o σ tgt lv rest) : jj_J p l e R s m args below meth c D cl A ad cA G nL cs sl Q o σ pc lv (.int y :: .int x :: rest) := fun z hz H locs ls hP hS hl => lv_icmp_ne C.1 C.2.1 hd ht (fun _ => kk z hz H locs ls hP hS hl) (fun q => absurd q h)
theorem jj_icmp_ne_f (C : jj_C p R s m args c D cl A ad cA G nL cs sl cc own Ts) {x y : Int32} {off : Int} {tgt : Nat} (hd : decode cc pc = .ok (.if_icmp .ne off, 3)) (ht : (pc : Int) + off = (tgt : Int)) (h : x = y) (kk : jj_J p l e R s m args below meth c D cl A ad cA G nL cs sl Q o σ (pc + 3) lv rest) : jj_J p l e R s m args below meth c D cl A ad cA G nL cs sl Q o σ pc lv (.int y :: .int x :: rest) := fun z hz H locs ls hP hS hl => lv_icmp_ne C.1 C.2.1 hd ht (fun q => absurd h q) (fun _ => kk z hz H locs ls hP hS hl)
theorem jj_if_ne_t (C : jj_C p R s m args c D cl A ad cA G nL cs sl cc own Ts) {x : Int32} {off : Int} {tgt : Nat} (hd : decode cc pc = .ok (.ifCond .ne off, 3)) (ht : (pc : Int) + off = (tgt : Int)) (h : ¬ (x = 0)) (kk : jj_J p l e R s m args below meth c D cl A ad cA G nL cs sl Q o σ tgt lv rest) : jj_J p l e R s m args below meth c D cl A ad cA G nL cs sl Q o σ pc lv (.int x :: rest) := fun z hz H locs ls hP hS hl => lv_if_ne C.1 C.2.1 hd ht (fun _ => kk z hz H locs ls hP hS hl) (fun q => absurd q h)
theorem jj_if_ne_f (C : jj_C p R s m args c D cl A ad cA G nL cs sl cc own Ts) {x : Int32} {off : Int} {tgt : Nat} (hd : decode cc pc = .ok (.ifCond .ne off, 3)) (ht : (pc : Int) + off = (tgt : Int)) (h : x = 0) (kk : jj_J p l e R s m args below meth c D cl A ad cA G nL cs sl Q o σ (pc + 3) lv rest) : jj_J p l e R s m args below meth c D cl A ad cA G nL cs sl Q o σ pc lv (.int x :: rest) := fun z hz H locs ls hP hS hl => lv_if_ne C.1 C.2.1 hd ht (fun q => absurd h q) (fun _ => kk z hz H locs ls hP hS hl)
theorem jj_icmp_lt_t (C : jj_C p R s m args c D cl A ad cA G nL cs sl cc own Ts) {x y : Int32} {off : Int} {tgt : Nat} (hd : decode cc pc = .ok (.if_icmp .lt off, 3)) (ht : (pc : Int) + off = (tgt : Int)) (h : x < y) (kk : jj_J p l e R s m args below meth c D cl A ad cA G nL cs sl Q o σ tgt lv rest) : jj_J p l e R s m args below meth c D cl A ad cA G nL cs sl Q o σ pc lv (.int y :: .int x :: rest) := fun z hz H locs ls hP hS hl => lv_icmp_lt C.1 C.2.1 hd ht (fun _ => kk z hz H locs ls hP hS hl) (fun q => absurd h q)
theorem jj_icmp_lt_f (C : jj_C p R s m args c D cl A ad cA G nL cs sl cc own Ts) {x y : Int32} {off : Int} {tgt : Nat} (hd : decode cc pc = .ok (.if_icmp .lt off, 3)) (ht : (pc : Int) + off = (tgt : Int)) (h : ¬ (x < y)) (kk : jj_J p l e R s m args below meth c D cl A ad cA G nL cs sl Q o σ (pc + 3) lv rest) : jj_J p l e R s m args below meth c D cl A ad cA G nL cs sl Q o σ pc lv (.int y :: .int x :: rest) := fun z hz H locs ls hP hS hl => lv_icmp_lt C.1 C.2.1 hd ht (fun q => absurd q h) (fun _ => kk z hz H locs ls hP hS hl)
theorem jj_if_lt_t (C : jj_C p R s m args c D cl A ad cA G nL cs sl cc own Ts) {x : Int32} {off : Int} {tgt : Nat} (hd : decode cc pc = .ok (.ifCond .lt off, 3)) (ht : (pc : Int) + off = (tgt : Int)) (h : x < 0) (kk : jj_J p l e R s m args below meth c D cl A ad cA G nL cs sl Q o σ tgt lv rest) : jj_J p l e R s m args below meth c D cl A ad cA G nL cs sl Q o σ pc lv (.int x :: rest) := fun z hz H locs ls hP hS hl => lv_if_lt C.1 C.2.1 hd ht (fun _ => kk z hz H locs ls hP hS hl) (fun q => absurd h q)
theorem jj_if_lt_f (C : jj_C p R s m args c D cl A ad cA G nL cs sl cc own Ts) {x : Int32} {off : Int} {tgt : Nat} (hd : decode cc pc = .ok (.ifCond .lt off, 3)) (ht : (pc : Int) + off = (tgt : Int)) (h : ¬ (x < 0)) (kk : jj_J p l e R s m args below meth c D cl A ad cA G nL cs sl Q o σ (pc + 3) lv rest) : jj_J p l e R s m args below meth c D cl A ad cA G nL cs sl Q o σ pc lv (.int x :: rest) := fun z hz H locs ls hP hS hl => lv_if_lt C.1 C.2.1 hd ht (fun q => absurd q h) (fun _ => kk z hz H locs ls hP hS hl)
theorem jj_icmp_ge_t (C : jj_C p R s m args c D cl A ad cA G nL cs sl cc own Ts) {x y : Int32} {off : Int} {tgt : Nat} (hd : decode cc pc = .ok (.if_icmp .ge off, 3)) (ht : (pc : Int) + off = (tgt : Int)) (h : y ≤ x) (kk : jj_J p l e R s m args below meth c D cl A ad cA G nL cs sl Q o σ tgt lv rest) : jj_J p l e R s m args below meth c D cl A ad cA G nL cs sl Q o σ pc lv (.int y :: .int x :: rest) := fun z hz H locs ls hP hS hl => lv_icmp_ge C.1 C.2.1 hd ht (fun _ => kk z hz H locs ls hP hS hl) (fun q => absurd h q)
theorem jj_icmp_ge_f (C : jj_C p R s m args c D cl A ad cA G nL cs sl cc own Ts) {x y : Int32} {off : Int} {tgt : Nat} (hd : decode cc pc = .ok (.if_icmp .ge off, 3)) (ht : (pc : Int) + off = (tgt : Int)) (h : ¬ (y ≤ x)) (kk : jj_J p l e R s m args below meth c D cl A ad cA G nL cs sl Q o σ (pc + 3) lv rest) : jj_J p l e R s m args below meth c D cl A ad cA G nL cs sl Q o σ pc lv (.int y :: .int x :: rest) := fun z hz H locs ls hP hS hl => lv_icmp_ge C.1 C.2.1 hd ht (fun q => absurd q h) (fun _ => kk z hz H locs ls hP hS hl)
theorem jj_if_ge_t (C : jj_C p R s m args c D cl A ad cA G nL cs sl cc own Ts) {x : Int32} {off : Int} {tgt : Nat} (hd : decode cc pc = .ok (.ifCond .ge off, 3)) (ht : (pc : Int) + off = (tgt : Int)) (h : 0 ≤ x) (kk : jj_J p l e R s m args below meth c D cl A ad cA G nL cs sl Q o σ tgt lv rest) : jj_J p l e R s m args below meth c D cl A ad cA G nL cs sl Q o σ pc lv (.int x :: rest) := fun z hz H locs ls hP hS hl => lv_if_ge C.1 C.2.1 hd ht (fun _ => kk z hz H locs ls hP hS hl) (fun q => absurd h q)
theorem jj_if_ge_f (C : jj_C p R s m args c D cl A ad cA G nL cs sl cc own Ts) {x : Int32} {off : Int} {tgt : Nat} (hd : decode cc pc = .ok (.ifCond .ge off, 3)) (ht : (pc : Int) + off = (tgt : Int)) (h : ¬ (0 ≤ x)) (kk : jj_J p l e R s m args below meth c D cl A ad cA G nL cs sl Q o σ (pc + 3) lv rest) : jj_J p l e R s m args below meth c D cl A ad cA G nL cs sl Q o σ pc lv (.int x :: rest) := fun z hz H locs ls hP hS hl => lv_if_ge C.1 C.2.1 hd ht (fun q => absurd q h) (fun _ => kk z hz H locs ls hP hS hl)
theorem jj_icmp_gt_t (C : jj_C p R s m args c D cl A ad cA G nL cs sl cc own Ts) {x y : Int32} {off : Int} {tgt : Nat} (hd : decode cc pc = .ok (.if_icmp .gt off, 3)) (ht : (pc : Int) + off = (tgt : Int)) (h : y < x) (kk : jj_J p l e R s m args below meth c D cl A ad cA G nL cs sl Q o σ tgt lv rest) : jj_J p l e R s m args below meth c D cl A ad cA G nL cs sl Q o σ pc lv (.int y :: .int x :: rest) := fun z hz H locs ls hP hS hl => lv_icmp_gt C.1 C.2.1 hd ht (fun _ => kk z hz H locs ls hP hS hl) (fun q => absurd h q)
theorem jj_icmp_gt_f (C : jj_C p R s m args c D cl A ad cA G nL cs sl cc own Ts) {x y : Int32} {off : Int} {tgt : Nat} (hd : decode cc pc = .ok (.if_icmp .gt off, 3)) (ht : (pc : Int) + off = (tgt : Int)) (h : ¬ (y < x)) (kk : jj_J p l e R s m args below meth c D cl A ad cA G nL cs sl Q o σ (pc + 3) lv rest) : jj_J p l e R s m args below meth c D cl A ad cA G nL cs sl Q o σ pc lv (.int y :: .int x :: rest) := fun z hz H locs ls hP hS hl => lv_icmp_gt C.1 C.2.1 hd ht (fun q => absurd q h) (fun _ => kk z hz H locs ls hP hS hl)
theorem jj_if_gt_t (C : jj_C p R s m args c D cl A ad cA G nL cs sl cc own Ts) {x : Int32} {off : Int} {tgt : Nat} (hd : decode cc pc = .ok (.ifCond .gt off, 3)) (ht : (pc : Int) + off = (tgt : Int)) (h : 0 < x) (kk : jj_J p l e R s m args below meth c D cl A ad cA G nL cs sl Q o σ tgt lv rest) : jj_J p l e R s m args below meth c D cl A ad cA G nL cs sl Q o σ pc lv (.int x :: rest) := fun z hz H locs ls hP hS hl => lv_if_gt C.1 C.2.1 hd ht (fun _ => kk z hz H locs ls hP hS hl) (fun q => absurd h q)
theorem jj_if_gt_f (C : jj_C p R s m args c D cl A ad cA G nL cs sl cc own Ts) {x : Int32} {off : Int} {tgt : Nat} (hd : decode cc pc = .ok (.ifCond .gt off, 3)) (ht : (pc : Int) + off = (tgt : Int)) (h : ¬ (0 < x)) (kk : jj_J p l e R s m args below meth c D cl A ad cA G nL cs sl Q o σ (pc + 3) lv rest) : jj_J p l e R s m args below meth c D cl A ad cA G nL cs sl Q o σ pc lv (.int x :: rest) := fun z hz H locs ls hP hS hl => lv_if_gt C.1 C.2.1 hd ht (fun q => absurd q h) (fun _ => kk z hz H locs ls hP hS hl)
theorem jj_icmp_le_t (C : jj_C p R s m args c D cl A ad cA G nL cs sl cc own Ts) {x y : Int32} {off : Int} {tgt : Nat} (hd : decode cc pc = .ok (.if_icmp .le off, 3)) (ht : (pc : Int) + off = (tgt : Int)) (h : x ≤ y) (kk : jj_J p l e R s m args below meth c D cl A ad cA G nL cs sl Q o σ tgt lv rest) : jj_J p l e R s m args below meth c D cl A ad cA G nL cs sl Q o σ pc lv (.int y :: .int x :: rest) := fun z hz H locs ls hP hS hl => lv_icmp_le C.1 C.2.1 hd ht (fun _ => kk z hz H locs ls hP hS hl) (fun q => absurd h q)
theorem jj_icmp_le_f (C : jj_C p R s m args c D cl A ad cA G nL cs sl cc own Ts) {x y : Int32} {off : Int} {tgt : Nat} (hd : decode cc pc = .ok (.if_icmp .le off, 3)) (ht : (pc : Int) + off = (tgt : Int)) (h : ¬ (x ≤ y)) (kk : jj_J p l e R s m args below meth c D cl A ad cA G nL cs sl Q o σ (pc + 3) lv rest) : jj_J p l e R s m args below meth c D cl A ad cA G nL cs sl Q o σ pc lv (.int y :: .int x :: rest) := fun z hz H locs ls hP hS hl => lv_icmp_le C.1 C.2.1 hd ht (fun q => absurd q h) (fun _ => kk z hz H locs ls hP hS hl)
theorem jj_if_le_t (C : jj_C p R s m args c D cl A ad cA G nL cs sl cc own Ts) {x : Int32} {off : Int} {tgt : Nat} (hd : decode cc pc = .ok (.ifCond .le off, 3)) (ht : (pc : Int) + off = (tgt : Int)) (h : x ≤ 0) (kk : jj_J p l e R s m args below meth c D cl A ad cA G nL cs sl Q o σ tgt lv rest) : jj_J p l e R s m args below meth c D cl A ad cA G nL cs sl Q o σ pc lv (.int x :: rest) := fun z hz H locs ls hP hS hl => lv_if_le C.1 C.2.1 hd ht (fun _ => kk z hz H locs ls hP hS hl) (fun q => absurd h q)
theorem jj_if_le_f (C : jj_C p R s m args c D cl A ad cA G nL cs sl cc own Ts) {x : Int32} {off : Int} {tgt : Nat} (hd : decode cc pc = .ok (.ifCond .le off, 3)) (ht : (pc : Int) + off = (tgt : Int)) (h : ¬ (x ≤ 0)) (kk : jj_J p l e R s m args below meth c D cl A ad cA G nL cs sl Q o σ (pc + 3) lv rest) : jj_J p l e R s m args below meth c D cl A ad cA G nL cs sl Q o σ pc lv (.int x :: rest) := fun z hz H locs ls hP hS hl => lv_if_le C.1 C.2.1 hd ht (fun q => absurd q h) (fun _ => kk z hz H locs ls hP hS hl)
theorem jj_sub {lv lv' : List (Nat × Value)} (ks : List Nat) (h : lv_pick lv ks = lv') (kk : jj_J p l e R s m args below meth c D cl A ad cA G nL cs sl Q o σ pc lv' st) : jj_J p l e R s m args below meth c D cl A ad cA G nL cs sl Q o σ pc lv st := fun z hz H locs ls hP hS hl => kk z hz H locs ls hP hS (lv_sub hl ks h)
theorem jj_by {P : Prop} {dP : Decidable P} (kt : P → jj_J p l e R s m args below meth c D cl A ad cA G nL cs sl Q o1 σ pc lv st) (kf : ¬ P → jj_J p l e R s m args below meth c D cl A ad cA G nL cs sl Q o2 σ pc lv st) : jj_J p l e R s m args below meth c D cl A ad cA G nL cs sl Q (@ite _ P dP o1 o2) σ pc lv st := by
  intro z hz
  by_cases q : P
  · rw [if_pos q] at hz; exact kt q z hz
  · rw [if_neg q] at hz; exact kf q z hz
theorem jj_tsi (C : jj_C p R s m args c D cl A ad cA G nL cs sl cc own Ts) {x v : Int32} {dflt lo hi off : Int} {offs : Array Int} {len tgt : Nat} (hd : decode cc pc = .ok (.tableswitch dflt lo hi offs, len)) (hx : x = v) (h1 : ¬ v.toInt < lo) (h2 : ¬ hi < v.toInt) (ho : offs[(v.toInt - lo).toNat]? = some off) (ht : (pc : Int) + off = (tgt : Int)) (kk : jj_J p l e R s m args below meth c D cl A ad cA G nL cs sl Q o σ tgt lv rest) : jj_J p l e R s m args below meth c D cl A ad cA G nL cs sl Q o σ pc lv (.int x :: rest) := by
  subst hx
  exact fun z hz H locs ls hP hS hl => lv_tableIn C.1 C.2.1 hd h1 h2 ho ht (kk z hz H locs ls hP hS hl)
theorem jj_tso (C : jj_C p R s m args c D cl A ad cA G nL cs sl cc own Ts) {x : Int32} {dflt lo hi : Int} {offs : Array Int} {len tgt : Nat} (hd : decode cc pc = .ok (.tableswitch dflt lo hi offs, len)) (hx : ∀ j : Int, lo ≤ j → j ≤ hi → x.toInt = j → False) (ht : (pc : Int) + dflt = (tgt : Int)) (kk : jj_J p l e R s m args below meth c D cl A ad cA G nL cs sl Q o σ tgt lv rest) : jj_J p l e R s m args below meth c D cl A ad cA G nL cs sl Q o σ pc lv (.int x :: rest) := fun z hz H locs ls hP hS hl => lv_tableOut C.1 C.2.1 hd (by rcases Int.lt_or_le x.toInt lo with h | h; exact Or.inl h; rcases Int.lt_or_le hi x.toInt with h2 | h2; exact Or.inr h2; exact absurd rfl (fun q => hx x.toInt h h2 q)) ht (kk z hz H locs ls hP hS hl)
theorem jj_goto (C : jj_C p R s m args c D cl A ad cA G nL cs sl cc own Ts) {off : Int} {tgt : Nat} (hd : decode cc pc = .ok (.goto off, 3)) (ht : (pc : Int) + off = (tgt : Int)) (kk : jj_J p l e R s m args below meth c D cl A ad cA G nL cs sl Q o σ tgt lv st) : jj_J p l e R s m args below meth c D cl A ad cA G nL cs sl Q o σ pc lv st := fun z hz H locs ls hP hS hl => lv_goto C.1 C.2.1 hd ht (kk z hz H locs ls hP hS hl)
theorem jj_fld {ad : Nat → Nat} {σ : jj_S} {k j : Nat} {fs : List (Option (Option Nat))} {x : Option (Option Nat)} (h : fs[j]? = some x) : (fs.mapIdx (jj_fv ad σ k))[j]? = some (jj_fv ad σ k j x) := by
  rw [List.getElem?_mapIdx, h]; rfl
theorem jj_geti (C : jj_C p R s m args c D cl A ad cA G nL cs sl cc own Ts) {Cn : String} {T : u_T} {N ci index : Nat} (k j : Nat) {fs : List (Option (Option Nat))} (hin : ∀ w ∈ u_ws Cn T N, w ∈ Ts) (hG : G[k]? = some (.inl (ci, fs))) (hc : cl[ci]? = some (Cn, T, N)) (hk : j < N) (hlink : Cond.fieldLink own index (T j).1 (T j).2.1 (T j).2.2.1 ∈ Ts) (hf : fs[j]? = some none) (hd : decode cc pc = .ok (.getfield index, 3)) (kk : jj_J p l e R s m args below meth c D cl A ad cA G nL cs sl Q o σ (pc + 3) lv (.int (σ k j) :: rest)) : jj_J p l e R s m args below meth c D cl A ad cA G nL cs sl Q o σ pc lv (.ref (ad k) :: rest) := fun z hz H locs ls hP hS hl => va_get (q0 := k) (k := j) C.1 C.2.1 C.2.2.2.2.1 hin C.2.2.2.1 C.2.2.2.2.2.1 hP (jj_w_get σ hG) hc hk (C.2.2.2.2.1 _ hlink) (fun _ h => h) (jj_fld hf) hd (kk z hz H locs ls hP hS hl)
theorem jj_getr (C : jj_C p R s m args c D cl A ad cA G nL cs sl cc own Ts) {Cn : String} {T : u_T} {N ci index : Nat} (k j : Nat) {fs : List (Option (Option Nat))} {r : Nat} (hin : ∀ w ∈ u_ws Cn T N, w ∈ Ts) (hG : G[k]? = some (.inl (ci, fs))) (hc : cl[ci]? = some (Cn, T, N)) (hk : j < N) (hlink : Cond.fieldLink own index (T j).1 (T j).2.1 (T j).2.2.1 ∈ Ts) (hf : fs[j]? = some (some (some r))) (hd : decode cc pc = .ok (.getfield index, 3)) (kk : jj_J p l e R s m args below meth c D cl A ad cA G nL cs sl Q o σ (pc + 3) lv (.ref (ad r) :: rest)) : jj_J p l e R s m args below meth c D cl A ad cA G nL cs sl Q o σ pc lv (.ref (ad k) :: rest) := fun z hz H locs ls hP hS hl => va_get (q0 := k) (k := j) C.1 C.2.1 C.2.2.2.2.1 hin C.2.2.2.1 C.2.2.2.2.2.1 hP (jj_w_get σ hG) hc hk (C.2.2.2.2.1 _ hlink) (fun _ h => h) (jj_fld hf) hd (kk z hz H locs ls hP hS hl)
theorem jj_fset {ad : Nat → Nat} {σ : jj_S} {k j : Nat} {fs : List (Option (Option Nat))} {x : Int32} (h : fs[j]? = some none) : fs.mapIdx (jj_fv ad (jj_up σ k j x) k) = (fs.mapIdx (jj_fv ad σ k)).set j (.int x) := by
  apply List.ext_getElem?
  intro i
  have hlt : j < fs.length := (List.getElem?_eq_some_iff.mp h).1
  rw [List.getElem?_set, List.getElem?_mapIdx]
  by_cases hj : j = i
  · subst hj
    rw [h, if_pos rfl, if_pos (by rw [List.length_mapIdx]; exact hlt)]
    simp [jj_fv, jj_up, upd]
  · rw [if_neg hj, List.getElem?_mapIdx]
    cases fs[i]? with
    | none => rfl
    | some f => rcases f with _ | _ | r <;> simp [jj_fv, jj_up, upd, Ne.symm hj]
theorem jj_puti (C : jj_C p R s m args c D cl A ad cA G nL cs sl cc own Ts) {Cn : String} {T : u_T} {N ci index : Nat} (k j : Nat) {fs : List (Option (Option Nat))} {x : Int32} (hin : ∀ w ∈ u_ws Cn T N, w ∈ Ts) (hG : G[k]? = some (.inl (ci, fs))) (hc : cl[ci]? = some (Cn, T, N)) (hk : j < N) (hlink : Cond.fieldLink own index (T j).1 (T j).2.1 (T j).2.2.1 ∈ Ts) (ty0 : Nat → FieldType) (hty : ∀ k, k < N → parseFieldDescriptor (T k).2.2.1 = some (ty0 k)) (hnm : ∀ a, a < N → ∀ b, b < N → a ≠ b → (T a).2.1 ≠ (T b).2.1) (hfin : (T j).2.2.2 = false) (h0 : parseFieldDescriptor (T j).2.2.1 = some .int) (hf : fs[j]? = some none) (hd : decode cc pc = .ok (.putfield index, 3)) (kk : jj_J p l e R s m args below meth c D cl A ad cA G nL cs sl Q o (jj_up σ k j x) (pc + 3) lv rest) : jj_J p l e R s m args below meth c D cl A ad cA G nL cs sl Q o σ pc lv (.int x :: .ref (ad k) :: rest) := by
  intro z hz H locs ls hP hS hl
  refine va_put (q0 := k) (k := j) C.1 C.2.1 C.2.2.2.2.1 hin ty0 hty hnm C.2.2.2.1 C.2.2.2.2.2.1 hP (C.2.2.2.2.2.2.1 σ) hS (jj_w_get σ hG) hc hk (C.2.2.2.2.1 _ hlink) (fun _ h => h) hfin h0 rfl rfl (by rw [List.length_mapIdx]; exact (List.getElem?_eq_some_iff.mp hf).1) hd (fun H1 locs1 hP1 _ hS1 => ?_)
  rw [jj_w_set (x := x) (i := j) hG (by show (ad k, _) = _; rw [jj_fset hf])] at hP1
  exact kk z hz H1 locs1 ls hP1 hS1 hl
theorem jj_iald (C : jj_C p R s m args c D cl A ad cA G nL cs sl cc own Ts) {n : Nat} {i : Int32} (k : Nat) (hG : G[k]? = some (.inr (.int, n))) (hd : decode cc pc = .ok (.iaload, 1)) (kk : jj_J p l e R s m args below meth c D cl A ad cA G nL cs sl Q o σ (pc + 1) lv (.int (σ k i.toNatClampNeg) :: rest)) : jj_J p l e R s m args below meth c D cl A ad cA G nL cs sl Q (jj_ck n i o) σ pc lv (.int i :: .ref (ad k) :: rest) := fun z hz H locs ls hP hS hl => va_iald (q0 := k) (t0 := 0) C.1 C.2.1 C.2.2.2.2.2.1 hP (jj_w_get σ hG) rfl (jj_ck_in hz).1 hd (kk z (jj_ck_in hz).2 H locs ls hP hS hl)
theorem jj_zald (C : jj_C p R s m args c D cl A ad cA G nL cs sl cc own Ts) {n : Nat} {i : Int32} (k : Nat) (hG : G[k]? = some (.inr (.boolean, n))) (hd : decode cc pc = .ok (.baload, 1)) (kk : jj_J p l e R s m args below meth c D cl A ad cA G nL cs sl Q o σ (pc + 1) lv (.int (σ k i.toNatClampNeg) :: rest)) : jj_J p l e R s m args below meth c D cl A ad cA G nL cs sl Q (jj_ck n i o) σ pc lv (.int i :: .ref (ad k) :: rest) := fun z hz H locs ls hP hS hl => va_zald (q0 := k) (t0 := 1) C.1 C.2.1 C.2.2.2.2.2.1 hP (jj_w_get σ hG) rfl (jj_ck_in hz).1 hd (kk z (jj_ck_in hz).2 H locs ls hP hS hl)
theorem jj_iast (C : jj_C p R s m args c D cl A ad cA G nL cs sl cc own Ts) {n : Nat} {i x : Int32} (k : Nat) (hG : G[k]? = some (.inr (.int, n))) (hd : decode cc pc = .ok (.iastore, 1)) (kk : jj_J p l e R s m args below meth c D cl A ad cA G nL cs sl Q o (jj_up σ k i.toNatClampNeg x) (pc + 1) lv rest) : jj_J p l e R s m args below meth c D cl A ad cA G nL cs sl Q (jj_ck n i o) σ pc lv (.int x :: .int i :: .ref (ad k) :: rest) := by
  intro z hz H locs ls hP hS hl
  refine va_iast (q0 := k) (t0 := 0) C.1 C.2.1 C.2.2.2.2.2.1 hP (C.2.2.2.2.2.2.1 σ) hS (jj_w_get σ hG) rfl (jj_ck_in hz).1 hd (fun H1 locs1 hP1 _ hS1 => ?_)
  rw [jj_w_set (x := x) (i := i.toNatClampNeg) hG (by show (ad k, _) = _; rw [jj_up_same])] at hP1
  exact kk z (jj_ck_in hz).2 H1 locs1 ls hP1 hS1 hl
theorem jj_zast (C : jj_C p R s m args c D cl A ad cA G nL cs sl cc own Ts) {n : Nat} {i x : Int32} (k : Nat) (hG : G[k]? = some (.inr (.boolean, n))) (hd : decode cc pc = .ok (.bastore, 1)) (kk : jj_J p l e R s m args below meth c D cl A ad cA G nL cs sl Q o (jj_up σ k i.toNatClampNeg (vp_nar .boolean x)) (pc + 1) lv rest) : jj_J p l e R s m args below meth c D cl A ad cA G nL cs sl Q (jj_ck n i o) σ pc lv (.int x :: .int i :: .ref (ad k) :: rest) := by
  intro z hz H locs ls hP hS hl
  refine va_zast (q0 := k) (t0 := 1) C.1 C.2.1 C.2.2.2.2.2.1 hP (C.2.2.2.2.2.2.1 σ) hS (jj_w_get σ hG) rfl (jj_ck_in hz).1 hd (fun H1 locs1 hP1 _ hS1 => ?_)
  rw [jj_w_set (x := (vp_nar .boolean x)) (i := i.toNatClampNeg) hG (by show (ad k, _) = _; rw [jj_up_same])] at hP1
  exact kk z (jj_ck_in hz).2 H1 locs1 ls hP1 hS1 hl
theorem jj_alen (C : jj_C p R s m args c D cl A ad cA G nL cs sl cc own Ts) {n : Nat} {ty : FieldType} (k : Nat) (t0 : Nat) (hG : G[k]? = some (.inr (ty, n))) (ht : (jj_t cA)[t0]? = some (cA ty, ty)) (hd : decode cc pc = .ok (.arraylength, 1)) (kk : jj_J p l e R s m args below meth c D cl A ad cA G nL cs sl Q o σ (pc + 1) lv (.int (nI n) :: rest)) : jj_J p l e R s m args below meth c D cl A ad cA G nL cs sl Q o σ pc lv (.ref (ad k) :: rest) := fun z hz H locs ls hP hS hl => va_alen (q0 := k) (t0 := t0) C.1 C.2.1 C.2.2.2.2.2.1 hP (jj_w_get σ hG) ht rfl hd (kk z hz H locs ls hP hS hl)
/-- a method's contract over the world: it answers r and leaves σ' -/
def jj_Mi (l : Launch) (y : MethodName) (ws : List Cond) (rm : Room) (D : va_G) (cl : List vw_C) (ad : Nat → Nat) (cA : FieldType → ClassId) (G : List jj_H) (av : List Value) (σ : jj_S) (z : Int32 × jj_S) : Prop :=
  ∀ sz : Nat, Met l y ws rm (va_Pc av (fun U => U.heap.size = sz ∧ va_P D cl (jj_w ad cA G σ) U.heap ∧ va_K D cl (jj_t cA) U ∧ va_D (fun _ => True) (jj_w ad cA G σ))) (va_Qi (fun r (u : jj_S) => (r, u) = z) (fun u t => va_P D cl (jj_w ad cA G u) t.heap) (va_A (jj_w ad cA G σ) sz)) 0 0 (va_A (jj_w ad cA G σ) sz)
def jj_Mv (l : Launch) (y : MethodName) (ws : List Cond) (rm : Room) (D : va_G) (cl : List vw_C) (ad : Nat → Nat) (cA : FieldType → ClassId) (G : List jj_H) (av : List Value) (σ : jj_S) (z : jj_S) : Prop :=
  ∀ sz : Nat, Met l y ws rm (va_Pc av (fun U => U.heap.size = sz ∧ va_P D cl (jj_w ad cA G σ) U.heap ∧ va_K D cl (jj_t cA) U ∧ va_D (fun _ => True) (jj_w ad cA G σ))) (va_Qv (fun (u : jj_S) => u = z) (fun u t => va_P D cl (jj_w ad cA G u) t.heap) (va_A (jj_w ad cA G σ) sz)) 0 0 (va_A (jj_w ad cA G σ) sz)
def jj_Qi (below : List Frame) (D : va_G) (cl : List vw_C) (A : Nat → Prop) (ad : Nat → Nat) (cA : FieldType → ClassId) (G : List jj_H) (args : Array Value) (s : State) (cs sl : Nat) (z : Int32 × jj_S) : State → Prop := MQ below (va_Qi (fun r (u : jj_S) => (r, u) = z) (fun u t => va_P D cl (jj_w ad cA G u) t.heap) A) args s cs sl A
def jj_Qv (below : List Frame) (D : va_G) (cl : List vw_C) (A : Nat → Prop) (ad : Nat → Nat) (cA : FieldType → ClassId) (G : List jj_H) (args : Array Value) (s : State) (cs sl : Nat) (z : jj_S) : State → Prop := MQ below (va_Qv (fun (u : jj_S) => u = z) (fun u t => va_P D cl (jj_w ad cA G u) t.heap) A) args s cs sl A
def jj_b2 {γ : Type} (f : Option (Int32 × jj_S)) (k : Int32 → jj_S → Option γ) : Option γ := f.bind (fun z => k z.1 z.2)
def jj_st {γ : Type} (σ : jj_S) (k : jj_S → Option γ) : Option γ := k σ
def jj_lt {γ : Type} (x : Int32) (k : Int32 → Option γ) : Option γ := k x
def jj_b1 {γ : Type} (f : Option jj_S) (k : jj_S → Option γ) : Option γ := f.bind k
theorem jj_stn {k : jj_S → Option β} (kk : ∀ σ' : jj_S, jj_J p l e R s m args below meth c D cl A ad cA G nL cs sl Q (k σ') σ' pc lv st) : jj_J p l e R s m args below meth c D cl A ad cA G nL cs sl Q (jj_st σ k) σ pc lv st := kk σ
theorem jj_ltn {k : Int32 → Option β} {x : Int32} (kk : ∀ v : Int32, jj_J p l e R s m args below meth c D cl A ad cA G nL cs sl Q (k v) σ pc lv (.int v :: rest)) : jj_J p l e R s m args below meth c D cl A ad cA G nL cs sl Q (jj_lt x k) σ pc lv (.int x :: rest) := kk x
theorem jj_ofi {y : MethodName} {rm : Room} {ret : Option FieldType} {av : List Value} {z : Int32 × jj_S} {o : Option (Int32 × jj_S)} {ys : List Cond} (hn : plainName y.cls = true) (ho : o = some z) (hal : (lg_sl av).length ≤ nL)
    (body : ∀ (p : Program) (e : Env) (s : State) (m : MethodId) (below : List Frame) (meth : Method) (c : Code), jj_C p (headSpec (Cond.code y cc nL ret :: ys) rm).room s m av.toArray c D cl (va_A (jj_w ad cA G σ) s.heap.size) ad cA G nL 0 0 cc y.cls ys → meth.sig.returnType = ret → meth.locks = false →
      jj_J p l e (headSpec (Cond.code y cc nL ret :: ys) rm).room s m av.toArray below meth c D cl (va_A (jj_w ad cA G σ) s.heap.size) ad cA G nL 0 0 (jj_Qi below D cl (va_A (jj_w ad cA G σ) s.heap.size) ad cA G av.toArray s 0 0) o σ 0 (lv_args 0 av) []) :
    jj_Mi l y (Cond.code y cc nL ret :: ys) rm D cl ad cA G av σ z := by
  intro sz
  refine Met.ofW (cc := cc) (maxL := nL) (ret := ret) hn rfl ?_
  intro p e s m args below meth c s₁ B hml hv
  obtain ⟨rfl, hsz, hP, hK, hD0⟩ := hv
  subst hsz
  have hts := atoms_spec (ws := Cond.code y cc nL ret :: ys) B.pre
  have hD := hD0.self (sz := s.heap.size)
  rw [lg_entry_eq]
  exact body p e s m below meth c ⟨B.exec, B.bytes, hml, findClass_of_methodNamed B.named, fun w hw => hts w (List.mem_cons_of_mem _ hw), hK, fun _ => jj_D hD, fun q h => Or.inr h, Nat.zero_le _, Nat.zero_le _⟩ B.returns B.notSynchronized z ho s.heap [] _ hP va_S.rf (lv_entry av hal)
theorem jj_ofv {y : MethodName} {rm : Room} {ret : Option FieldType} {av : List Value} {z : jj_S} {o : Option (jj_S)} {ys : List Cond} (hn : plainName y.cls = true) (ho : o = some z) (hal : (lg_sl av).length ≤ nL)
    (body : ∀ (p : Program) (e : Env) (s : State) (m : MethodId) (below : List Frame) (meth : Method) (c : Code), jj_C p (headSpec (Cond.code y cc nL ret :: ys) rm).room s m av.toArray c D cl (va_A (jj_w ad cA G σ) s.heap.size) ad cA G nL 0 0 cc y.cls ys → meth.sig.returnType = ret → meth.locks = false →
      jj_J p l e (headSpec (Cond.code y cc nL ret :: ys) rm).room s m av.toArray below meth c D cl (va_A (jj_w ad cA G σ) s.heap.size) ad cA G nL 0 0 (jj_Qv below D cl (va_A (jj_w ad cA G σ) s.heap.size) ad cA G av.toArray s 0 0) o σ 0 (lv_args 0 av) []) :
    jj_Mv l y (Cond.code y cc nL ret :: ys) rm D cl ad cA G av σ z := by
  intro sz
  refine Met.ofW (cc := cc) (maxL := nL) (ret := ret) hn rfl ?_
  intro p e s m args below meth c s₁ B hml hv
  obtain ⟨rfl, hsz, hP, hK, hD0⟩ := hv
  subst hsz
  have hts := atoms_spec (ws := Cond.code y cc nL ret :: ys) B.pre
  have hD := hD0.self (sz := s.heap.size)
  rw [lg_entry_eq]
  exact body p e s m below meth c ⟨B.exec, B.bytes, hml, findClass_of_methodNamed B.named, fun w hw => hts w (List.mem_cons_of_mem _ hw), hK, fun _ => jj_D hD, fun q h => Or.inr h, Nat.zero_le _, Nat.zero_le _⟩ B.returns B.notSynchronized z ho s.heap [] _ hP va_S.rf (lv_entry av hal)
theorem jj_iret (C : jj_C p R s m args c D cl A ad cA G nL cs sl cc own Ts) {r : Int32} (hr : meth.sig.returnType = some .int) (hlocks : meth.locks = false)  (hd : decode cc pc = .ok (.ireturn, 1)) : jj_J p l e R s m args below meth c D cl A ad cA G nL cs sl (jj_Qi below D cl A ad cA G args s cs sl) (some (r, σ)) σ pc lv [.int r] := fun z hz H locs ls hP hS hl => W.iret C.1 C.2.1 hr (fun t ht _ => ⟨⟨r, σ, rfl, Option.some.inj hz, (show va_P D cl (jj_w ad cA G σ) t.heap from by rw [ht]; exact hP)⟩, hS.F ht⟩) hS.2.2 hd hlocks
theorem jj_zret (C : jj_C p R s m args c D cl A ad cA G nL cs sl cc own Ts) {r : Int32} (hr : meth.sig.returnType = some .boolean) (hlocks : meth.locks = false) (hnn : narrow .boolean (.int r) = .int r) (hd : decode cc pc = .ok (.ireturn, 1)) : jj_J p l e R s m args below meth c D cl A ad cA G nL cs sl (jj_Qi below D cl A ad cA G args s cs sl) (some (r, σ)) σ pc lv [.int r] := fun z hz H locs ls hP hS hl => W.zret C.1 C.2.1 hr hnn (fun t ht _ => ⟨⟨r, σ, rfl, Option.some.inj hz, (show va_P D cl (jj_w ad cA G σ) t.heap from by rw [ht]; exact hP)⟩, hS.F ht⟩) hS.2.2 hd hlocks
theorem jj_vret (C : jj_C p R s m args c D cl A ad cA G nL cs sl cc own Ts)  (hr : meth.sig.returnType = none) (hlocks : meth.locks = false)  (hd : decode cc pc = .ok (.return_, 1)) : jj_J p l e R s m args below meth c D cl A ad cA G nL cs sl (jj_Qv below D cl A ad cA G args s cs sl) (some σ) σ pc lv [] := fun z hz H locs ls hP hS hl => W.vret C.1 C.2.1 hr (fun t ht _ => ⟨⟨σ, rfl, Option.some.inj hz, (show va_P D cl (jj_w ad cA G σ) t.heap from by rw [ht]; exact hP)⟩, hS.F ht⟩) hS.2.2 hd hlocks
theorem jj_callVi (C : jj_C p R s m args c D cl A ad cA G nL cs sl cc own Ts) {y : MethodName} {bytes : ByteArray} {maxL n index : Nat} {ret : Option FieldType} {rm : Room} {ys : List Cond} {As : List Value} {kr ci : Nat} {fs : List (Option (Option Nat))} {T : u_T} {N : Nat} {f : Option (Int32 × jj_S)} {k : Int32 → jj_S → Option β} (hM : ∀ z, f = some z → jj_Mi l y (Cond.code y bytes maxL ret :: ys) rm D cl ad cA G (.ref (ad kr) :: As) σ z) (hcw : CallW R s args own y.cls index y bytes maxL ret (Cond.code y bytes maxL ret :: ys) rm 0 0 n) (hG : G[kr]? = some (.inl (ci, fs))) (hc : cl[ci]? = some (y.cls, T, N)) (hn : As.length = n) (hst : st = (As.reverse ++ .ref (ad kr) :: rest)) (hW : (rest.map fun v => v.category).sum ≤ 8) (hd : decode cc pc = .ok (.invokevirtual index, 3)) (kk : ∀ (r : Int32) (σ' : jj_S), f = some (r, σ') → jj_J p l e R s m args below meth c D cl A ad cA G nL cs sl Q (k r σ') σ' (pc + 3) lv (.int r :: rest)) : jj_J p l e R s m args below meth c D cl A ad cA G nL cs sl Q (jj_b2 f k) σ pc lv st := by
  intro z hz H locs ls hP hS hl
  subst hst
  obtain ⟨z1, hf, hz⟩ := Option.bind_eq_some_iff.mp hz
  have hF : ∀ q, va_A (jj_w ad cA G σ) H.size q → A q := fun q hq => by
    rcases hq with ⟨j, e1, hj⟩ | hq
    · exact (C.2.2.2.2.2.2.1 σ).2 j _ hj
    · exact C.2.2.2.2.2.2.2.1 q (Nat.le_trans hS.1 hq)
  refine va_calli (va_runV (As := As) (rest := rest) ⟨C.1, C.2.1, C.2.2.1, C.2.2.2.1, C.2.2.2.2.1⟩ (hM z1 hf H.size) hcw ⟨fun a U g mk q => by obtain ⟨q0, q1, qP, qK, qD⟩ := q; exact ⟨q0, q1, qP, va_K.moved (u := U) (U := U.calling g mk a) (Vm.Alike.refl U.vm) qK, qD⟩, va_recv C.2.2.2.2.2.1 hP hc (jj_w_get σ hG), fun U hU hW => ⟨rfl, by rw [hU], by rw [hU]; exact hP, va_K.moved hW.alike C.2.2.2.2.2.1, (C.2.2.2.2.2.2.1 σ).weaken (fun _ _ _ _ => trivial)⟩⟩ rfl hn hl.1 rfl (lv_room hW) hd ⟨C.2.2.2.2.2.2.2.2.1, C.2.2.2.2.2.2.2.2.2⟩) hS (fun q _ h => hF q h) hF ?_
  intro r u t H1 locs1 ht hvm hw hB hz1 hk1 hS1
  subst hw
  rw [ht] at hB
  exact kk r u hf z hz H1 locs1 ls hB hS1 hl
theorem jj_callSi (C : jj_C p R s m args c D cl A ad cA G nL cs sl cc own Ts) {y : MethodName} {bytes : ByteArray} {maxL n index : Nat} {ret : Option FieldType} {rm : Room} {ys : List Cond} {As : List Value}  {f : Option (Int32 × jj_S)} {k : Int32 → jj_S → Option β} (hM : ∀ z, f = some z → jj_Mi l y (Cond.code y bytes maxL ret :: ys) rm D cl ad cA G As σ z) (hcw : CallB R s args own index y bytes maxL ret (Cond.code y bytes maxL ret :: ys) rm 0 0 n ∧ (Cond.static y).before args s = true)  (hn : As.length = n) (hst : st = (As.reverse ++ rest)) (hW : (rest.map fun v => v.category).sum ≤ 8) (hd : decode cc pc = .ok (.invokestatic index, 3)) (kk : ∀ (r : Int32) (σ' : jj_S), f = some (r, σ') → jj_J p l e R s m args below meth c D cl A ad cA G nL cs sl Q (k r σ') σ' (pc + 3) lv (.int r :: rest)) : jj_J p l e R s m args below meth c D cl A ad cA G nL cs sl Q (jj_b2 f k) σ pc lv st := by
  intro z hz H locs ls hP hS hl
  subst hst
  obtain ⟨z1, hf, hz⟩ := Option.bind_eq_some_iff.mp hz
  have hF : ∀ q, va_A (jj_w ad cA G σ) H.size q → A q := fun q hq => by
    rcases hq with ⟨j, e1, hj⟩ | hq
    · exact (C.2.2.2.2.2.2.1 σ).2 j _ hj
    · exact C.2.2.2.2.2.2.2.1 q (Nat.le_trans hS.1 hq)
  refine va_calli (va_runS (As := As) (rest := rest) ⟨C.1, C.2.1, C.2.2.1, C.2.2.2.1, C.2.2.2.2.1⟩ (hM z1 hf H.size) hcw ⟨fun a U g mk q => by obtain ⟨q0, q1, qP, qK, qD⟩ := q; exact ⟨q0, q1, qP, va_K.moved (u := U) (U := U.calling g mk a) (Vm.Alike.refl U.vm) qK, qD⟩, fun U hU hW => ⟨rfl, by rw [hU], by rw [hU]; exact hP, va_K.moved hW.alike C.2.2.2.2.2.1, (C.2.2.2.2.2.2.1 σ).weaken (fun _ _ _ _ => trivial)⟩⟩ rfl hn hl.1 rfl (lv_room hW) hd ⟨C.2.2.2.2.2.2.2.2.1, C.2.2.2.2.2.2.2.2.2⟩) hS (fun q _ h => hF q h) hF ?_
  intro r u t H1 locs1 ht hvm hw hB hz1 hk1 hS1
  subst hw
  rw [ht] at hB
  exact kk r u hf z hz H1 locs1 ls hB hS1 hl
theorem jj_callVv (C : jj_C p R s m args c D cl A ad cA G nL cs sl cc own Ts) {y : MethodName} {bytes : ByteArray} {maxL n index : Nat} {ret : Option FieldType} {rm : Room} {ys : List Cond} {As : List Value} {kr ci : Nat} {fs : List (Option (Option Nat))} {T : u_T} {N : Nat} {f : Option (jj_S)} {k : jj_S → Option β} (hM : ∀ z, f = some z → jj_Mv l y (Cond.code y bytes maxL ret :: ys) rm D cl ad cA G (.ref (ad kr) :: As) σ z) (hcw : CallW R s args own y.cls index y bytes maxL ret (Cond.code y bytes maxL ret :: ys) rm 0 0 n) (hG : G[kr]? = some (.inl (ci, fs))) (hc : cl[ci]? = some (y.cls, T, N)) (hn : As.length = n) (hst : st = (As.reverse ++ .ref (ad kr) :: rest)) (hW : (rest.map fun v => v.category).sum ≤ 8) (hd : decode cc pc = .ok (.invokevirtual index, 3)) (kk : ∀ (σ' : jj_S), f = some σ' → jj_J p l e R s m args below meth c D cl A ad cA G nL cs sl Q (k σ') σ' (pc + 3) lv rest) : jj_J p l e R s m args below meth c D cl A ad cA G nL cs sl Q (jj_b1 f k) σ pc lv st := by
  intro z hz H locs ls hP hS hl
  subst hst
  obtain ⟨z1, hf, hz⟩ := Option.bind_eq_some_iff.mp hz
  have hF : ∀ q, va_A (jj_w ad cA G σ) H.size q → A q := fun q hq => by
    rcases hq with ⟨j, e1, hj⟩ | hq
    · exact (C.2.2.2.2.2.2.1 σ).2 j _ hj
    · exact C.2.2.2.2.2.2.2.1 q (Nat.le_trans hS.1 hq)
  refine va_callv (va_runV (As := As) (rest := rest) ⟨C.1, C.2.1, C.2.2.1, C.2.2.2.1, C.2.2.2.2.1⟩ (hM z1 hf H.size) hcw ⟨fun a U g mk q => by obtain ⟨q0, q1, qP, qK, qD⟩ := q; exact ⟨q0, q1, qP, va_K.moved (u := U) (U := U.calling g mk a) (Vm.Alike.refl U.vm) qK, qD⟩, va_recv C.2.2.2.2.2.1 hP hc (jj_w_get σ hG), fun U hU hW => ⟨rfl, by rw [hU], by rw [hU]; exact hP, va_K.moved hW.alike C.2.2.2.2.2.1, (C.2.2.2.2.2.2.1 σ).weaken (fun _ _ _ _ => trivial)⟩⟩ rfl hn hl.1 rfl (lv_room hW) hd ⟨C.2.2.2.2.2.2.2.2.1, C.2.2.2.2.2.2.2.2.2⟩) hS (fun q _ h => hF q h) hF ?_
  intro u t H1 locs1 ht hvm hw hB hz1 hk1 hS1
  subst hw
  rw [ht] at hB
  exact kk u hf z hz H1 locs1 ls hB hS1 hl
theorem jj_callSv (C : jj_C p R s m args c D cl A ad cA G nL cs sl cc own Ts) {y : MethodName} {bytes : ByteArray} {maxL n index : Nat} {ret : Option FieldType} {rm : Room} {ys : List Cond} {As : List Value}  {f : Option (jj_S)} {k : jj_S → Option β} (hM : ∀ z, f = some z → jj_Mv l y (Cond.code y bytes maxL ret :: ys) rm D cl ad cA G As σ z) (hcw : CallB R s args own index y bytes maxL ret (Cond.code y bytes maxL ret :: ys) rm 0 0 n ∧ (Cond.static y).before args s = true)  (hn : As.length = n) (hst : st = (As.reverse ++ rest)) (hW : (rest.map fun v => v.category).sum ≤ 8) (hd : decode cc pc = .ok (.invokestatic index, 3)) (kk : ∀ (σ' : jj_S), f = some σ' → jj_J p l e R s m args below meth c D cl A ad cA G nL cs sl Q (k σ') σ' (pc + 3) lv rest) : jj_J p l e R s m args below meth c D cl A ad cA G nL cs sl Q (jj_b1 f k) σ pc lv st := by
  intro z hz H locs ls hP hS hl
  subst hst
  obtain ⟨z1, hf, hz⟩ := Option.bind_eq_some_iff.mp hz
  have hF : ∀ q, va_A (jj_w ad cA G σ) H.size q → A q := fun q hq => by
    rcases hq with ⟨j, e1, hj⟩ | hq
    · exact (C.2.2.2.2.2.2.1 σ).2 j _ hj
    · exact C.2.2.2.2.2.2.2.1 q (Nat.le_trans hS.1 hq)
  refine va_callv (va_runS (As := As) (rest := rest) ⟨C.1, C.2.1, C.2.2.1, C.2.2.2.1, C.2.2.2.2.1⟩ (hM z1 hf H.size) hcw ⟨fun a U g mk q => by obtain ⟨q0, q1, qP, qK, qD⟩ := q; exact ⟨q0, q1, qP, va_K.moved (u := U) (U := U.calling g mk a) (Vm.Alike.refl U.vm) qK, qD⟩, fun U hU hW => ⟨rfl, by rw [hU], by rw [hU]; exact hP, va_K.moved hW.alike C.2.2.2.2.2.1, (C.2.2.2.2.2.2.1 σ).weaken (fun _ _ _ _ => trivial)⟩⟩ rfl hn hl.1 rfl (lv_room hW) hd ⟨C.2.2.2.2.2.2.2.2.1, C.2.2.2.2.2.2.2.2.2⟩) hS (fun q _ h => hF q h) hF ?_
  intro u t H1 locs1 ht hvm hw hB hz1 hk1 hS1
  subst hw
  rw [ht] at hB
  exact kk u hf z hz H1 locs1 ls hB hS1 hl
end JJ
def jj_lp0 {γ : Type} (b : (jj_S → Option γ) → jj_S → Option γ) : Nat → jj_S → Option γ
  | 0 => fun _ => none
  | k + 1 => b (jj_lp0 b k)
theorem jj_loop0 {γ : Type} {b : (jj_S → Option γ) → jj_S → Option γ} {T : Option γ → jj_S → Prop} (h0 : ∀ (σ : jj_S), T none σ ) (hs : ∀ rec : jj_S → Option γ, (∀ (σ : jj_S), T (rec σ ) σ ) → ∀ (σ : jj_S), T (b rec σ ) σ ) : ∀ (k : Nat) (σ : jj_S), T (jj_lp0 b k σ ) σ  := by
  intro k
  induction k with
  | zero => exact h0
  | succ k ih => exact hs _ ih
def jj_lp1 {γ : Type} (b : (jj_S → Int32 → Option γ) → jj_S → Int32 → Option γ) : Nat → jj_S → Int32 → Option γ
  | 0 => fun _ _ => none
  | k + 1 => b (jj_lp1 b k)
theorem jj_loop1 {γ : Type} {b : (jj_S → Int32 → Option γ) → jj_S → Int32 → Option γ} {T : Option γ → jj_S → Int32 → Prop} (h0 : ∀ (σ : jj_S) (x1 : Int32), T none σ x1) (hs : ∀ rec : jj_S → Int32 → Option γ, (∀ (σ : jj_S) (x1 : Int32), T (rec σ x1) σ x1) → ∀ (σ : jj_S) (x1 : Int32), T (b rec σ x1) σ x1) : ∀ (k : Nat) (σ : jj_S) (x1 : Int32), T (jj_lp1 b k σ x1) σ x1 := by
  intro k
  induction k with
  | zero => exact h0
  | succ k ih => exact hs _ ih
def jj_lp2 {γ : Type} (b : (jj_S → Int32 → Int32 → Option γ) → jj_S → Int32 → Int32 → Option γ) : Nat → jj_S → Int32 → Int32 → Option γ
  | 0 => fun _ _ _ => none
  | k + 1 => b (jj_lp2 b k)
theorem jj_loop2 {γ : Type} {b : (jj_S → Int32 → Int32 → Option γ) → jj_S → Int32 → Int32 → Option γ} {T : Option γ → jj_S → Int32 → Int32 → Prop} (h0 : ∀ (σ : jj_S) (x1 x2 : Int32), T none σ x1 x2) (hs : ∀ rec : jj_S → Int32 → Int32 → Option γ, (∀ (σ : jj_S) (x1 x2 : Int32), T (rec σ x1 x2) σ x1 x2) → ∀ (σ : jj_S) (x1 x2 : Int32), T (b rec σ x1 x2) σ x1 x2) : ∀ (k : Nat) (σ : jj_S) (x1 x2 : Int32), T (jj_lp2 b k σ x1 x2) σ x1 x2 := by
  intro k
  induction k with
  | zero => exact h0
  | succ k ih => exact hs _ ih
def jj_lp3 {γ : Type} (b : (jj_S → Int32 → Int32 → Int32 → Option γ) → jj_S → Int32 → Int32 → Int32 → Option γ) : Nat → jj_S → Int32 → Int32 → Int32 → Option γ
  | 0 => fun _ _ _ _ => none
  | k + 1 => b (jj_lp3 b k)
theorem jj_loop3 {γ : Type} {b : (jj_S → Int32 → Int32 → Int32 → Option γ) → jj_S → Int32 → Int32 → Int32 → Option γ} {T : Option γ → jj_S → Int32 → Int32 → Int32 → Prop} (h0 : ∀ (σ : jj_S) (x1 x2 x3 : Int32), T none σ x1 x2 x3) (hs : ∀ rec : jj_S → Int32 → Int32 → Int32 → Option γ, (∀ (σ : jj_S) (x1 x2 x3 : Int32), T (rec σ x1 x2 x3) σ x1 x2 x3) → ∀ (σ : jj_S) (x1 x2 x3 : Int32), T (b rec σ x1 x2 x3) σ x1 x2 x3) : ∀ (k : Nat) (σ : jj_S) (x1 x2 x3 : Int32), T (jj_lp3 b k σ x1 x2 x3) σ x1 x2 x3 := by
  intro k
  induction k with
  | zero => exact h0
  | succ k ih => exact hs _ ih
def jj_lp4 {γ : Type} (b : (jj_S → Int32 → Int32 → Int32 → Int32 → Option γ) → jj_S → Int32 → Int32 → Int32 → Int32 → Option γ) : Nat → jj_S → Int32 → Int32 → Int32 → Int32 → Option γ
  | 0 => fun _ _ _ _ _ => none
  | k + 1 => b (jj_lp4 b k)
theorem jj_loop4 {γ : Type} {b : (jj_S → Int32 → Int32 → Int32 → Int32 → Option γ) → jj_S → Int32 → Int32 → Int32 → Int32 → Option γ} {T : Option γ → jj_S → Int32 → Int32 → Int32 → Int32 → Prop} (h0 : ∀ (σ : jj_S) (x1 x2 x3 x4 : Int32), T none σ x1 x2 x3 x4) (hs : ∀ rec : jj_S → Int32 → Int32 → Int32 → Int32 → Option γ, (∀ (σ : jj_S) (x1 x2 x3 x4 : Int32), T (rec σ x1 x2 x3 x4) σ x1 x2 x3 x4) → ∀ (σ : jj_S) (x1 x2 x3 x4 : Int32), T (b rec σ x1 x2 x3 x4) σ x1 x2 x3 x4) : ∀ (k : Nat) (σ : jj_S) (x1 x2 x3 x4 : Int32), T (jj_lp4 b k σ x1 x2 x3 x4) σ x1 x2 x3 x4 := by
  intro k
  induction k with
  | zero => exact h0
  | succ k ih => exact hs _ ih
def jj_lp5 {γ : Type} (b : (jj_S → Int32 → Int32 → Int32 → Int32 → Int32 → Option γ) → jj_S → Int32 → Int32 → Int32 → Int32 → Int32 → Option γ) : Nat → jj_S → Int32 → Int32 → Int32 → Int32 → Int32 → Option γ
  | 0 => fun _ _ _ _ _ _ => none
  | k + 1 => b (jj_lp5 b k)
theorem jj_loop5 {γ : Type} {b : (jj_S → Int32 → Int32 → Int32 → Int32 → Int32 → Option γ) → jj_S → Int32 → Int32 → Int32 → Int32 → Int32 → Option γ} {T : Option γ → jj_S → Int32 → Int32 → Int32 → Int32 → Int32 → Prop} (h0 : ∀ (σ : jj_S) (x1 x2 x3 x4 x5 : Int32), T none σ x1 x2 x3 x4 x5) (hs : ∀ rec : jj_S → Int32 → Int32 → Int32 → Int32 → Int32 → Option γ, (∀ (σ : jj_S) (x1 x2 x3 x4 x5 : Int32), T (rec σ x1 x2 x3 x4 x5) σ x1 x2 x3 x4 x5) → ∀ (σ : jj_S) (x1 x2 x3 x4 x5 : Int32), T (b rec σ x1 x2 x3 x4 x5) σ x1 x2 x3 x4 x5) : ∀ (k : Nat) (σ : jj_S) (x1 x2 x3 x4 x5 : Int32), T (jj_lp5 b k σ x1 x2 x3 x4 x5) σ x1 x2 x3 x4 x5 := by
  intro k
  induction k with
  | zero => exact h0
  | succ k ih => exact hs _ ih
def jj_lp6 {γ : Type} (b : (jj_S → Int32 → Int32 → Int32 → Int32 → Int32 → Int32 → Option γ) → jj_S → Int32 → Int32 → Int32 → Int32 → Int32 → Int32 → Option γ) : Nat → jj_S → Int32 → Int32 → Int32 → Int32 → Int32 → Int32 → Option γ
  | 0 => fun _ _ _ _ _ _ _ => none
  | k + 1 => b (jj_lp6 b k)
theorem jj_loop6 {γ : Type} {b : (jj_S → Int32 → Int32 → Int32 → Int32 → Int32 → Int32 → Option γ) → jj_S → Int32 → Int32 → Int32 → Int32 → Int32 → Int32 → Option γ} {T : Option γ → jj_S → Int32 → Int32 → Int32 → Int32 → Int32 → Int32 → Prop} (h0 : ∀ (σ : jj_S) (x1 x2 x3 x4 x5 x6 : Int32), T none σ x1 x2 x3 x4 x5 x6) (hs : ∀ rec : jj_S → Int32 → Int32 → Int32 → Int32 → Int32 → Int32 → Option γ, (∀ (σ : jj_S) (x1 x2 x3 x4 x5 x6 : Int32), T (rec σ x1 x2 x3 x4 x5 x6) σ x1 x2 x3 x4 x5 x6) → ∀ (σ : jj_S) (x1 x2 x3 x4 x5 x6 : Int32), T (b rec σ x1 x2 x3 x4 x5 x6) σ x1 x2 x3 x4 x5 x6) : ∀ (k : Nat) (σ : jj_S) (x1 x2 x3 x4 x5 x6 : Int32), T (jj_lp6 b k σ x1 x2 x3 x4 x5 x6) σ x1 x2 x3 x4 x5 x6 := by
  intro k
  induction k with
  | zero => exact h0
  | succ k ih => exact hs _ ih
def jj_lp7 {γ : Type} (b : (jj_S → Int32 → Int32 → Int32 → Int32 → Int32 → Int32 → Int32 → Option γ) → jj_S → Int32 → Int32 → Int32 → Int32 → Int32 → Int32 → Int32 → Option γ) : Nat → jj_S → Int32 → Int32 → Int32 → Int32 → Int32 → Int32 → Int32 → Option γ
  | 0 => fun _ _ _ _ _ _ _ _ => none
  | k + 1 => b (jj_lp7 b k)
theorem jj_loop7 {γ : Type} {b : (jj_S → Int32 → Int32 → Int32 → Int32 → Int32 → Int32 → Int32 → Option γ) → jj_S → Int32 → Int32 → Int32 → Int32 → Int32 → Int32 → Int32 → Option γ} {T : Option γ → jj_S → Int32 → Int32 → Int32 → Int32 → Int32 → Int32 → Int32 → Prop} (h0 : ∀ (σ : jj_S) (x1 x2 x3 x4 x5 x6 x7 : Int32), T none σ x1 x2 x3 x4 x5 x6 x7) (hs : ∀ rec : jj_S → Int32 → Int32 → Int32 → Int32 → Int32 → Int32 → Int32 → Option γ, (∀ (σ : jj_S) (x1 x2 x3 x4 x5 x6 x7 : Int32), T (rec σ x1 x2 x3 x4 x5 x6 x7) σ x1 x2 x3 x4 x5 x6 x7) → ∀ (σ : jj_S) (x1 x2 x3 x4 x5 x6 x7 : Int32), T (b rec σ x1 x2 x3 x4 x5 x6 x7) σ x1 x2 x3 x4 x5 x6 x7) : ∀ (k : Nat) (σ : jj_S) (x1 x2 x3 x4 x5 x6 x7 : Int32), T (jj_lp7 b k σ x1 x2 x3 x4 x5 x6 x7) σ x1 x2 x3 x4 x5 x6 x7 := by
  intro k
  induction k with
  | zero => exact h0
  | succ k ih => exact hs _ ih
