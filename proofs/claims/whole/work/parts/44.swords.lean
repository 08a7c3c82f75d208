set_option maxRecDepth 100000 in
theorem q_Law_9 {R : Room} {s : State} {args : Array Value} (hts : ∀ w ∈ jw_t, w.before args s = true) {rm : Room} (h1 : rm.cells = 0) (h2 : rm.slots = 0) (hR : rm.frames + 1 ≤ R.frames ∧ 8 + (2 + 11) + rm.locals ≤ R.locals) : CallB R s args RL 9 yL_cell cL_cell 2 (some .int) (Cond.code yL_cell cL_cell 2 (some .int) :: jw_t) rm 0 0 2 ∧ (Cond.static yL_cell).before args s = true := va_cwS 2 hts (jj_gS jj_gT (jj_in (List.mem_of_getElem? (i := 552) rfl) rfl) (jj_in (List.mem_of_getElem? (i := 553) rfl) rfl) (jj_in (List.mem_of_getElem? (i := 33) rfl) rfl) (jj_in (List.mem_of_getElem? (i := 554) rfl) rfl)) rfl h1 h2 (by decide +kernel) hR
set_option maxRecDepth 100000 in
theorem cl_Law_7 : Cond.classLink RL 7 RX7 ∈ jw_t := jj_in (List.mem_of_getElem? (i := 44) rfl) rfl
set_option maxRecDepth 100000 in
theorem it_Mesh : Cond.instantiable RX7 6 ∈ jw_t := jj_in (List.mem_of_getElem? (i := 45) rfl) rfl
set_option maxRecDepth 100000 in
theorem iz_Mesh : Cond.initialized RX7 ∈ jw_t := jj_in (List.mem_of_getElem? (i := 34) rfl) rfl
set_option maxRecDepth 100000 in
theorem cl_Law_18 : Cond.classLink RL 18 RX8 ∈ jw_t := jj_in (List.mem_of_getElem? (i := 555) rfl) rfl
set_option maxRecDepth 100000 in
theorem it_Ref : Cond.instantiable RX8 37 ∈ jw_t := jj_in (List.mem_of_getElem? (i := 556) rfl) rfl
set_option maxRecDepth 100000 in
theorem iz_Ref : Cond.initialized RX8 ∈ jw_t := jj_in (List.mem_of_getElem? (i := 43) rfl) rfl
set_option maxRecDepth 100000 in
theorem qi_Law_15 {R : Room} {s : State} {args : Array Value} (hts : ∀ w ∈ jw_t, w.before args s = true) {rm : Room} {mc ms : Nat} (h1 : rm.cells = mc) (h2 : rm.slots = ms) (hR : rm.frames + 1 ≤ R.frames ∧ 8 + (5 + 11) + rm.locals ≤ R.locals) : CallB R s args RL 15 yX7_init cX7_init 5 none (Cond.code yX7_init cX7_init 5 none :: jw_t) rm mc ms 4 ∧ yX7_init.name = "<init>" ∧ (Cond.instanceMethod yX7_init).before args s = true := cwI 4 hts (jj_gC jj_gT (jj_in (List.mem_of_getElem? (i := 48) rfl) rfl)) rfl h1 h2 (hts _ (jj_in (List.mem_of_getElem? (i := 34) rfl) rfl)) (hts _ (jj_in (List.mem_of_getElem? (i := 46) rfl) rfl)) (hts _ (jj_in (List.mem_of_getElem? (i := 47) rfl) rfl)) rfl (by decide +kernel) hR
set_option maxRecDepth 100000 in
theorem qi_Law_20 {R : Room} {s : State} {args : Array Value} (hts : ∀ w ∈ jw_t, w.before args s = true) {rm : Room} {mc ms : Nat} (h1 : rm.cells = mc) (h2 : rm.slots = ms) (hR : rm.frames + 1 ≤ R.frames ∧ 8 + (6 + 11) + rm.locals ≤ R.locals) : CallB R s args RL 20 yX8_init cX8_init 6 none (Cond.code yX8_init cX8_init 6 none :: jw_t) rm mc ms 4 ∧ yX8_init.name = "<init>" ∧ (Cond.instanceMethod yX8_init).before args s = true := cwI 4 hts (jj_gC jj_gT (jj_in (List.mem_of_getElem? (i := 559) rfl) rfl)) rfl h1 h2 (hts _ (jj_in (List.mem_of_getElem? (i := 43) rfl) rfl)) (hts _ (jj_in (List.mem_of_getElem? (i := 557) rfl) rfl)) (hts _ (jj_in (List.mem_of_getElem? (i := 558) rfl) rfl)) rfl (by decide +kernel) hR
set_option maxRecDepth 100000 in
theorem jj_nx_in : jj_nx ∈ lw_tbl := List.mem_of_getElem? (i := 207) rfl
/-! THE LAW'S BEGINNING: what is left is a pure statement of the two systems' computations. -/
def lc_v (L : Nat) (xs : Nat → Int32) (k : Int32) : Int32 := if nI L ≤ k then 0 else xs k.toNatClampNeg
theorem jl_arr {args : Array Value} {s : State} {ty : FieldType} (hty : ty = .int ∨ ty = .boolean) (h : (Cond.arrayClass ty).before args s = true) : ∃ cX : ClassId, ArrOfT s cX ty ∧ va_RA s cX ty := by
  obtain ⟨cX, k, comp, h1, h2, h3⟩ := Cond.arrayClass_spec h
  refine ⟨cX, fun n z => ⟨fun k h => (by cases h), k, h2, comp, h3⟩, ?_⟩
  rcases hty with rfl | rfl <;> exact h1
theorem jl_vp {L : Nat} {k : Int32} (hL : L < 2 ^ 31) (h0 : ¬ k < 0) (h1 : ¬ nI L ≤ k) : vp_in k L := by
  rw [vp_in_iff]
  rw [Int32.lt_iff_toInt_lt, Int32.toInt_zero] at h0
  rw [Int32.le_iff_toInt_le, nI_toInt hL] at h1
  omega
set_option maxHeartbeats 4000000 in
set_option maxRecDepth 100000 in
theorem c_cell {l : Launch} {b L : Nat} {k : Int32} {xs : Nat → Int32} (hL : L < 2 ^ 31) (h0 : ¬ k < 0) : Met l yL_cell (Cond.code yL_cell cL_cell 2 (some .int) :: jw_t) { frames := 0, cells := 0, slots := 0, locals := 0 } (va_Pc [.ref b, .int k] (fun U => va_X b L xs U U.heap ∧ b < U.heap.size)) (va_Qi (fun r (_ : Unit) => r = lc_v L xs k) (fun _ _ => True) (fun _ => False)) 0 0 (fun _ => False) := by
  refine Met.ofW (cc := cL_cell) (maxL := 2) (ret := (some .int)) (by decide) rfl ?_
  intro p e s m args below meth c s₁ B hml hv
  obtain ⟨rfl, hX, hbl⟩ := hv
  have hx := B.exec
  have hb := B.bytes
  have hr := B.returns
  have hlocks := B.notSynchronized
  have hbA : ¬ (fun _ : Nat => False) b := fun h => h
  have hS : va_S (fun _ => False) s.heap s.heap [] := va_S.rf
  have hl := lv_entry ([.ref b, .int k]) (n := 2) (Nat.le_of_ble_eq_true rfl)
  rw [lg_entry_eq]
  generalize (lg_sl ([.ref b, .int k]) ++ List.replicate (2 - (lg_sl ([.ref b, .int k])).length) Slot.unset).toArray = ls at hl ⊢
  have hl : lv_has ls 2 [(0, .ref b), (1, .int k)] := hl
  refine lv_iload_n hx hb dL_cell_0 rfl (lv_at hl 1 rfl) ?_
  refine lv_aload_n hx hb dL_cell_1 rfl (lv_at hl 0 rfl) ?_
  refine va_slen hx hb hX hbl hbA hS dL_cell_2 ?_
  refine lv_icmp_ge (tgt := 12) hx hb dL_cell_3 (by decide) (fun c1 => ?_) (fun c1 => ?_)
  · refine lv_iconst (v := 0) hx hb dL_cell_12 (by decide) ?_
    exact W.iret (v := 0) hx hb hr (fun t ht hW => ⟨⟨0, (), rfl, (by show (0 : Int32) = lc_v L xs k; rw [lc_v, if_pos (show nI L ≤ k from c1)]), trivial⟩, hS.F ht⟩) hS.2.2 dL_cell_13
  · refine lv_aload_n hx hb dL_cell_6 rfl (lv_at hl 0 rfl) ?_
    refine lv_iload_n hx hb dL_cell_7 rfl (lv_at hl 1 rfl) ?_
    refine va_sld hx hb hX hbl hbA hS (jl_vp hL h0 c1) dL_cell_8 ?_
    refine lv_goto (tgt := 13) hx hb dL_cell_9 (by decide) ?_
    exact W.iret (v := xs k.toNatClampNeg) hx hb hr (fun t ht hW => ⟨⟨xs k.toNatClampNeg, (), rfl, (by show xs k.toNatClampNeg = lc_v L xs k; rw [lc_v, if_neg (show ¬ nI L ≤ k from c1)]), trivial⟩, hS.F ht⟩) hS.2.2 dL_cell_13
theorem jl_spl {D : va_G} {cl : List vw_C} {w1 w2 : va_W} {H : Heap} (h : va_P D cl (w1 ++ w2) H) : va_P D cl w1 H ∧ va_P D cl w2 H := by
  refine ⟨fun k q hk => h k q ?_, fun k q hk => h (w1.length + k) q ?_⟩
  · rw [List.getElem?_append_left (List.getElem?_eq_some_iff.mp hk).1]; exact hk
  · rw [List.getElem?_append_right (by omega)]
    rw [show w1.length + k - w1.length = k by omega]; exact hk
section JS
variable {p : Program} {l : Launch} {e : Env} {s : State} {m : MethodId} {below : List Frame} {meth : Method} {c : Code} {H : Heap} {locs : List Loc} {cells slots : Nat} {Q : State → Prop} {D : va_G} {cl : List vw_C} {A : Nat → Prop}
set_option maxHeartbeats 4000000 in
set_option maxRecDepth 100000 in
theorem jl_cell {b L pc : Nat} {xs : Nat → Int32} {k : Int32} {ls : Array Slot} {rest : List Value} {lv : List (Nat × Value)} (hx : p.tables.exec = Jvm.exec) (hb : c.code = code) (hml : c.maxLocals = 4) (hown : s.vm.findClass RL = some m.cls) (hts : ∀ w ∈ jw_t, w.before #[Value.ref b] s = true) (hL : L < 2 ^ 31) (h0 : ¬ k < 0) (hX : va_X b L xs s s.heap) (hbl : b < s.heap.size) (hbA : ¬ A b) (hl : lv_has ls 4 lv) {ws : va_W} (hP : va_P D cl ws H) (hS : va_S A s.heap H locs) (hR : cells ≤ 600000 ∧ slots ≤ 7302250) (hW : (rest.map fun v => v.category).sum ≤ 8) (hd : decode code pc = .ok (.invokestatic 9, 3))
    (kk : ∀ (H1 : Heap) (locs1 : List Loc), va_P D cl ws H1 → va_S A s.heap H1 locs1 → H.size ≤ H1.size → W p l e room_1 s m #[Value.ref b] below meth c H1 locs1 cells slots Q (F0 m (pc + 3) ls (.int (lc_v L xs k) :: rest))) : W p l e room_1 s m #[Value.ref b] below meth c H locs cells slots Q (F0 m pc ls (.int k :: .ref b :: rest)) := by
  refine va_calli (A1 := fun _ => False) (va_runS (As := [.ref b, .int k]) (rest := rest) ⟨hx, hb, hml, hown, hts⟩ (c_cell (xs := xs) (b := b) hL h0) (q_Law_9 hts (rm := { frames := 0, cells := 0, slots := 0, locals := 0 }) rfl rfl ⟨Nat.le_of_ble_eq_true rfl, Nat.le_of_ble_eq_true rfl⟩) ⟨fun a U g mk q => ⟨q.1, va_X.moved (u := U) (U := U.calling g mk a) (Vm.Alike.refl U.vm) q.2.1, q.2.2⟩, fun U hU hW => ⟨rfl, by rw [hU]; exact va_X.moved hW.alike (hX.kept (hS.2.1 b hbl hbA)), by rw [hU]; exact Nat.lt_of_lt_of_le hbl hS.1⟩⟩ rfl rfl hl.1 rfl (lv_room hW) hd ⟨hR.1, hR.2⟩) hS (fun q _ h => absurd h id) (fun q h => absurd h id) ?_
  intro r u t H1 locs1 ht hvm hw hB hz1 hk1 hS1
  subst hw
  exact kk H1 locs1 (hP.kept (fun k q hk => hk1 q.1 (va_at.lt (hP k q hk)) id)) hS1 hz1
end JS
