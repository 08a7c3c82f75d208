set_option maxHeartbeats 4000000 in
set_option maxRecDepth 100000 in
theorem l_Routers_grantAll_15 {p : Program} {l : Launch} {e : Env} {R : Room} {s : State} {m : MethodId} {args : Array Value} {below : List Frame} {meth : Method} {c : Code} {D : va_G} {A : Nat → Prop} {ad : Nat → Nat} {cA : FieldType → ClassId} {n S SD F : Nat} (C : jj_C p R s m args c D vwCl A ad cA (gc n S SD) 5 0 0 cX6_grantAll RX6 jw_t) (hr : meth.sig.returnType = none) (hlocks : meth.locks = false) (hRm : 2 ≤ R.frames ∧ 80 ≤ R.locals) {K : jj_S → Int32 → Int32 → Option jj_S} (hK : ∀ (σ : jj_S) (x1 x2 : Int32), jj_J p l e R s m args below meth c D vwCl A ad cA (gc n S SD) 5 0 0 (jj_Qv below D vwCl A ad cA (gc n S SD) args s 0 0) (K σ x1 x2) σ 81 [(0, .ref (ad 30)), (1, .int x1), (2, .int x2)] []) : ∀ (k : Nat) (σ : jj_S) (x1 x2 : Int32), jj_J p l e R s m args below meth c D vwCl A ad cA (gc n S SD) 5 0 0 (jj_Qv below D vwCl A ad cA (gc n S SD) args s 0 0) (jj_lp2 (b_Routers_grantAll_15 n S SD F K) k σ x1 x2) σ 15 [(0, .ref (ad 30)), (1, .int x1), (2, .int x2)] [] := by
  refine jj_loop2 (T := fun o σ x1 x2 => jj_J p l e R s m args below meth c D vwCl A ad cA (gc n S SD) 5 0 0 (jj_Qv below D vwCl A ad cA (gc n S SD) args s 0 0) o σ 15 [(0, .ref (ad 30)), (1, .int x1), (2, .int x2)] []) (fun _ _ _ _ h => by cases h) ?_
  intro rec ih σ x1 x2
  unfold b_Routers_grantAll_15
  refine jj_iload_n C 2 dX6_grantAll_15 rfl rfl ?_
  refine jj_iconst C (v := (5 : Int32)) dX6_grantAll_16 (by decide) ?_
  refine jj_icmp_ge C (tgt := 81) dX6_grantAll_17 (by decide) (fun _ => ?_) (fun _ => ?_)
  · refine jj_sub [0, 1, 2] rfl ?_
    exact hK σ x1 x2
  · refine jj_iconst C (v := (0 : Int32)) dX6_grantAll_20 (by decide) ?_
    refine jj_istore_n C [(3, .int (0 : Int32)), (0, .ref (ad 30)), (1, .int x1), (2, .int x2)] dX6_grantAll_21 rfl (by decide) rfl ?_
    refine jj_sub [1, 2, 3, 0] rfl ?_
    refine l_Routers_grantAll_22 C hr hlocks hRm (fun σ4 x1_5 x2_6 x3_7 => ?_) F σ x1 x2 (0 : Int32)
    refine jj_iinc C (v := x2_6 + (1 : Int32)) [(2, .int (x2_6 + (1 : Int32))), (0, .ref (ad 30)), (1, .int x1_5), (3, .int x3_7)] 2 dX6_grantAll_75 rfl rfl (by decide) rfl ?_
    refine jj_goto C (tgt := 15) dX6_grantAll_78 (by decide) ?_
    refine jj_sub [1, 2, 0] rfl ?_
    exact ih σ4 x1_5 (x2_6 + (1 : Int32))

set_option maxHeartbeats 4000000 in
set_option maxRecDepth 100000 in
theorem l_Routers_grantAll_2 {p : Program} {l : Launch} {e : Env} {R : Room} {s : State} {m : MethodId} {args : Array Value} {below : List Frame} {meth : Method} {c : Code} {D : va_G} {A : Nat → Prop} {ad : Nat → Nat} {cA : FieldType → ClassId} {n S SD F : Nat} (C : jj_C p R s m args c D vwCl A ad cA (gc n S SD) 5 0 0 cX6_grantAll RX6 jw_t) (hr : meth.sig.returnType = none) (hlocks : meth.locks = false) (hRm : 2 ≤ R.frames ∧ 80 ≤ R.locals) {K : jj_S → Int32 → Option jj_S} (hK : ∀ (σ : jj_S) (x1 : Int32), jj_J p l e R s m args below meth c D vwCl A ad cA (gc n S SD) 5 0 0 (jj_Qv below D vwCl A ad cA (gc n S SD) args s 0 0) (K σ x1) σ 87 [(0, .ref (ad 30)), (1, .int x1)] []) : ∀ (k : Nat) (σ : jj_S) (x1 : Int32), jj_J p l e R s m args below meth c D vwCl A ad cA (gc n S SD) 5 0 0 (jj_Qv below D vwCl A ad cA (gc n S SD) args s 0 0) (jj_lp1 (b_Routers_grantAll_2 n S SD F K) k σ x1) σ 2 [(0, .ref (ad 30)), (1, .int x1)] [] := by
  refine jj_loop1 (T := fun o σ x1 => jj_J p l e R s m args below meth c D vwCl A ad cA (gc n S SD) 5 0 0 (jj_Qv below D vwCl A ad cA (gc n S SD) args s 0 0) o σ 2 [(0, .ref (ad 30)), (1, .int x1)] []) (fun _ _ _ h => by cases h) ?_
  intro rec ih σ x1
  unfold b_Routers_grantAll_2
  refine jj_iload_n C 1 dX6_grantAll_2 rfl rfl ?_
  refine jj_aload_n C 0 dX6_grantAll_3 rfl rfl ?_
  refine jj_getr C 30 0 in_Routers (g_30 n S SD) k_Routers (by decide) fl_Routers_15 rfl dX6_grantAll_4 ?_
  refine jj_geti C 1 5 in_Grid (g_1 n S SD) k_Grid (by decide) fl_Routers_46 rfl dX6_grantAll_7 ?_
  refine jj_icmp_ge C (tgt := 87) dX6_grantAll_10 (by decide) (fun _ => ?_) (fun _ => ?_)
  · refine jj_sub [0, 1] rfl ?_
    exact hK σ x1
  · refine jj_iconst C (v := (0 : Int32)) dX6_grantAll_13 (by decide) ?_
    refine jj_istore_n C [(2, .int (0 : Int32)), (0, .ref (ad 30)), (1, .int x1)] dX6_grantAll_14 rfl (by decide) rfl ?_
    refine jj_sub [1, 2, 0] rfl ?_
    refine l_Routers_grantAll_15 C hr hlocks hRm (fun σ8 x1_9 x2_10 => ?_) F σ x1 (0 : Int32)
    refine jj_iinc C (v := x1_9 + (1 : Int32)) [(1, .int (x1_9 + (1 : Int32))), (0, .ref (ad 30)), (2, .int x2_10)] 1 dX6_grantAll_81 rfl rfl (by decide) rfl ?_
    refine jj_goto C (tgt := 2) dX6_grantAll_84 (by decide) ?_
    refine jj_sub [1, 0] rfl ?_
    exact ih σ8 (x1_9 + (1 : Int32))

set_option maxHeartbeats 4000000 in
set_option maxRecDepth 100000 in
theorem c_Routers_grantAll {l : Launch} {D : va_G} {ad : Nat → Nat} {cA : FieldType → ClassId} {n S SD F : Nat} {σ : jj_S} {z : jj_S} (ho : f_Routers_grantAll n S SD F σ = some z) : jj_Mv l yX6_grantAll (Cond.code yX6_grantAll cX6_grantAll 5 none :: jw_t) { frames := 2, cells := 0, slots := 0, locals := 80 } D vwCl ad cA (gc n S SD) [.ref (ad 30)] σ z := by
  refine jj_ofv (cc := cX6_grantAll) (nL := 5) (ret := none) rfl ho (Nat.le_of_ble_eq_true rfl) ?_
  intro p e s m below meth c C hr hlocks
  generalize hA : va_A (jj_w ad cA (gc n S SD) σ) s.heap.size = A at C ⊢
  have hRm : 2 ≤ (headSpec (Cond.code yX6_grantAll cX6_grantAll 5 none :: jw_t) { frames := 2, cells := 0, slots := 0, locals := 80 }).room.frames ∧ 80 ≤ (headSpec (Cond.code yX6_grantAll cX6_grantAll 5 none :: jw_t) { frames := 2, cells := 0, slots := 0, locals := 80 }).room.locals := ⟨Nat.le_refl _, Nat.le_refl _⟩
  generalize (headSpec (Cond.code yX6_grantAll cX6_grantAll 5 none :: jw_t) { frames := 2, cells := 0, slots := 0, locals := 80 }).room = R at C hRm ⊢
  generalize List.toArray ([.ref (ad 30)] : List Value) = args at C ⊢
  refine jj_sub (lv' := [(0, .ref (ad 30))]) [0] rfl ?_
  unfold f_Routers_grantAll
  refine jj_iconst C (v := (0 : Int32)) dX6_grantAll_0 (by decide) ?_
  refine jj_istore_n C [(1, .int (0 : Int32)), (0, .ref (ad 30))] dX6_grantAll_1 rfl (by decide) rfl ?_
  refine jj_sub [1, 0] rfl ?_
  refine l_Routers_grantAll_2 C hr hlocks hRm (fun σ11 x1_12 => ?_) F σ (0 : Int32)
  exact jj_vret C hr hlocks dX6_grantAll_87

set_option maxHeartbeats 4000000 in
set_option maxRecDepth 100000 in
theorem c_Packets_goal {l : Launch} {D : va_G} {ad : Nat → Nat} {cA : FieldType → ClassId} {n S SD F : Nat} {σ : jj_S} {a1 : Int32} {z : (Int32 × jj_S)} (ho : f_Packets_goal n S SD F σ a1 = some z) : jj_Mi l yX4_goal (Cond.code yX4_goal cX4_goal 2 (some .int) :: jw_t) { frames := 1, cells := 0, slots := 0, locals := 40 } D vwCl ad cA (gc n S SD) [.ref (ad 10), .int a1] σ z := by
  refine jj_ofi (cc := cX4_goal) (nL := 2) (ret := (some .int)) rfl ho (Nat.le_of_ble_eq_true rfl) ?_
  intro p e s m below meth c C hr hlocks
  generalize hA : va_A (jj_w ad cA (gc n S SD) σ) s.heap.size = A at C ⊢
  have hRm : 1 ≤ (headSpec (Cond.code yX4_goal cX4_goal 2 (some .int) :: jw_t) { frames := 1, cells := 0, slots := 0, locals := 40 }).room.frames ∧ 40 ≤ (headSpec (Cond.code yX4_goal cX4_goal 2 (some .int) :: jw_t) { frames := 1, cells := 0, slots := 0, locals := 40 }).room.locals := ⟨Nat.le_refl _, Nat.le_refl _⟩
  generalize (headSpec (Cond.code yX4_goal cX4_goal 2 (some .int) :: jw_t) { frames := 1, cells := 0, slots := 0, locals := 40 }).room = R at C hRm ⊢
  generalize List.toArray ([.ref (ad 10), .int a1] : List Value) = args at C ⊢
  refine jj_sub (lv' := [(0, .ref (ad 10)), (1, .int a1)]) [0, 1] rfl ?_
  unfold f_Packets_goal
  refine jj_iload_n C 1 dX4_goal_0 rfl rfl ?_
  refine jj_callSi C (As := [.int a1]) (rest := []) (fun z hz => c_Packets_isOfReply hz) (q_Packets_36 C.2.2.2.2.1 (rm := { frames := 0, cells := 0, slots := 0, locals := 0 }) rfl rfl ⟨Nat.le_trans (by decide) hRm.1, Nat.le_trans (by decide) hRm.2⟩) rfl rfl (Nat.le_of_ble_eq_true rfl) dX4_goal_1 (fun r2 σ1 _ => ?_)
  refine jj_if_eq C (tgt := 19) dX4_goal_4 (by decide) (fun _ => ?_) (fun _ => ?_)
  · refine jj_aload_n C 0 dX4_goal_19 rfl rfl ?_
    refine jj_getr C 10 2 in_Packets (g_10 n S SD) k_Packets (by decide) fl_Packets_15 rfl dX4_goal_20 ?_
    refine jj_iload_n C 1 dX4_goal_23 rfl rfl ?_
    refine jj_callSi C (As := [.int a1]) (rest := [.ref (ad 12)]) (fun z hz => c_Packets_number hz) (q_Packets_40 C.2.2.2.2.1 (rm := { frames := 0, cells := 0, slots := 0, locals := 0 }) rfl rfl ⟨Nat.le_trans (by decide) hRm.1, Nat.le_trans (by decide) hRm.2⟩) rfl rfl (Nat.le_of_ble_eq_true rfl) dX4_goal_24 (fun r4 σ3 _ => ?_)
    refine jj_iald C 12 (g_12 n S SD) dX4_goal_27 ?_
    exact jj_iret C hr hlocks dX4_goal_28
  · refine jj_aload_n C 0 dX4_goal_7 rfl rfl ?_
    refine jj_getr C 10 1 in_Packets (g_10 n S SD) k_Packets (by decide) fl_Packets_9 rfl dX4_goal_8 ?_
    refine jj_iload_n C 1 dX4_goal_11 rfl rfl ?_
    refine jj_callSi C (As := [.int a1]) (rest := [.ref (ad 11)]) (fun z hz => c_Packets_number hz) (q_Packets_40 C.2.2.2.2.1 (rm := { frames := 0, cells := 0, slots := 0, locals := 0 }) rfl rfl ⟨Nat.le_trans (by decide) hRm.1, Nat.le_trans (by decide) hRm.2⟩) rfl rfl (Nat.le_of_ble_eq_true rfl) dX4_goal_12 (fun r6 σ5 _ => ?_)
    refine jj_iald C 11 (g_11 n S SD) dX4_goal_15 ?_
    refine jj_goto C (tgt := 28) dX4_goal_16 (by decide) ?_
    exact jj_iret C hr hlocks dX4_goal_28

set_option maxHeartbeats 4000000 in
set_option maxRecDepth 100000 in
theorem c_Grid_column {l : Launch} {D : va_G} {ad : Nat → Nat} {cA : FieldType → ClassId} {n S SD F : Nat} {σ : jj_S} {a1 : Int32} {z : (Int32 × jj_S)} (ho : f_Grid_column n S SD F σ a1 = some z) : jj_Mi l yX1_column (Cond.code yX1_column cX1_column 2 (some .int) :: jw_t) { frames := 0, cells := 0, slots := 0, locals := 0 } D vwCl ad cA (gc n S SD) [.ref (ad 1), .int a1] σ z := by
  refine jj_ofi (cc := cX1_column) (nL := 2) (ret := (some .int)) rfl ho (Nat.le_of_ble_eq_true rfl) ?_
  intro p e s m below meth c C hr hlocks
  generalize hA : va_A (jj_w ad cA (gc n S SD) σ) s.heap.size = A at C ⊢
  have hRm : 0 ≤ (headSpec (Cond.code yX1_column cX1_column 2 (some .int) :: jw_t) { frames := 0, cells := 0, slots := 0, locals := 0 }).room.frames ∧ 0 ≤ (headSpec (Cond.code yX1_column cX1_column 2 (some .int) :: jw_t) { frames := 0, cells := 0, slots := 0, locals := 0 }).room.locals := ⟨Nat.le_refl _, Nat.le_refl _⟩
  generalize (headSpec (Cond.code yX1_column cX1_column 2 (some .int) :: jw_t) { frames := 0, cells := 0, slots := 0, locals := 0 }).room = R at C hRm ⊢
  generalize List.toArray ([.ref (ad 1), .int a1] : List Value) = args at C ⊢
  refine jj_sub (lv' := [(0, .ref (ad 1)), (1, .int a1)]) [0, 1] rfl ?_
  unfold f_Grid_column
  refine jj_iload_n C 1 dX1_column_0 rfl rfl ?_
  refine jj_aload_n C 0 dX1_column_1 rfl rfl ?_
  refine jj_geti C 1 0 in_Grid (g_1 n S SD) k_Grid (by decide) fl_Grid_15 rfl dX1_column_2 ?_
  refine jj_irem C dX1_column_5 ?_
  exact jj_iret C hr hlocks dX1_column_6

set_option maxHeartbeats 4000000 in
set_option maxRecDepth 100000 in
theorem c_Grid_row {l : Launch} {D : va_G} {ad : Nat → Nat} {cA : FieldType → ClassId} {n S SD F : Nat} {σ : jj_S} {a1 : Int32} {z : (Int32 × jj_S)} (ho : f_Grid_row n S SD F σ a1 = some z) : jj_Mi l yX1_row (Cond.code yX1_row cX1_row 2 (some .int) :: jw_t) { frames := 0, cells := 0, slots := 0, locals := 0 } D vwCl ad cA (gc n S SD) [.ref (ad 1), .int a1] σ z := by
  refine jj_ofi (cc := cX1_row) (nL := 2) (ret := (some .int)) rfl ho (Nat.le_of_ble_eq_true rfl) ?_
  intro p e s m below meth c C hr hlocks
  generalize hA : va_A (jj_w ad cA (gc n S SD) σ) s.heap.size = A at C ⊢
  have hRm : 0 ≤ (headSpec (Cond.code yX1_row cX1_row 2 (some .int) :: jw_t) { frames := 0, cells := 0, slots := 0, locals := 0 }).room.frames ∧ 0 ≤ (headSpec (Cond.code yX1_row cX1_row 2 (some .int) :: jw_t) { frames := 0, cells := 0, slots := 0, locals := 0 }).room.locals := ⟨Nat.le_refl _, Nat.le_refl _⟩
  generalize (headSpec (Cond.code yX1_row cX1_row 2 (some .int) :: jw_t) { frames := 0, cells := 0, slots := 0, locals := 0 }).room = R at C hRm ⊢
  generalize List.toArray ([.ref (ad 1), .int a1] : List Value) = args at C ⊢
  refine jj_sub (lv' := [(0, .ref (ad 1)), (1, .int a1)]) [0, 1] rfl ?_
  unfold f_Grid_row
  refine jj_iload_n C 1 dX1_row_0 rfl rfl ?_
  refine jj_aload_n C 0 dX1_row_1 rfl rfl ?_
  refine jj_geti C 1 0 in_Grid (g_1 n S SD) k_Grid (by decide) fl_Grid_15 rfl dX1_row_2 ?_
  refine jj_idiv C dX1_row_5 ?_
  exact jj_iret C hr hlocks dX1_row_6

set_option maxHeartbeats 4000000 in
set_option maxRecDepth 100000 in
theorem c_Routers_wayTo {l : Launch} {D : va_G} {ad : Nat → Nat} {cA : FieldType → ClassId} {n S SD F : Nat} {σ : jj_S} {a1 a2 : Int32} {z : (Int32 × jj_S)} (ho : f_Routers_wayTo n S SD F σ a1 a2 = some z) : jj_Mi l yX6_wayTo (Cond.code yX6_wayTo cX6_wayTo 5 (some .int) :: jw_t) { frames := 1, cells := 0, slots := 0, locals := 40 } D vwCl ad cA (gc n S SD) [.ref (ad 30), .int a1, .int a2] σ z := by
  refine jj_ofi (cc := cX6_wayTo) (nL := 5) (ret := (some .int)) rfl ho (Nat.le_of_ble_eq_true rfl) ?_
  intro p e s m below meth c C hr hlocks
  generalize hA : va_A (jj_w ad cA (gc n S SD) σ) s.heap.size = A at C ⊢
  have hRm : 1 ≤ (headSpec (Cond.code yX6_wayTo cX6_wayTo 5 (some .int) :: jw_t) { frames := 1, cells := 0, slots := 0, locals := 40 }).room.frames ∧ 40 ≤ (headSpec (Cond.code yX6_wayTo cX6_wayTo 5 (some .int) :: jw_t) { frames := 1, cells := 0, slots := 0, locals := 40 }).room.locals := ⟨Nat.le_refl _, Nat.le_refl _⟩
  generalize (headSpec (Cond.code yX6_wayTo cX6_wayTo 5 (some .int) :: jw_t) { frames := 1, cells := 0, slots := 0, locals := 40 }).room = R at C hRm ⊢
  generalize List.toArray ([.ref (ad 30), .int a1, .int a2] : List Value) = args at C ⊢
  refine jj_sub (lv' := [(0, .ref (ad 30)), (1, .int a1), (2, .int a2)]) [0, 1, 2] rfl ?_
  unfold f_Routers_wayTo
  refine jj_aload_n C 0 dX6_wayTo_0 rfl rfl ?_
  refine jj_getr C 30 0 in_Routers (g_30 n S SD) k_Routers (by decide) fl_Routers_15 rfl dX6_wayTo_1 ?_
  refine jj_iload_n C 2 dX6_wayTo_4 rfl rfl ?_
  refine jj_callVi C (As := [.int a2]) (rest := []) (fun z hz => c_Grid_column hz) (q_Routers_111 C.2.2.2.2.1 (rm := { frames := 0, cells := 0, slots := 0, locals := 0 }) rfl rfl ⟨Nat.le_trans (by decide) hRm.1, Nat.le_trans (by decide) hRm.2⟩) (g_1 n S SD) k_Grid rfl rfl (Nat.le_of_ble_eq_true rfl) dX6_wayTo_5 (fun r2 σ1 _ => ?_)
  refine jj_aload_n C 0 dX6_wayTo_8 rfl rfl ?_
  refine jj_getr C 30 0 in_Routers (g_30 n S SD) k_Routers (by decide) fl_Routers_15 rfl dX6_wayTo_9 ?_
  refine jj_iload_n C 1 dX6_wayTo_12 rfl rfl ?_
  refine jj_callVi C (As := [.int a1]) (rest := [.int r2]) (fun z hz => c_Grid_column hz) (q_Routers_111 C.2.2.2.2.1 (rm := { frames := 0, cells := 0, slots := 0, locals := 0 }) rfl rfl ⟨Nat.le_trans (by decide) hRm.1, Nat.le_trans (by decide) hRm.2⟩) (g_1 n S SD) k_Grid rfl rfl (Nat.le_of_ble_eq_true rfl) dX6_wayTo_13 (fun r4 σ3 _ => ?_)
  refine jj_isub C dX6_wayTo_16 ?_
  refine jj_ltn (fun v3_5 => ?_)
  refine jj_istore_n C [(3, .int v3_5), (0, .ref (ad 30)), (1, .int a1), (2, .int a2)] dX6_wayTo_17 rfl (by decide) rfl ?_
  refine jj_iload_n C 0 dX6_wayTo_18 rfl rfl ?_
  refine jj_if_eq C (tgt := 32) dX6_wayTo_19 (by decide) (fun _ => ?_) (fun _ => ?_)
  · refine jj_aload_n C 1 dX6_wayTo_32 rfl rfl ?_
    refine jj_getr C 30 0 in_Routers (g_30 n S SD) k_Routers (by decide) fl_Routers_15 rfl dX6_wayTo_33 ?_
    refine jj_iload_n C 3 dX6_wayTo_36 rfl rfl ?_
    refine jj_callVi C (As := [.int a2]) (rest := []) (fun z hz => c_Grid_row hz) (q_Routers_114 C.2.2.2.2.1 (rm := { frames := 0, cells := 0, slots := 0, locals := 0 }) rfl rfl ⟨Nat.le_trans (by decide) hRm.1, Nat.le_trans (by decide) hRm.2⟩) (g_1 n S SD) k_Grid rfl rfl (Nat.le_of_ble_eq_true rfl) dX6_wayTo_37 (fun r7 σ6 _ => ?_)
    refine jj_aload_n C 1 dX6_wayTo_40 rfl rfl ?_
    refine jj_getr C 30 0 in_Routers (g_30 n S SD) k_Routers (by decide) fl_Routers_15 rfl dX6_wayTo_41 ?_
    refine jj_iload_n C 2 dX6_wayTo_44 rfl rfl ?_
    refine jj_callVi C (As := [.int a1]) (rest := [.int r7]) (fun z hz => c_Grid_row hz) (q_Routers_114 C.2.2.2.2.1 (rm := { frames := 0, cells := 0, slots := 0, locals := 0 }) rfl rfl ⟨Nat.le_trans (by decide) hRm.1, Nat.le_trans (by decide) hRm.2⟩) (g_1 n S SD) k_Grid rfl rfl (Nat.le_of_ble_eq_true rfl) dX6_wayTo_45 (fun r9 σ8 _ => ?_)
    refine jj_isub C dX6_wayTo_48 ?_
    refine jj_ltn (fun v4_10 => ?_)
    refine jj_istore C [(4, .int v4_10), (3, .int v3_5), (0, .ref (ad 30)), (1, .int a1), (2, .int a2)] dX6_wayTo_49 (by decide) rfl ?_
    refine jj_iload C 0 dX6_wayTo_51 rfl ?_
    refine jj_if_eq C (tgt := 67) dX6_wayTo_53 (by decide) (fun _ => ?_) (fun _ => ?_)
    · refine jj_iconst C (v := (0 : Int32)) dX6_wayTo_67 (by decide) ?_
      exact jj_iret C hr hlocks dX6_wayTo_68
    · refine jj_iload C 0 dX6_wayTo_56 rfl ?_
      refine jj_if_le C (tgt := 65) dX6_wayTo_58 (by decide) (fun _ => ?_) (fun _ => ?_)
      · refine jj_iconst C (v := (4 : Int32)) dX6_wayTo_65 (by decide) ?_
        exact jj_iret C hr hlocks dX6_wayTo_66
      · refine jj_iconst C (v := (3 : Int32)) dX6_wayTo_61 (by decide) ?_
        refine jj_goto C (tgt := 66) dX6_wayTo_62 (by decide) ?_
        exact jj_iret C hr hlocks dX6_wayTo_66
  · refine jj_iload_n C 0 dX6_wayTo_22 rfl rfl ?_
    refine jj_if_le C (tgt := 30) dX6_wayTo_23 (by decide) (fun _ => ?_) (fun _ => ?_)
    · refine jj_iconst C (v := (2 : Int32)) dX6_wayTo_30 (by decide) ?_
      exact jj_iret C hr hlocks dX6_wayTo_31
    · refine jj_iconst C (v := (1 : Int32)) dX6_wayTo_26 (by decide) ?_
      refine jj_goto C (tgt := 31) dX6_wayTo_27 (by decide) ?_
      exact jj_iret C hr hlocks dX6_wayTo_31

set_option maxHeartbeats 4000000 in
set_option maxRecDepth 100000 in
theorem l_Routers_routeAll_22 {p : Program} {l : Launch} {e : Env} {R : Room} {s : State} {m : MethodId} {args : Array Value} {below : List Frame} {meth : Method} {c : Code} {D : va_G} {A : Nat → Prop} {ad : Nat → Nat} {cA : FieldType → ClassId} {n S SD F : Nat} (C : jj_C p R s m args c D vwCl A ad cA (gc n S SD) 5 0 0 cX6_routeAll RX6 jw_t) (hr : meth.sig.returnType = none) (hlocks : meth.locks = false) (hRm : 2 ≤ R.frames ∧ 80 ≤ R.locals) {K : jj_S → Int32 → Int32 → Int32 → Option jj_S} (hK : ∀ (σ : jj_S) (x1 x2 x3 : Int32), jj_J p l e R s m args below meth c D vwCl A ad cA (gc n S SD) 5 0 0 (jj_Qv below D vwCl A ad cA (gc n S SD) args s 0 0) (K σ x1 x2 x3) σ 110 [(0, .ref (ad 30)), (1, .int x1), (2, .int x2), (3, .int x3)] []) : ∀ (k : Nat) (σ : jj_S) (x1 x2 x3 : Int32), jj_J p l e R s m args below meth c D vwCl A ad cA (gc n S SD) 5 0 0 (jj_Qv below D vwCl A ad cA (gc n S SD) args s 0 0) (jj_lp3 (b_Routers_routeAll_22 n S SD F K) k σ x1 x2 x3) σ 22 [(0, .ref (ad 30)), (1, .int x1), (2, .int x2), (3, .int x3)] [] := by
  refine jj_loop3 (T := fun o σ x1 x2 x3 => jj_J p l e R s m args below meth c D vwCl A ad cA (gc n S SD) 5 0 0 (jj_Qv below D vwCl A ad cA (gc n S SD) args s 0 0) o σ 22 [(0, .ref (ad 30)), (1, .int x1), (2, .int x2), (3, .int x3)] []) (fun _ _ _ _ _ h => by cases h) ?_
  intro rec ih σ x1 x2 x3
  unfold b_Routers_routeAll_22
  refine jj_iload_n C 3 dX6_routeAll_22 rfl rfl ?_
  refine jj_aload_n C 0 dX6_routeAll_23 rfl rfl ?_
  refine jj_getr C 30 0 in_Routers (g_30 n S SD) k_Routers (by decide) fl_Routers_15 rfl dX6_routeAll_24 ?_
  refine jj_geti C 1 4 in_Grid (g_1 n S SD) k_Grid (by decide) fl_Routers_66 rfl dX6_routeAll_27 ?_
  refine jj_icmp_ge C (tgt := 110) dX6_routeAll_30 (by decide) (fun _ => ?_) (fun _ => ?_)
  · refine jj_sub [0, 1, 2, 3] rfl ?_
    exact hK σ x1 x2 x3
  · refine jj_aload_n C 0 dX6_routeAll_33 rfl rfl ?_
    refine jj_getr C 30 0 in_Routers (g_30 n S SD) k_Routers (by decide) fl_Routers_15 rfl dX6_routeAll_34 ?_
    refine jj_iload_n C 1 dX6_routeAll_37 rfl rfl ?_
    refine jj_iload_n C 2 dX6_routeAll_38 rfl rfl ?_
    refine jj_iload_n C 3 dX6_routeAll_39 rfl rfl ?_
    refine jj_callVi C (As := [.int x1, .int x2, .int x3]) (rest := []) (fun z hz => c_Grid_slot hz) (q_Routers_73 C.2.2.2.2.1 (rm := { frames := 0, cells := 0, slots := 0, locals := 0 }) rfl rfl ⟨Nat.le_trans (by decide) hRm.1, Nat.le_trans (by decide) hRm.2⟩) (g_1 n S SD) k_Grid rfl rfl (Nat.le_of_ble_eq_true rfl) dX6_routeAll_40 (fun r2 σ1 _ => ?_)
    refine jj_istore C [(4, .int r2), (0, .ref (ad 30)), (1, .int x1), (2, .int x2), (3, .int x3)] dX6_routeAll_43 (by decide) rfl ?_
    refine jj_aload_n C 1 dX6_routeAll_45 rfl rfl ?_
    refine jj_getr C 30 3 in_Routers (g_30 n S SD) k_Routers (by decide) fl_Routers_33 rfl dX6_routeAll_46 ?_
    refine jj_iload C 0 dX6_routeAll_49 rfl ?_
    refine jj_iald C 32 (g_32 n S SD) dX6_routeAll_51 ?_
    refine jj_if_ne C (tgt := 104) dX6_routeAll_52 (by decide) (fun _ => ?_) (fun _ => ?_)
    · refine jj_iinc C (v := x3 + (1 : Int32)) [(3, .int (x3 + (1 : Int32))), (4, .int r2), (0, .ref (ad 30)), (1, .int x1), (2, .int x2)] 4 dX6_routeAll_104 rfl rfl (by decide) rfl ?_
      refine jj_goto C (tgt := 22) dX6_routeAll_107 (by decide) ?_
      refine jj_sub [2, 3, 4, 0] rfl ?_
      exact ih σ1 x1 x2 (x3 + (1 : Int32))
    · refine jj_aload_n C 1 dX6_routeAll_55 rfl rfl ?_
      refine jj_getr C 30 1 in_Routers (g_30 n S SD) k_Routers (by decide) fl_Routers_19 rfl dX6_routeAll_56 ?_
      refine jj_getr C 2 4 in_Links (g_2 n S SD) k_Links (by decide) fl_Routers_77 rfl dX6_routeAll_59 ?_
      refine jj_iload C 0 dX6_routeAll_62 rfl ?_
      refine jj_iald C 6 (g_6 n S SD) dX6_routeAll_64 ?_
      refine jj_if_le C (tgt := 104) dX6_routeAll_65 (by decide) (fun _ => ?_) (fun _ => ?_)
      · refine jj_iinc C (v := x3 + (1 : Int32)) [(3, .int (x3 + (1 : Int32))), (4, .int r2), (0, .ref (ad 30)), (1, .int x1), (2, .int x2)] 4 dX6_routeAll_104 rfl rfl (by decide) rfl ?_
        refine jj_goto C (tgt := 22) dX6_routeAll_107 (by decide) ?_
        refine jj_sub [2, 3, 4, 0] rfl ?_
        exact ih σ1 x1 x2 (x3 + (1 : Int32))
      · refine jj_aload_n C 1 dX6_routeAll_68 rfl rfl ?_
        refine jj_getr C 30 4 in_Routers (g_30 n S SD) k_Routers (by decide) fl_Routers_36 rfl dX6_routeAll_69 ?_
        refine jj_iload C 0 dX6_routeAll_72 rfl ?_
        refine jj_aload_n C 1 dX6_routeAll_74 rfl rfl ?_
        refine jj_iload_n C 2 dX6_routeAll_75 rfl rfl ?_
        refine jj_aload_n C 1 dX6_routeAll_76 rfl rfl ?_
        refine jj_getr C 30 2 in_Routers (g_30 n S SD) k_Routers (by decide) fl_Routers_23 rfl dX6_routeAll_77 ?_
        refine jj_aload_n C 1 dX6_routeAll_80 rfl rfl ?_
        refine jj_getr C 30 1 in_Routers (g_30 n S SD) k_Routers (by decide) fl_Routers_19 rfl dX6_routeAll_81 ?_
        refine jj_iload C 0 dX6_routeAll_84 rfl ?_
        refine jj_callVi C (As := [.int r2]) (rest := [.ref (ad 10), .int x1, .ref (ad 30), .int r2, .ref (ad 33)]) (fun z hz => c_Links_firstFlit hz) (q_Routers_102 C.2.2.2.2.1 (rm := { frames := 0, cells := 0, slots := 0, locals := 0 }) rfl rfl ⟨Nat.le_trans (by decide) hRm.1, Nat.le_trans (by decide) hRm.2⟩) (g_2 n S SD) k_Links rfl rfl (Nat.le_of_ble_eq_true rfl) dX6_routeAll_86 (fun r4 σ3 _ => ?_)
        refine jj_callVi C (As := [.int r4]) (rest := [.int x1, .ref (ad 30), .int r2, .ref (ad 33)]) (fun z hz => c_Packets_goal hz) (q_Routers_105 C.2.2.2.2.1 (rm := { frames := 1, cells := 0, slots := 0, locals := 40 }) rfl rfl ⟨Nat.le_trans (by decide) hRm.1, Nat.le_trans (by decide) hRm.2⟩) (g_10 n S SD) k_Packets rfl rfl (Nat.le_of_ble_eq_true rfl) dX6_routeAll_89 (fun r6 σ5 _ => ?_)
        refine jj_callVi C (As := [.int x1, .int r6]) (rest := [.int r2, .ref (ad 33)]) (fun z hz => c_Routers_wayTo hz) (q_Routers_108 C.2.2.2.2.1 (rm := { frames := 1, cells := 0, slots := 0, locals := 40 }) rfl rfl ⟨Nat.le_trans (by decide) hRm.1, Nat.le_trans (by decide) hRm.2⟩) (g_30 n S SD) k_Routers rfl rfl (Nat.le_of_ble_eq_true rfl) dX6_routeAll_92 (fun r8 σ7 _ => ?_)
        refine jj_iast C 33 (g_33 n S SD) dX6_routeAll_95 ?_
        refine jj_stn (fun σ9 => ?_)
        refine jj_aload_n C 1 dX6_routeAll_96 rfl rfl ?_
        refine jj_getr C 30 3 in_Routers (g_30 n S SD) k_Routers (by decide) fl_Routers_33 rfl dX6_routeAll_97 ?_
        refine jj_iload C 0 dX6_routeAll_100 rfl ?_
        refine jj_iconst C (v := (1 : Int32)) dX6_routeAll_102 (by decide) ?_
        refine jj_iast C 32 (g_32 n S SD) dX6_routeAll_103 ?_
        refine jj_stn (fun σ10 => ?_)
        refine jj_iinc C (v := x3 + (1 : Int32)) [(3, .int (x3 + (1 : Int32))), (4, .int r2), (0, .ref (ad 30)), (1, .int x1), (2, .int x2)] 4 dX6_routeAll_104 rfl rfl (by decide) rfl ?_
        refine jj_goto C (tgt := 22) dX6_routeAll_107 (by decide) ?_
        refine jj_sub [2, 3, 4, 0] rfl ?_
        exact ih σ10 x1 x2 (x3 + (1 : Int32))

set_option maxHeartbeats 4000000 in
set_option maxRecDepth 100000 in
theorem l_Routers_routeAll_15 {p : Program} {l : Launch} {e : Env} {R : Room} {s : State} {m : MethodId} {args : Array Value} {below : List Frame} {meth : Method} {c : Code} {D : va_G} {A : Nat → Prop} {ad : Nat → Nat} {cA : FieldType → ClassId} {n S SD F : Nat} (C : jj_C p R s m args c D vwCl A ad cA (gc n S SD) 5 0 0 cX6_routeAll RX6 jw_t) (hr : meth.sig.returnType = none) (hlocks : meth.locks = false) (hRm : 2 ≤ R.frames ∧ 80 ≤ R.locals) {K : jj_S → Int32 → Int32 → Option jj_S} (hK : ∀ (σ : jj_S) (x1 x2 : Int32), jj_J p l e R s m args below meth c D vwCl A ad cA (gc n S SD) 5 0 0 (jj_Qv below D vwCl A ad cA (gc n S SD) args s 0 0) (K σ x1 x2) σ 116 [(0, .ref (ad 30)), (1, .int x1), (2, .int x2)] []) : ∀ (k : Nat) (σ : jj_S) (x1 x2 : Int32), jj_J p l e R s m args below meth c D vwCl A ad cA (gc n S SD) 5 0 0 (jj_Qv below D vwCl A ad cA (gc n S SD) args s 0 0) (jj_lp2 (b_Routers_routeAll_15 n S SD F K) k σ x1 x2) σ 15 [(0, .ref (ad 30)), (1, .int x1), (2, .int x2)] [] := by
  refine jj_loop2 (T := fun o σ x1 x2 => jj_J p l e R s m args below meth c D vwCl A ad cA (gc n S SD) 5 0 0 (jj_Qv below D vwCl A ad cA (gc n S SD) args s 0 0) o σ 15 [(0, .ref (ad 30)), (1, .int x1), (2, .int x2)] []) (fun _ _ _ _ h => by cases h) ?_
  intro rec ih σ x1 x2
  unfold b_Routers_routeAll_15
  refine jj_iload_n C 2 dX6_routeAll_15 rfl rfl ?_
  refine jj_iconst C (v := (5 : Int32)) dX6_routeAll_16 (by decide) ?_
  refine jj_icmp_ge C (tgt := 116) dX6_routeAll_17 (by decide) (fun _ => ?_) (fun _ => ?_)
  · refine jj_sub [0, 1, 2] rfl ?_
    exact hK σ x1 x2
  · refine jj_iconst C (v := (0 : Int32)) dX6_routeAll_20 (by decide) ?_
    refine jj_istore_n C [(3, .int (0 : Int32)), (0, .ref (ad 30)), (1, .int x1), (2, .int x2)] dX6_routeAll_21 rfl (by decide) rfl ?_
    refine jj_sub [1, 2, 3, 0] rfl ?_
    refine l_Routers_routeAll_22 C hr hlocks hRm (fun σ11 x1_12 x2_13 x3_14 => ?_) F σ x1 x2 (0 : Int32)
    refine jj_iinc C (v := x2_13 + (1 : Int32)) [(2, .int (x2_13 + (1 : Int32))), (0, .ref (ad 30)), (1, .int x1_12), (3, .int x3_14)] 2 dX6_routeAll_110 rfl rfl (by decide) rfl ?_
    refine jj_goto C (tgt := 15) dX6_routeAll_113 (by decide) ?_
    refine jj_sub [1, 2, 0] rfl ?_
    exact ih σ11 x1_12 (x2_13 + (1 : Int32))

set_option maxHeartbeats 4000000 in
set_option maxRecDepth 100000 in
theorem l_Routers_routeAll_2 {p : Program} {l : Launch} {e : Env} {R : Room} {s : State} {m : MethodId} {args : Array Value} {below : List Frame} {meth : Method} {c : Code} {D : va_G} {A : Nat → Prop} {ad : Nat → Nat} {cA : FieldType → ClassId} {n S SD F : Nat} (C : jj_C p R s m args c D vwCl A ad cA (gc n S SD) 5 0 0 cX6_routeAll RX6 jw_t) (hr : meth.sig.returnType = none) (hlocks : meth.locks = false) (hRm : 2 ≤ R.frames ∧ 80 ≤ R.locals) {K : jj_S → Int32 → Option jj_S} (hK : ∀ (σ : jj_S) (x1 : Int32), jj_J p l e R s m args below meth c D vwCl A ad cA (gc n S SD) 5 0 0 (jj_Qv below D vwCl A ad cA (gc n S SD) args s 0 0) (K σ x1) σ 122 [(0, .ref (ad 30)), (1, .int x1)] []) : ∀ (k : Nat) (σ : jj_S) (x1 : Int32), jj_J p l e R s m args below meth c D vwCl A ad cA (gc n S SD) 5 0 0 (jj_Qv below D vwCl A ad cA (gc n S SD) args s 0 0) (jj_lp1 (b_Routers_routeAll_2 n S SD F K) k σ x1) σ 2 [(0, .ref (ad 30)), (1, .int x1)] [] := by
  refine jj_loop1 (T := fun o σ x1 => jj_J p l e R s m args below meth c D vwCl A ad cA (gc n S SD) 5 0 0 (jj_Qv below D vwCl A ad cA (gc n S SD) args s 0 0) o σ 2 [(0, .ref (ad 30)), (1, .int x1)] []) (fun _ _ _ h => by cases h) ?_
  intro rec ih σ x1
  unfold b_Routers_routeAll_2
  refine jj_iload_n C 1 dX6_routeAll_2 rfl rfl ?_
  refine jj_aload_n C 0 dX6_routeAll_3 rfl rfl ?_
  refine jj_getr C 30 0 in_Routers (g_30 n S SD) k_Routers (by decide) fl_Routers_15 rfl dX6_routeAll_4 ?_
  refine jj_geti C 1 5 in_Grid (g_1 n S SD) k_Grid (by decide) fl_Routers_46 rfl dX6_routeAll_7 ?_
  refine jj_icmp_ge C (tgt := 122) dX6_routeAll_10 (by decide) (fun _ => ?_) (fun _ => ?_)
  · refine jj_sub [0, 1] rfl ?_
    exact hK σ x1
  · refine jj_iconst C (v := (0 : Int32)) dX6_routeAll_13 (by decide) ?_
    refine jj_istore_n C [(2, .int (0 : Int32)), (0, .ref (ad 30)), (1, .int x1)] dX6_routeAll_14 rfl (by decide) rfl ?_
    refine jj_sub [1, 2, 0] rfl ?_
    refine l_Routers_routeAll_15 C hr hlocks hRm (fun σ15 x1_16 x2_17 => ?_) F σ x1 (0 : Int32)
    refine jj_iinc C (v := x1_16 + (1 : Int32)) [(1, .int (x1_16 + (1 : Int32))), (0, .ref (ad 30)), (2, .int x2_17)] 1 dX6_routeAll_116 rfl rfl (by decide) rfl ?_
    refine jj_goto C (tgt := 2) dX6_routeAll_119 (by decide) ?_
    refine jj_sub [1, 0] rfl ?_
    exact ih σ15 (x1_16 + (1 : Int32))

set_option maxHeartbeats 4000000 in
set_option maxRecDepth 100000 in
theorem c_Routers_routeAll {l : Launch} {D : va_G} {ad : Nat → Nat} {cA : FieldType → ClassId} {n S SD F : Nat} {σ : jj_S} {z : jj_S} (ho : f_Routers_routeAll n S SD F σ = some z) : jj_Mv l yX6_routeAll (Cond.code yX6_routeAll cX6_routeAll 5 none :: jw_t) { frames := 2, cells := 0, slots := 0, locals := 80 } D vwCl ad cA (gc n S SD) [.ref (ad 30)] σ z := by
  refine jj_ofv (cc := cX6_routeAll) (nL := 5) (ret := none) rfl ho (Nat.le_of_ble_eq_true rfl) ?_
  intro p e s m below meth c C hr hlocks
  generalize hA : va_A (jj_w ad cA (gc n S SD) σ) s.heap.size = A at C ⊢
  have hRm : 2 ≤ (headSpec (Cond.code yX6_routeAll cX6_routeAll 5 none :: jw_t) { frames := 2, cells := 0, slots := 0, locals := 80 }).room.frames ∧ 80 ≤ (headSpec (Cond.code yX6_routeAll cX6_routeAll 5 none :: jw_t) { frames := 2, cells := 0, slots := 0, locals := 80 }).room.locals := ⟨Nat.le_refl _, Nat.le_refl _⟩
  generalize (headSpec (Cond.code yX6_routeAll cX6_routeAll 5 none :: jw_t) { frames := 2, cells := 0, slots := 0, locals := 80 }).room = R at C hRm ⊢
  generalize List.toArray ([.ref (ad 30)] : List Value) = args at C ⊢
  refine jj_sub (lv' := [(0, .ref (ad 30))]) [0] rfl ?_
  unfold f_Routers_routeAll
  refine jj_iconst C (v := (0 : Int32)) dX6_routeAll_0 (by decide) ?_
  refine jj_istore_n C [(1, .int (0 : Int32)), (0, .ref (ad 30))] dX6_routeAll_1 rfl (by decide) rfl ?_
  refine jj_sub [1, 0] rfl ?_
  refine l_Routers_routeAll_2 C hr hlocks hRm (fun σ18 x1_19 => ?_) F σ (0 : Int32)
  exact jj_vret C hr hlocks dX6_routeAll_122

set_option maxHeartbeats 4000000 in
set_option maxRecDepth 100000 in
theorem c_Mesh_tick {l : Launch} {D : va_G} {ad : Nat → Nat} {cA : FieldType → ClassId} {n S SD F : Nat} {σ : jj_S} {z : jj_S} (ho : f_Mesh_tick n S SD F σ = some z) : jj_Mv l yX7_tick (Cond.code yX7_tick cX7_tick 1 none :: jw_t) { frames := 4, cells := 0, slots := 0, locals := 160 } D vwCl ad cA (gc n S SD) [.ref (ad 0)] σ z := by
  refine jj_ofv (cc := cX7_tick) (nL := 1) (ret := none) rfl ho (Nat.le_of_ble_eq_true rfl) ?_
  intro p e s m below meth c C hr hlocks
  generalize hA : va_A (jj_w ad cA (gc n S SD) σ) s.heap.size = A at C ⊢
  have hRm : 4 ≤ (headSpec (Cond.code yX7_tick cX7_tick 1 none :: jw_t) { frames := 4, cells := 0, slots := 0, locals := 160 }).room.frames ∧ 160 ≤ (headSpec (Cond.code yX7_tick cX7_tick 1 none :: jw_t) { frames := 4, cells := 0, slots := 0, locals := 160 }).room.locals := ⟨Nat.le_refl _, Nat.le_refl _⟩
  generalize (headSpec (Cond.code yX7_tick cX7_tick 1 none :: jw_t) { frames := 4, cells := 0, slots := 0, locals := 160 }).room = R at C hRm ⊢
  generalize List.toArray ([.ref (ad 0)] : List Value) = args at C ⊢
  refine jj_sub (lv' := [(0, .ref (ad 0))]) [0] rfl ?_
  unfold f_Mesh_tick
  refine jj_aload_n C 0 dX7_tick_0 rfl rfl ?_
  refine jj_dup C dX7_tick_1 rfl ?_
  refine jj_geti C 0 5 in_Mesh (g_0 n S SD) k_Mesh (by decide) fl_Mesh_96 rfl dX7_tick_2 ?_
  refine jj_iconst C (v := (1 : Int32)) dX7_tick_5 (by decide) ?_
  refine jj_iadd C dX7_tick_6 ?_
  refine jj_puti C 0 5 in_Mesh (g_0 n S SD) k_Mesh (by decide) fl_Mesh_96 tyX7 tyX7_ok nmX7 rfl (by decide +kernel) rfl dX7_tick_7 ?_
  refine jj_stn (fun σ1 => ?_)
  refine jj_aload_n C 0 dX7_tick_10 rfl rfl ?_
  refine jj_getr C 0 1 in_Mesh (g_0 n S SD) k_Mesh (by decide) fl_Mesh_23 rfl dX7_tick_11 ?_
  refine jj_callVv C (As := []) (rest := []) (fun z hz => c_Links_arriveAll hz) (q_Mesh_143 C.2.2.2.2.1 (rm := { frames := 0, cells := 0, slots := 0, locals := 0 }) rfl rfl ⟨Nat.le_trans (by decide) hRm.1, Nat.le_trans (by decide) hRm.2⟩) (g_2 n S SD) k_Links rfl rfl (Nat.le_of_ble_eq_true rfl) dX7_tick_14 (fun σ2 _ => ?_)
  refine jj_aload_n C 0 dX7_tick_17 rfl rfl ?_
  refine jj_getr C 0 3 in_Mesh (g_0 n S SD) k_Mesh (by decide) fl_Mesh_39 rfl dX7_tick_18 ?_
  refine jj_aload_n C 0 dX7_tick_21 rfl rfl ?_
  refine jj_geti C 0 5 in_Mesh (g_0 n S SD) k_Mesh (by decide) fl_Mesh_96 rfl dX7_tick_22 ?_
  refine jj_callVv C (As := [.int (σ2 0 5)]) (rest := []) (fun z hz => c_Ifs_takeAll hz) (q_Mesh_146 C.2.2.2.2.1 (rm := { frames := 2, cells := 0, slots := 0, locals := 80 }) rfl rfl ⟨Nat.le_trans (by decide) hRm.1, Nat.le_trans (by decide) hRm.2⟩) (g_16 n S SD) k_Ifs rfl rfl (Nat.le_of_ble_eq_true rfl) dX7_tick_25 (fun σ3 _ => ?_)
  refine jj_aload_n C 0 dX7_tick_28 rfl rfl ?_
  refine jj_getr C 0 3 in_Mesh (g_0 n S SD) k_Mesh (by decide) fl_Mesh_39 rfl dX7_tick_29 ?_
  refine jj_callVv C (As := []) (rest := []) (fun z hz => c_Ifs_sendAll hz) (q_Mesh_150 C.2.2.2.2.1 (rm := { frames := 2, cells := 0, slots := 0, locals := 80 }) rfl rfl ⟨Nat.le_trans (by decide) hRm.1, Nat.le_trans (by decide) hRm.2⟩) (g_16 n S SD) k_Ifs rfl rfl (Nat.le_of_ble_eq_true rfl) dX7_tick_32 (fun σ4 _ => ?_)
  refine jj_aload_n C 0 dX7_tick_35 rfl rfl ?_
  refine jj_getr C 0 4 in_Mesh (g_0 n S SD) k_Mesh (by decide) fl_Mesh_46 rfl dX7_tick_36 ?_
  refine jj_callVv C (As := []) (rest := []) (fun z hz => c_Routers_moveAll hz) (q_Mesh_153 C.2.2.2.2.1 (rm := { frames := 3, cells := 0, slots := 0, locals := 120 }) rfl rfl ⟨Nat.le_trans (by decide) hRm.1, Nat.le_trans (by decide) hRm.2⟩) (g_30 n S SD) k_Routers rfl rfl (Nat.le_of_ble_eq_true rfl) dX7_tick_39 (fun σ5 _ => ?_)
  refine jj_aload_n C 0 dX7_tick_42 rfl rfl ?_
  refine jj_getr C 0 4 in_Mesh (g_0 n S SD) k_Mesh (by decide) fl_Mesh_46 rfl dX7_tick_43 ?_
  refine jj_callVv C (As := []) (rest := []) (fun z hz => c_Routers_grantAll hz) (q_Mesh_156 C.2.2.2.2.1 (rm := { frames := 2, cells := 0, slots := 0, locals := 80 }) rfl rfl ⟨Nat.le_trans (by decide) hRm.1, Nat.le_trans (by decide) hRm.2⟩) (g_30 n S SD) k_Routers rfl rfl (Nat.le_of_ble_eq_true rfl) dX7_tick_46 (fun σ6 _ => ?_)
  refine jj_aload_n C 0 dX7_tick_49 rfl rfl ?_
  refine jj_getr C 0 4 in_Mesh (g_0 n S SD) k_Mesh (by decide) fl_Mesh_46 rfl dX7_tick_50 ?_
  refine jj_callVv C (As := []) (rest := []) (fun z hz => c_Routers_routeAll hz) (q_Mesh_159 C.2.2.2.2.1 (rm := { frames := 2, cells := 0, slots := 0, locals := 80 }) rfl rfl ⟨Nat.le_trans (by decide) hRm.1, Nat.le_trans (by decide) hRm.2⟩) (g_30 n S SD) k_Routers rfl rfl (Nat.le_of_ble_eq_true rfl) dX7_tick_53 (fun σ7 _ => ?_)
  exact jj_vret C hr hlocks dX7_tick_56

set_option maxHeartbeats 4000000 in
set_option maxRecDepth 100000 in
theorem l_Mesh_run_25 {p : Program} {l : Launch} {e : Env} {R : Room} {s : State} {m : MethodId} {args : Array Value} {below : List Frame} {meth : Method} {c : Code} {D : va_G} {A : Nat → Prop} {ad : Nat → Nat} {cA : FieldType → ClassId} {n S SD F : Nat} (C : jj_C p R s m args c D vwCl A ad cA (gc n S SD) 4 0 0 cX7_run RX7 jw_t) (hr : meth.sig.returnType = (some .int)) (hlocks : meth.locks = false) (hRm : 5 ≤ R.frames ∧ 200 ≤ R.locals) {K : jj_S → Int32 → Int32 → Int32 → Option (Int32 × jj_S)} (hK : ∀ (σ : jj_S) (x1 x2 x3 : Int32), jj_J p l e R s m args below meth c D vwCl A ad cA (gc n S SD) 4 0 0 (jj_Qi below D vwCl A ad cA (gc n S SD) args s 0 0) (K σ x1 x2 x3) σ 40 [(0, .ref (ad 0)), (1, .int x1), (2, .int x2), (3, .int x3)] []) : ∀ (k : Nat) (σ : jj_S) (x1 x2 x3 : Int32), jj_J p l e R s m args below meth c D vwCl A ad cA (gc n S SD) 4 0 0 (jj_Qi below D vwCl A ad cA (gc n S SD) args s 0 0) (jj_lp3 (b_Mesh_run_25 n S SD F K) k σ x1 x2 x3) σ 25 [(0, .ref (ad 0)), (1, .int x1), (2, .int x2), (3, .int x3)] [] := by
  refine jj_loop3 (T := fun o σ x1 x2 x3 => jj_J p l e R s m args below meth c D vwCl A ad cA (gc n S SD) 4 0 0 (jj_Qi below D vwCl A ad cA (gc n S SD) args s 0 0) o σ 25 [(0, .ref (ad 0)), (1, .int x1), (2, .int x2), (3, .int x3)] []) (fun _ _ _ _ _ h => by cases h) ?_
  intro rec ih σ x1 x2 x3
  unfold b_Mesh_run_25
  refine jj_iload_n C 3 dX7_run_25 rfl rfl ?_
  refine jj_iload_n C 1 dX7_run_26 rfl rfl ?_
  refine jj_icmp_ge C (tgt := 40) dX7_run_27 (by decide) (fun _ => ?_) (fun _ => ?_)
  · refine jj_sub [0, 1, 2, 3] rfl ?_
    exact hK σ x1 x2 x3
  · refine jj_aload_n C 0 dX7_run_30 rfl rfl ?_
    refine jj_callVv C (As := []) (rest := []) (fun z hz => c_Mesh_tick hz) (q_Mesh_93 C.2.2.2.2.1 (rm := { frames := 4, cells := 0, slots := 0, locals := 160 }) rfl rfl ⟨Nat.le_trans (by decide) hRm.1, Nat.le_trans (by decide) hRm.2⟩) (g_0 n S SD) k_Mesh rfl rfl (Nat.le_of_ble_eq_true rfl) dX7_run_31 (fun σ2 _ => ?_)
    refine jj_iinc C (v := x3 + (1 : Int32)) [(3, .int (x3 + (1 : Int32))), (0, .ref (ad 0)), (1, .int x1), (2, .int x2)] 3 dX7_run_34 rfl rfl (by decide) rfl ?_
    refine jj_goto C (tgt := 25) dX7_run_37 (by decide) ?_
    refine jj_sub [1, 2, 3, 0] rfl ?_
    exact ih σ2 x1 x2 (x3 + (1 : Int32))

set_option maxHeartbeats 4000000 in
set_option maxRecDepth 100000 in
theorem c_Mesh_run {l : Launch} {D : va_G} {ad : Nat → Nat} {cA : FieldType → ClassId} {n S SD F : Nat} {σ : jj_S} {a1 : Int32} {z : (Int32 × jj_S)} (ho : f_Mesh_run n S SD F σ a1 = some z) : jj_Mi l yX7_run (Cond.code yX7_run cX7_run 4 (some .int) :: jw_t) { frames := 5, cells := 0, slots := 0, locals := 200 } D vwCl ad cA (gc n S SD) [.ref (ad 0), .int a1] σ z := by
  refine jj_ofi (cc := cX7_run) (nL := 4) (ret := (some .int)) rfl ho (Nat.le_of_ble_eq_true rfl) ?_
  intro p e s m below meth c C hr hlocks
  generalize hA : va_A (jj_w ad cA (gc n S SD) σ) s.heap.size = A at C ⊢
  have hRm : 5 ≤ (headSpec (Cond.code yX7_run cX7_run 4 (some .int) :: jw_t) { frames := 5, cells := 0, slots := 0, locals := 200 }).room.frames ∧ 200 ≤ (headSpec (Cond.code yX7_run cX7_run 4 (some .int) :: jw_t) { frames := 5, cells := 0, slots := 0, locals := 200 }).room.locals := ⟨Nat.le_refl _, Nat.le_refl _⟩
  generalize (headSpec (Cond.code yX7_run cX7_run 4 (some .int) :: jw_t) { frames := 5, cells := 0, slots := 0, locals := 200 }).room = R at C hRm ⊢
  generalize List.toArray ([.ref (ad 0), .int a1] : List Value) = args at C ⊢
  refine jj_sub (lv' := [(0, .ref (ad 0)), (1, .int a1)]) [0, 1] rfl ?_
  unfold f_Mesh_run
  refine jj_iload_n C 1 dX7_run_0 rfl rfl ?_
  refine jj_if_lt C (tgt := 10) dX7_run_1 (by decide) (fun _ => ?_) (fun _ => ?_)
  · refine jj_iconst C (v := (-1 : Int32)) dX7_run_10 (by decide) ?_
    exact jj_iret C hr hlocks dX7_run_11
  · refine jj_iload_n C 1 dX7_run_4 rfl rfl ?_
    refine jj_bipush C (v := (60 : Int32)) dX7_run_5 (by decide) ?_
    refine jj_icmp_le C (tgt := 12) dX7_run_7 (by decide) (fun _ => ?_) (fun _ => ?_)
    · refine jj_aload_n C 0 dX7_run_12 rfl rfl ?_
      refine jj_getr C 0 3 in_Mesh (g_0 n S SD) k_Mesh (by decide) fl_Mesh_39 rfl dX7_run_13 ?_
      refine jj_getr C 16 5 in_Ifs (g_16 n S SD) k_Ifs (by decide) fl_Mesh_84 rfl dX7_run_16 ?_
      refine jj_geti C 17 2 in_Complete (g_17 n S SD) k_Complete (by decide) fl_Mesh_88 rfl dX7_run_19 ?_
      refine jj_ltn (fun v2_1 => ?_)
      refine jj_istore_n C [(2, .int v2_1), (0, .ref (ad 0)), (1, .int a1)] dX7_run_22 rfl (by decide) rfl ?_
      refine jj_iconst C (v := (0 : Int32)) dX7_run_23 (by decide) ?_
      refine jj_istore_n C [(3, .int (0 : Int32)), (2, .int v2_1), (0, .ref (ad 0)), (1, .int a1)] dX7_run_24 rfl (by decide) rfl ?_
      refine jj_sub [2, 3, 1, 0] rfl ?_
      refine l_Mesh_run_25 C hr hlocks hRm (fun σ3 x1_4 x2_5 x3_6 => ?_) F σ a1 v2_1 (0 : Int32)
      refine jj_aload_n C 0 dX7_run_40 rfl rfl ?_
      refine jj_getr C 0 3 in_Mesh (g_0 n S SD) k_Mesh (by decide) fl_Mesh_39 rfl dX7_run_41 ?_
      refine jj_getr C 16 5 in_Ifs (g_16 n S SD) k_Ifs (by decide) fl_Mesh_84 rfl dX7_run_44 ?_
      refine jj_geti C 17 2 in_Complete (g_17 n S SD) k_Complete (by decide) fl_Mesh_88 rfl dX7_run_47 ?_
      refine jj_iload_n C 2 dX7_run_50 rfl rfl ?_
      refine jj_isub C dX7_run_51 ?_
      exact jj_iret C hr hlocks dX7_run_52
    · refine jj_iconst C (v := (-1 : Int32)) dX7_run_10 (by decide) ?_
      exact jj_iret C hr hlocks dX7_run_11

set_option maxHeartbeats 4000000 in
set_option maxRecDepth 100000 in
theorem c_Mesh_ticks {l : Launch} {D : va_G} {ad : Nat → Nat} {cA : FieldType → ClassId} {n S SD F : Nat} {σ : jj_S} {z : (Int32 × jj_S)} (ho : f_Mesh_ticks n S SD F σ = some z) : jj_Mi l yX7_ticks (Cond.code yX7_ticks cX7_ticks 1 (some .int) :: jw_t) { frames := 0, cells := 0, slots := 0, locals := 0 } D vwCl ad cA (gc n S SD) [.ref (ad 0)] σ z := by
  refine jj_ofi (cc := cX7_ticks) (nL := 1) (ret := (some .int)) rfl ho (Nat.le_of_ble_eq_true rfl) ?_
  intro p e s m below meth c C hr hlocks
  generalize hA : va_A (jj_w ad cA (gc n S SD) σ) s.heap.size = A at C ⊢
  have hRm : 0 ≤ (headSpec (Cond.code yX7_ticks cX7_ticks 1 (some .int) :: jw_t) { frames := 0, cells := 0, slots := 0, locals := 0 }).room.frames ∧ 0 ≤ (headSpec (Cond.code yX7_ticks cX7_ticks 1 (some .int) :: jw_t) { frames := 0, cells := 0, slots := 0, locals := 0 }).room.locals := ⟨Nat.le_refl _, Nat.le_refl _⟩
  generalize (headSpec (Cond.code yX7_ticks cX7_ticks 1 (some .int) :: jw_t) { frames := 0, cells := 0, slots := 0, locals := 0 }).room = R at C hRm ⊢
  generalize List.toArray ([.ref (ad 0)] : List Value) = args at C ⊢
  refine jj_sub (lv' := [(0, .ref (ad 0))]) [0] rfl ?_
  unfold f_Mesh_ticks
  refine jj_aload_n C 0 dX7_ticks_0 rfl rfl ?_
  refine jj_geti C 0 5 in_Mesh (g_0 n S SD) k_Mesh (by decide) fl_Mesh_96 rfl dX7_ticks_1 ?_
  exact jj_iret C hr hlocks dX7_ticks_4

set_option maxHeartbeats 4000000 in
set_option maxRecDepth 100000 in
theorem c_Mesh_replies {l : Launch} {D : va_G} {ad : Nat → Nat} {cA : FieldType → ClassId} {n S SD F : Nat} {σ : jj_S} {z : (Int32 × jj_S)} (ho : f_Mesh_replies n S SD F σ = some z) : jj_Mi l yX7_replies (Cond.code yX7_replies cX7_replies 1 (some .int) :: jw_t) { frames := 0, cells := 0, slots := 0, locals := 0 } D vwCl ad cA (gc n S SD) [.ref (ad 0)] σ z := by
  refine jj_ofi (cc := cX7_replies) (nL := 1) (ret := (some .int)) rfl ho (Nat.le_of_ble_eq_true rfl) ?_
  intro p e s m below meth c C hr hlocks
  generalize hA : va_A (jj_w ad cA (gc n S SD) σ) s.heap.size = A at C ⊢
  have hRm : 0 ≤ (headSpec (Cond.code yX7_replies cX7_replies 1 (some .int) :: jw_t) { frames := 0, cells := 0, slots := 0, locals := 0 }).room.frames ∧ 0 ≤ (headSpec (Cond.code yX7_replies cX7_replies 1 (some .int) :: jw_t) { frames := 0, cells := 0, slots := 0, locals := 0 }).room.locals := ⟨Nat.le_refl _, Nat.le_refl _⟩
  generalize (headSpec (Cond.code yX7_replies cX7_replies 1 (some .int) :: jw_t) { frames := 0, cells := 0, slots := 0, locals := 0 }).room = R at C hRm ⊢
  generalize List.toArray ([.ref (ad 0)] : List Value) = args at C ⊢
  refine jj_sub (lv' := [(0, .ref (ad 0))]) [0] rfl ?_
  unfold f_Mesh_replies
  refine jj_aload_n C 0 dX7_replies_0 rfl rfl ?_
  refine jj_getr C 0 3 in_Mesh (g_0 n S SD) k_Mesh (by decide) fl_Mesh_39 rfl dX7_replies_1 ?_
  refine jj_getr C 16 5 in_Ifs (g_16 n S SD) k_Ifs (by decide) fl_Mesh_84 rfl dX7_replies_4 ?_
  refine jj_geti C 17 2 in_Complete (g_17 n S SD) k_Complete (by decide) fl_Mesh_88 rfl dX7_replies_7 ?_
  exact jj_iret C hr hlocks dX7_replies_10

set_option maxHeartbeats 4000000 in
set_option maxRecDepth 100000 in
theorem c_Mesh_reply {l : Launch} {D : va_G} {ad : Nat → Nat} {cA : FieldType → ClassId} {n S SD F : Nat} {σ : jj_S} {a1 a2 : Int32} {z : (Int32 × jj_S)} (ho : f_Mesh_reply n S SD F σ a1 a2 = some z) : jj_Mi l yX7_reply (Cond.code yX7_reply cX7_reply 4 (some .int) :: jw_t) { frames := 0, cells := 0, slots := 0, locals := 0 } D vwCl ad cA (gc n S SD) [.ref (ad 0), .int a1, .int a2] σ z := by
  refine jj_ofi (cc := cX7_reply) (nL := 4) (ret := (some .int)) rfl ho (Nat.le_of_ble_eq_true rfl) ?_
  intro p e s m below meth c C hr hlocks
  generalize hA : va_A (jj_w ad cA (gc n S SD) σ) s.heap.size = A at C ⊢
  have hRm : 0 ≤ (headSpec (Cond.code yX7_reply cX7_reply 4 (some .int) :: jw_t) { frames := 0, cells := 0, slots := 0, locals := 0 }).room.frames ∧ 0 ≤ (headSpec (Cond.code yX7_reply cX7_reply 4 (some .int) :: jw_t) { frames := 0, cells := 0, slots := 0, locals := 0 }).room.locals := ⟨Nat.le_refl _, Nat.le_refl _⟩
  generalize (headSpec (Cond.code yX7_reply cX7_reply 4 (some .int) :: jw_t) { frames := 0, cells := 0, slots := 0, locals := 0 }).room = R at C hRm ⊢
  generalize List.toArray ([.ref (ad 0), .int a1, .int a2] : List Value) = args at C ⊢
  refine jj_sub (lv' := [(0, .ref (ad 0)), (1, .int a1), (2, .int a2)]) [0, 1, 2] rfl ?_
  unfold f_Mesh_reply
  refine jj_aload_n C 0 dX7_reply_0 rfl rfl ?_
  refine jj_getr C 0 3 in_Mesh (g_0 n S SD) k_Mesh (by decide) fl_Mesh_39 rfl dX7_reply_1 ?_
  refine jj_getr C 16 5 in_Ifs (g_16 n S SD) k_Ifs (by decide) fl_Mesh_84 rfl dX7_reply_4 ?_
  refine jj_astore_n C [(3, .ref (ad 17)), (0, .ref (ad 0)), (1, .int a1), (2, .int a2)] dX7_reply_7 rfl (by decide) rfl ?_
  refine jj_iload_n C 2 dX7_reply_8 rfl rfl ?_
  refine jj_if_lt C (tgt := 20) dX7_reply_9 (by decide) (fun _ => ?_) (fun _ => ?_)
  · refine jj_iconst C (v := (-1 : Int32)) dX7_reply_20 (by decide) ?_
    exact jj_iret C hr hlocks dX7_reply_21
  · refine jj_iload_n C 2 dX7_reply_12 rfl rfl ?_
    refine jj_aload_n C 0 dX7_reply_13 rfl rfl ?_
    refine jj_geti C 17 2 in_Complete (g_17 n S SD) k_Complete (by decide) fl_Mesh_88 rfl dX7_reply_14 ?_
    refine jj_icmp_lt C (tgt := 22) dX7_reply_17 (by decide) (fun _ => ?_) (fun _ => ?_)
    · refine jj_iload_n C 3 dX7_reply_22 rfl rfl ?_
      refine jj_by (fun hx => ?_) (fun hx0 => ?_)
      · refine jj_tsi C (v := (0 : Int32)) (tgt := 48) dX7_reply_23 hx (by decide) (by decide) rfl (by decide) ?_
        refine jj_aload_n C 0 dX7_reply_48 rfl rfl ?_
        refine jj_getr C 17 0 in_Complete (g_17 n S SD) k_Complete (by decide) fl_Mesh_99 rfl dX7_reply_49 ?_
        refine jj_iload_n C 2 dX7_reply_52 rfl rfl ?_
        refine jj_iald C 18 (g_18 n S SD) dX7_reply_53 ?_
        exact jj_iret C hr hlocks dX7_reply_54
      refine jj_by (fun hx => ?_) (fun hx1 => ?_)
      · refine jj_tsi C (v := (1 : Int32)) (tgt := 55) dX7_reply_23 hx (by decide) (by decide) rfl (by decide) ?_
        refine jj_aload_n C 1 dX7_reply_55 rfl rfl ?_
        refine jj_getr C 0 2 in_Mesh (g_0 n S SD) k_Mesh (by decide) fl_Mesh_30 rfl dX7_reply_56 ?_
        refine jj_getr C 10 5 in_Packets (g_10 n S SD) k_Packets (by decide) fl_Mesh_103 rfl dX7_reply_59 ?_
        refine jj_aload_n C 0 dX7_reply_62 rfl rfl ?_
        refine jj_getr C 17 0 in_Complete (g_17 n S SD) k_Complete (by decide) fl_Mesh_99 rfl dX7_reply_63 ?_
        refine jj_iload_n C 2 dX7_reply_66 rfl rfl ?_
        refine jj_iald C 18 (g_18 n S SD) dX7_reply_67 ?_
        refine jj_iald C 15 (g_15 n S SD) dX7_reply_68 ?_
        exact jj_iret C hr hlocks dX7_reply_69
      refine jj_by (fun hx => ?_) (fun hx2 => ?_)
      · refine jj_tsi C (v := (2 : Int32)) (tgt := 70) dX7_reply_23 hx (by decide) (by decide) rfl (by decide) ?_
        refine jj_aload_n C 0 dX7_reply_70 rfl rfl ?_
        refine jj_getr C 17 1 in_Complete (g_17 n S SD) k_Complete (by decide) fl_Mesh_106 rfl dX7_reply_71 ?_
        refine jj_iload_n C 2 dX7_reply_74 rfl rfl ?_
        refine jj_iald C 19 (g_19 n S SD) dX7_reply_75 ?_
        exact jj_iret C hr hlocks dX7_reply_76
      refine jj_tso C (tgt := 77) dX7_reply_23 (fun j h1 h2 e1 => by rcases (show j = 0 ∨ j = 1 ∨ j = 2 by omega) with rfl | rfl | rfl <;> first | exact hx0 (Int32.toInt_inj.mp e1) | exact hx1 (Int32.toInt_inj.mp e1) | exact hx2 (Int32.toInt_inj.mp e1)) (by decide) ?_
      refine jj_iconst C (v := (-1 : Int32)) dX7_reply_77 (by decide) ?_
      exact jj_iret C hr hlocks dX7_reply_78
    · refine jj_iconst C (v := (-1 : Int32)) dX7_reply_20 (by decide) ?_
      exact jj_iret C hr hlocks dX7_reply_21
