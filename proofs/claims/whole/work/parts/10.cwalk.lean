set_option maxHeartbeats 4000000 in
set_option maxRecDepth 100000 in
theorem c_Mesh_nodes {l : Launch} {D : va_G} {ad : Nat → Nat} {cA : FieldType → ClassId} {n S SD F : Nat} {σ : jj_S} {z : (Int32 × jj_S)} (ho : f_Mesh_nodes n S SD F σ = some z) : jj_Mi l yX7_nodes (Cond.code yX7_nodes cX7_nodes 1 (some .int) :: jw_t) { frames := 0, cells := 0, slots := 0, locals := 0 } D vwCl ad cA (gc n S SD) [.ref (ad 0)] σ z := by
  refine jj_ofi (cc := cX7_nodes) (nL := 1) (ret := (some .int)) rfl ho (Nat.le_of_ble_eq_true rfl) ?_
  intro p e s m below meth c C hr hlocks
  generalize hA : va_A (jj_w ad cA (gc n S SD) σ) s.heap.size = A at C ⊢
  have hRm : 0 ≤ (headSpec (Cond.code yX7_nodes cX7_nodes 1 (some .int) :: jw_t) { frames := 0, cells := 0, slots := 0, locals := 0 }).room.frames ∧ 0 ≤ (headSpec (Cond.code yX7_nodes cX7_nodes 1 (some .int) :: jw_t) { frames := 0, cells := 0, slots := 0, locals := 0 }).room.locals := ⟨Nat.le_refl _, Nat.le_refl _⟩
  generalize (headSpec (Cond.code yX7_nodes cX7_nodes 1 (some .int) :: jw_t) { frames := 0, cells := 0, slots := 0, locals := 0 }).room = R at C hRm ⊢
  generalize List.toArray ([.ref (ad 0)] : List Value) = args at C ⊢
  refine jj_sub (lv' := [(0, .ref (ad 0))]) [0] rfl ?_
  unfold f_Mesh_nodes
  refine jj_aload_n C 0 dX7_nodes_0 rfl rfl ?_
  refine jj_getr C 0 0 in_Mesh (g_0 n S SD) k_Mesh (by decide) fl_Mesh_12 rfl dX7_nodes_1 ?_
  refine jj_geti C 1 5 in_Grid (g_1 n S SD) k_Grid (by decide) fl_Mesh_50 rfl dX7_nodes_4 ?_
  exact jj_iret C hr hlocks dX7_nodes_7

set_option maxHeartbeats 4000000 in
set_option maxRecDepth 100000 in
theorem c_Grid_hasNode {l : Launch} {D : va_G} {ad : Nat → Nat} {cA : FieldType → ClassId} {n S SD F : Nat} {σ : jj_S} {a1 : Int32} {z : (Int32 × jj_S)} (ho : f_Grid_hasNode n S SD F σ a1 = some z) : jj_Mi l yX1_hasNode (Cond.code yX1_hasNode cX1_hasNode 2 (some .boolean) :: jw_t) { frames := 0, cells := 0, slots := 0, locals := 0 } D vwCl ad cA (gc n S SD) [.ref (ad 1), .int a1] σ z := by
  refine jj_ofi (cc := cX1_hasNode) (nL := 2) (ret := (some .boolean)) rfl ho (Nat.le_of_ble_eq_true rfl) ?_
  intro p e s m below meth c C hr hlocks
  generalize hA : va_A (jj_w ad cA (gc n S SD) σ) s.heap.size = A at C ⊢
  have hRm : 0 ≤ (headSpec (Cond.code yX1_hasNode cX1_hasNode 2 (some .boolean) :: jw_t) { frames := 0, cells := 0, slots := 0, locals := 0 }).room.frames ∧ 0 ≤ (headSpec (Cond.code yX1_hasNode cX1_hasNode 2 (some .boolean) :: jw_t) { frames := 0, cells := 0, slots := 0, locals := 0 }).room.locals := ⟨Nat.le_refl _, Nat.le_refl _⟩
  generalize (headSpec (Cond.code yX1_hasNode cX1_hasNode 2 (some .boolean) :: jw_t) { frames := 0, cells := 0, slots := 0, locals := 0 }).room = R at C hRm ⊢
  generalize List.toArray ([.ref (ad 1), .int a1] : List Value) = args at C ⊢
  refine jj_sub (lv' := [(0, .ref (ad 1)), (1, .int a1)]) [0, 1] rfl ?_
  unfold f_Grid_hasNode
  refine jj_iload_n C 1 dX1_hasNode_0 rfl rfl ?_
  refine jj_if_lt C (tgt := 16) dX1_hasNode_1 (by decide) (fun _ => ?_) (fun _ => ?_)
  · refine jj_iconst C (v := (0 : Int32)) dX1_hasNode_16 (by decide) ?_
    exact jj_zret C hr hlocks (by first | rfl | decide +kernel) dX1_hasNode_17
  · refine jj_iload_n C 1 dX1_hasNode_4 rfl rfl ?_
    refine jj_aload_n C 0 dX1_hasNode_5 rfl rfl ?_
    refine jj_geti C 1 5 in_Grid (g_1 n S SD) k_Grid (by decide) fl_Grid_31 rfl dX1_hasNode_6 ?_
    refine jj_icmp_ge C (tgt := 16) dX1_hasNode_9 (by decide) (fun _ => ?_) (fun _ => ?_)
    · refine jj_iconst C (v := (0 : Int32)) dX1_hasNode_16 (by decide) ?_
      exact jj_zret C hr hlocks (by first | rfl | decide +kernel) dX1_hasNode_17
    · refine jj_iconst C (v := (1 : Int32)) dX1_hasNode_12 (by decide) ?_
      refine jj_goto C (tgt := 17) dX1_hasNode_13 (by decide) ?_
      exact jj_zret C hr hlocks (by first | rfl | decide +kernel) dX1_hasNode_17

set_option maxHeartbeats 4000000 in
set_option maxRecDepth 100000 in
theorem c_Mesh_isWord {l : Launch} {D : va_G} {ad : Nat → Nat} {cA : FieldType → ClassId} {n S SD F : Nat} {σ : jj_S} {a0 : Int32} {z : (Int32 × jj_S)} (ho : f_Mesh_isWord n S SD F σ a0 = some z) : jj_Mi l yX7_isWord (Cond.code yX7_isWord cX7_isWord 1 (some .boolean) :: jw_t) { frames := 0, cells := 0, slots := 0, locals := 0 } D vwCl ad cA (gc n S SD) [.int a0] σ z := by
  refine jj_ofi (cc := cX7_isWord) (nL := 1) (ret := (some .boolean)) rfl ho (Nat.le_of_ble_eq_true rfl) ?_
  intro p e s m below meth c C hr hlocks
  generalize hA : va_A (jj_w ad cA (gc n S SD) σ) s.heap.size = A at C ⊢
  have hRm : 0 ≤ (headSpec (Cond.code yX7_isWord cX7_isWord 1 (some .boolean) :: jw_t) { frames := 0, cells := 0, slots := 0, locals := 0 }).room.frames ∧ 0 ≤ (headSpec (Cond.code yX7_isWord cX7_isWord 1 (some .boolean) :: jw_t) { frames := 0, cells := 0, slots := 0, locals := 0 }).room.locals := ⟨Nat.le_refl _, Nat.le_refl _⟩
  generalize (headSpec (Cond.code yX7_isWord cX7_isWord 1 (some .boolean) :: jw_t) { frames := 0, cells := 0, slots := 0, locals := 0 }).room = R at C hRm ⊢
  generalize List.toArray ([.int a0] : List Value) = args at C ⊢
  refine jj_sub (lv' := [(0, .int a0)]) [0] rfl ?_
  unfold f_Mesh_isWord
  refine jj_iload_n C 0 dX7_isWord_0 rfl rfl ?_
  refine jj_if_lt C (tgt := 14) dX7_isWord_1 (by decide) (fun _ => ?_) (fun _ => ?_)
  · refine jj_iconst C (v := (0 : Int32)) dX7_isWord_14 (by decide) ?_
    exact jj_zret C hr hlocks (by first | rfl | decide +kernel) dX7_isWord_15
  · refine jj_iload_n C 0 dX7_isWord_4 rfl rfl ?_
    refine jj_bipush C (v := (8 : Int32)) dX7_isWord_5 (by decide) ?_
    refine jj_icmp_ge C (tgt := 14) dX7_isWord_7 (by decide) (fun _ => ?_) (fun _ => ?_)
    · refine jj_iconst C (v := (0 : Int32)) dX7_isWord_14 (by decide) ?_
      exact jj_zret C hr hlocks (by first | rfl | decide +kernel) dX7_isWord_15
    · refine jj_iconst C (v := (1 : Int32)) dX7_isWord_10 (by decide) ?_
      refine jj_goto C (tgt := 15) dX7_isWord_11 (by decide) ?_
      exact jj_zret C hr hlocks (by first | rfl | decide +kernel) dX7_isWord_15

set_option maxHeartbeats 4000000 in
set_option maxRecDepth 100000 in
theorem c_Queues_isFullq {l : Launch} {D : va_G} {ad : Nat → Nat} {cA : FieldType → ClassId} {n S SD F : Nat} {σ : jj_S} {a1 : Int32} {z : (Int32 × jj_S)} (ho : f_Queues_isFullq n S SD F σ a1 = some z) : jj_Mi l yX5_isFull (Cond.code yX5_isFull cX5_isFull 2 (some .boolean) :: jw_t) { frames := 0, cells := 0, slots := 0, locals := 0 } D vwCl ad cA (gc n S SD) [.ref (ad 20), .int a1] σ z := by
  refine jj_ofi (cc := cX5_isFull) (nL := 2) (ret := (some .boolean)) rfl ho (Nat.le_of_ble_eq_true rfl) ?_
  intro p e s m below meth c C hr hlocks
  generalize hA : va_A (jj_w ad cA (gc n S SD) σ) s.heap.size = A at C ⊢
  have hRm : 0 ≤ (headSpec (Cond.code yX5_isFull cX5_isFull 2 (some .boolean) :: jw_t) { frames := 0, cells := 0, slots := 0, locals := 0 }).room.frames ∧ 0 ≤ (headSpec (Cond.code yX5_isFull cX5_isFull 2 (some .boolean) :: jw_t) { frames := 0, cells := 0, slots := 0, locals := 0 }).room.locals := ⟨Nat.le_refl _, Nat.le_refl _⟩
  generalize (headSpec (Cond.code yX5_isFull cX5_isFull 2 (some .boolean) :: jw_t) { frames := 0, cells := 0, slots := 0, locals := 0 }).room = R at C hRm ⊢
  generalize List.toArray ([.ref (ad 20), .int a1] : List Value) = args at C ⊢
  refine jj_sub (lv' := [(0, .ref (ad 20)), (1, .int a1)]) [0, 1] rfl ?_
  unfold f_Queues_isFullq
  refine jj_aload_n C 0 dX5_isFull_0 rfl rfl ?_
  refine jj_getr C 20 3 in_Queues (g_20 n S SD) k_Queues (by decide) fl_Queues_21 rfl dX5_isFull_1 ?_
  refine jj_iload_n C 1 dX5_isFull_4 rfl rfl ?_
  refine jj_iald C 22 (g_22 n S SD) dX5_isFull_5 ?_
  refine jj_aload_n C 0 dX5_isFull_6 rfl rfl ?_
  refine jj_geti C 20 1 in_Queues (g_20 n S SD) k_Queues (by decide) fl_Queues_13 rfl dX5_isFull_7 ?_
  refine jj_icmp_lt C (tgt := 17) dX5_isFull_10 (by decide) (fun _ => ?_) (fun _ => ?_)
  · refine jj_iconst C (v := (0 : Int32)) dX5_isFull_17 (by decide) ?_
    exact jj_zret C hr hlocks (by first | rfl | decide +kernel) dX5_isFull_18
  · refine jj_iconst C (v := (1 : Int32)) dX5_isFull_13 (by decide) ?_
    refine jj_goto C (tgt := 18) dX5_isFull_14 (by decide) ?_
    exact jj_zret C hr hlocks (by first | rfl | decide +kernel) dX5_isFull_18

set_option maxHeartbeats 4000000 in
set_option maxRecDepth 100000 in
theorem c_Packets_isFull {l : Launch} {D : va_G} {ad : Nat → Nat} {cA : FieldType → ClassId} {n S SD F : Nat} {σ : jj_S} {z : (Int32 × jj_S)} (ho : f_Packets_isFull n S SD F σ = some z) : jj_Mi l yX4_isFull (Cond.code yX4_isFull cX4_isFull 1 (some .boolean) :: jw_t) { frames := 0, cells := 0, slots := 0, locals := 0 } D vwCl ad cA (gc n S SD) [.ref (ad 10)] σ z := by
  refine jj_ofi (cc := cX4_isFull) (nL := 1) (ret := (some .boolean)) rfl ho (Nat.le_of_ble_eq_true rfl) ?_
  intro p e s m below meth c C hr hlocks
  generalize hA : va_A (jj_w ad cA (gc n S SD) σ) s.heap.size = A at C ⊢
  have hRm : 0 ≤ (headSpec (Cond.code yX4_isFull cX4_isFull 1 (some .boolean) :: jw_t) { frames := 0, cells := 0, slots := 0, locals := 0 }).room.frames ∧ 0 ≤ (headSpec (Cond.code yX4_isFull cX4_isFull 1 (some .boolean) :: jw_t) { frames := 0, cells := 0, slots := 0, locals := 0 }).room.locals := ⟨Nat.le_refl _, Nat.le_refl _⟩
  generalize (headSpec (Cond.code yX4_isFull cX4_isFull 1 (some .boolean) :: jw_t) { frames := 0, cells := 0, slots := 0, locals := 0 }).room = R at C hRm ⊢
  generalize List.toArray ([.ref (ad 10)] : List Value) = args at C ⊢
  refine jj_sub (lv' := [(0, .ref (ad 10))]) [0] rfl ?_
  unfold f_Packets_isFull
  refine jj_aload_n C 0 dX4_isFull_0 rfl rfl ?_
  refine jj_geti C 10 6 in_Packets (g_10 n S SD) k_Packets (by decide) fl_Packets_32 rfl dX4_isFull_1 ?_
  refine jj_sipush C (v := (400 : Int32)) dX4_isFull_4 (by decide) ?_
  refine jj_icmp_lt C (tgt := 14) dX4_isFull_7 (by decide) (fun _ => ?_) (fun _ => ?_)
  · refine jj_iconst C (v := (0 : Int32)) dX4_isFull_14 (by decide) ?_
    exact jj_zret C hr hlocks (by first | rfl | decide +kernel) dX4_isFull_15
  · refine jj_iconst C (v := (1 : Int32)) dX4_isFull_10 (by decide) ?_
    refine jj_goto C (tgt := 15) dX4_isFull_11 (by decide) ?_
    exact jj_zret C hr hlocks (by first | rfl | decide +kernel) dX4_isFull_15

set_option maxHeartbeats 4000000 in
set_option maxRecDepth 100000 in
theorem c_Packets_add {l : Launch} {D : va_G} {ad : Nat → Nat} {cA : FieldType → ClassId} {n S SD F : Nat} {σ : jj_S} {a1 a2 a3 a4 a5 : Int32} {z : (Int32 × jj_S)} (ho : f_Packets_add n S SD F σ a1 a2 a3 a4 a5 = some z) : jj_Mi l yX4_add (Cond.code yX4_add cX4_add 7 (some .int) :: jw_t) { frames := 0, cells := 0, slots := 0, locals := 0 } D vwCl ad cA (gc n S SD) [.ref (ad 10), .int a1, .int a2, .int a3, .int a4, .int a5] σ z := by
  refine jj_ofi (cc := cX4_add) (nL := 7) (ret := (some .int)) rfl ho (Nat.le_of_ble_eq_true rfl) ?_
  intro p e s m below meth c C hr hlocks
  generalize hA : va_A (jj_w ad cA (gc n S SD) σ) s.heap.size = A at C ⊢
  have hRm : 0 ≤ (headSpec (Cond.code yX4_add cX4_add 7 (some .int) :: jw_t) { frames := 0, cells := 0, slots := 0, locals := 0 }).room.frames ∧ 0 ≤ (headSpec (Cond.code yX4_add cX4_add 7 (some .int) :: jw_t) { frames := 0, cells := 0, slots := 0, locals := 0 }).room.locals := ⟨Nat.le_refl _, Nat.le_refl _⟩
  generalize (headSpec (Cond.code yX4_add cX4_add 7 (some .int) :: jw_t) { frames := 0, cells := 0, slots := 0, locals := 0 }).room = R at C hRm ⊢
  generalize List.toArray ([.ref (ad 10), .int a1, .int a2, .int a3, .int a4, .int a5] : List Value) = args at C ⊢
  refine jj_sub (lv' := [(0, .ref (ad 10)), (1, .int a1), (2, .int a2), (3, .int a3), (4, .int a4), (5, .int a5)]) [0, 1, 2, 3, 4, 5] rfl ?_
  unfold f_Packets_add
  refine jj_aload_n C 0 dX4_add_0 rfl rfl ?_
  refine jj_geti C 10 6 in_Packets (g_10 n S SD) k_Packets (by decide) fl_Packets_32 rfl dX4_add_1 ?_
  refine jj_ltn (fun v6_1 => ?_)
  refine jj_istore C [(6, .int v6_1), (0, .ref (ad 10)), (1, .int a1), (2, .int a2), (3, .int a3), (4, .int a4), (5, .int a5)] dX4_add_4 (by decide) rfl ?_
  refine jj_aload_n C 1 dX4_add_6 rfl rfl ?_
  refine jj_getr C 10 1 in_Packets (g_10 n S SD) k_Packets (by decide) fl_Packets_9 rfl dX4_add_7 ?_
  refine jj_iload C 0 dX4_add_10 rfl ?_
  refine jj_iload_n C 2 dX4_add_12 rfl rfl ?_
  refine jj_iast C 11 (g_11 n S SD) dX4_add_13 ?_
  refine jj_stn (fun σ2 => ?_)
  refine jj_aload_n C 1 dX4_add_14 rfl rfl ?_
  refine jj_getr C 10 2 in_Packets (g_10 n S SD) k_Packets (by decide) fl_Packets_15 rfl dX4_add_15 ?_
  refine jj_iload C 0 dX4_add_18 rfl ?_
  refine jj_iload_n C 3 dX4_add_20 rfl rfl ?_
  refine jj_iast C 12 (g_12 n S SD) dX4_add_21 ?_
  refine jj_stn (fun σ3 => ?_)
  refine jj_aload_n C 1 dX4_add_22 rfl rfl ?_
  refine jj_getr C 10 3 in_Packets (g_10 n S SD) k_Packets (by decide) fl_Packets_18 rfl dX4_add_23 ?_
  refine jj_iload C 0 dX4_add_26 rfl ?_
  refine jj_iload_n C 4 dX4_add_28 rfl rfl ?_
  refine jj_zast C 13 (g_13 n S SD) dX4_add_29 ?_
  refine jj_stn (fun σ4 => ?_)
  refine jj_aload_n C 1 dX4_add_30 rfl rfl ?_
  refine jj_getr C 10 4 in_Packets (g_10 n S SD) k_Packets (by decide) fl_Packets_22 rfl dX4_add_31 ?_
  refine jj_iload C 0 dX4_add_34 rfl ?_
  refine jj_iload C 5 dX4_add_36 rfl ?_
  refine jj_iast C 14 (g_14 n S SD) dX4_add_38 ?_
  refine jj_stn (fun σ5 => ?_)
  refine jj_aload_n C 1 dX4_add_39 rfl rfl ?_
  refine jj_getr C 10 5 in_Packets (g_10 n S SD) k_Packets (by decide) fl_Packets_25 rfl dX4_add_40 ?_
  refine jj_iload C 0 dX4_add_43 rfl ?_
  refine jj_iload C 6 dX4_add_45 rfl ?_
  refine jj_iast C 15 (g_15 n S SD) dX4_add_47 ?_
  refine jj_stn (fun σ6 => ?_)
  refine jj_aload_n C 1 dX4_add_48 rfl rfl ?_
  refine jj_dup C dX4_add_49 rfl ?_
  refine jj_geti C 10 6 in_Packets (g_10 n S SD) k_Packets (by decide) fl_Packets_32 rfl dX4_add_50 ?_
  refine jj_iconst C (v := (1 : Int32)) dX4_add_53 (by decide) ?_
  refine jj_iadd C dX4_add_54 ?_
  refine jj_puti C 10 6 in_Packets (g_10 n S SD) k_Packets (by decide) fl_Packets_32 tyX4 tyX4_ok nmX4 rfl (by decide +kernel) rfl dX4_add_55 ?_
  refine jj_stn (fun σ7 => ?_)
  refine jj_iload C 0 dX4_add_58 rfl ?_
  exact jj_iret C hr hlocks dX4_add_60

set_option maxHeartbeats 4000000 in
set_option maxRecDepth 100000 in
theorem c_Queues_addq {l : Launch} {D : va_G} {ad : Nat → Nat} {cA : FieldType → ClassId} {n S SD F : Nat} {σ : jj_S} {a1 a2 : Int32} {z : jj_S} (ho : f_Queues_addq n S SD F σ a1 a2 = some z) : jj_Mv l yX5_add (Cond.code yX5_add cX5_add 3 none :: jw_t) { frames := 0, cells := 0, slots := 0, locals := 0 } D vwCl ad cA (gc n S SD) [.ref (ad 20), .int a1, .int a2] σ z := by
  refine jj_ofv (cc := cX5_add) (nL := 3) (ret := none) rfl ho (Nat.le_of_ble_eq_true rfl) ?_
  intro p e s m below meth c C hr hlocks
  generalize hA : va_A (jj_w ad cA (gc n S SD) σ) s.heap.size = A at C ⊢
  have hRm : 0 ≤ (headSpec (Cond.code yX5_add cX5_add 3 none :: jw_t) { frames := 0, cells := 0, slots := 0, locals := 0 }).room.frames ∧ 0 ≤ (headSpec (Cond.code yX5_add cX5_add 3 none :: jw_t) { frames := 0, cells := 0, slots := 0, locals := 0 }).room.locals := ⟨Nat.le_refl _, Nat.le_refl _⟩
  generalize (headSpec (Cond.code yX5_add cX5_add 3 none :: jw_t) { frames := 0, cells := 0, slots := 0, locals := 0 }).room = R at C hRm ⊢
  generalize List.toArray ([.ref (ad 20), .int a1, .int a2] : List Value) = args at C ⊢
  refine jj_sub (lv' := [(0, .ref (ad 20)), (1, .int a1), (2, .int a2)]) [0, 1, 2] rfl ?_
  unfold f_Queues_addq
  refine jj_aload_n C 0 dX5_add_0 rfl rfl ?_
  refine jj_getr C 20 2 in_Queues (g_20 n S SD) k_Queues (by decide) fl_Queues_17 rfl dX5_add_1 ?_
  refine jj_iload_n C 1 dX5_add_4 rfl rfl ?_
  refine jj_aload_n C 0 dX5_add_5 rfl rfl ?_
  refine jj_geti C 20 1 in_Queues (g_20 n S SD) k_Queues (by decide) fl_Queues_13 rfl dX5_add_6 ?_
  refine jj_imul C dX5_add_9 ?_
  refine jj_aload_n C 0 dX5_add_10 rfl rfl ?_
  refine jj_getr C 20 3 in_Queues (g_20 n S SD) k_Queues (by decide) fl_Queues_21 rfl dX5_add_11 ?_
  refine jj_iload_n C 1 dX5_add_14 rfl rfl ?_
  refine jj_iald C 22 (g_22 n S SD) dX5_add_15 ?_
  refine jj_iadd C dX5_add_16 ?_
  refine jj_iload_n C 2 dX5_add_17 rfl rfl ?_
  refine jj_iast C 21 (g_21 n S SD) dX5_add_18 ?_
  refine jj_stn (fun σ1 => ?_)
  refine jj_aload_n C 0 dX5_add_19 rfl rfl ?_
  refine jj_getr C 20 3 in_Queues (g_20 n S SD) k_Queues (by decide) fl_Queues_21 rfl dX5_add_20 ?_
  refine jj_iload_n C 1 dX5_add_23 rfl rfl ?_
  refine jj_dup2 C dX5_add_24 rfl rfl ?_
  refine jj_iald C 22 (g_22 n S SD) dX5_add_25 ?_
  refine jj_iconst C (v := (1 : Int32)) dX5_add_26 (by decide) ?_
  refine jj_iadd C dX5_add_27 ?_
  refine jj_iast C 22 (g_22 n S SD) dX5_add_28 ?_
  refine jj_stn (fun σ2 => ?_)
  exact jj_vret C hr hlocks dX5_add_29

set_option maxHeartbeats 4000000 in
set_option maxRecDepth 100000 in
theorem c_Mesh_request {l : Launch} {D : va_G} {ad : Nat → Nat} {cA : FieldType → ClassId} {n S SD F : Nat} {σ : jj_S} {a1 a2 a3 a4 a5 : Int32} {z : (Int32 × jj_S)} (ho : f_Mesh_request n S SD F σ a1 a2 a3 a4 a5 = some z) : jj_Mi l yX7_request (Cond.code yX7_request cX7_request 7 (some .int) :: jw_t) { frames := 1, cells := 0, slots := 0, locals := 40 } D vwCl ad cA (gc n S SD) [.ref (ad 0), .int a1, .int a2, .int a3, .int a4, .int a5] σ z := by
  refine jj_ofi (cc := cX7_request) (nL := 7) (ret := (some .int)) rfl ho (Nat.le_of_ble_eq_true rfl) ?_
  intro p e s m below meth c C hr hlocks
  generalize hA : va_A (jj_w ad cA (gc n S SD) σ) s.heap.size = A at C ⊢
  have hRm : 1 ≤ (headSpec (Cond.code yX7_request cX7_request 7 (some .int) :: jw_t) { frames := 1, cells := 0, slots := 0, locals := 40 }).room.frames ∧ 40 ≤ (headSpec (Cond.code yX7_request cX7_request 7 (some .int) :: jw_t) { frames := 1, cells := 0, slots := 0, locals := 40 }).room.locals := ⟨Nat.le_refl _, Nat.le_refl _⟩
  generalize (headSpec (Cond.code yX7_request cX7_request 7 (some .int) :: jw_t) { frames := 1, cells := 0, slots := 0, locals := 40 }).room = R at C hRm ⊢
  generalize List.toArray ([.ref (ad 0), .int a1, .int a2, .int a3, .int a4, .int a5] : List Value) = args at C ⊢
  refine jj_sub (lv' := [(0, .ref (ad 0)), (1, .int a1), (2, .int a2), (3, .int a3), (4, .int a4), (5, .int a5)]) [0, 1, 2, 3, 4, 5] rfl ?_
  unfold f_Mesh_request
  refine jj_aload_n C 0 dX7_request_0 rfl rfl ?_
  refine jj_getr C 0 0 in_Mesh (g_0 n S SD) k_Mesh (by decide) fl_Mesh_12 rfl dX7_request_1 ?_
  refine jj_iload_n C 1 dX7_request_4 rfl rfl ?_
  refine jj_callVi C (As := [.int a1]) (rest := []) (fun z hz => c_Grid_hasNode hz) (q_Mesh_54 C.2.2.2.2.1 (rm := { frames := 0, cells := 0, slots := 0, locals := 0 }) rfl rfl ⟨Nat.le_trans (by decide) hRm.1, Nat.le_trans (by decide) hRm.2⟩) (g_1 n S SD) k_Grid rfl rfl (Nat.le_of_ble_eq_true rfl) dX7_request_5 (fun r2 σ1 _ => ?_)
  refine jj_if_eq C (tgt := 30) dX7_request_8 (by decide) (fun _ => ?_) (fun _ => ?_)
  · refine jj_iconst C (v := (-1 : Int32)) dX7_request_30 (by decide) ?_
    exact jj_iret C hr hlocks dX7_request_31
  · refine jj_aload_n C 0 dX7_request_11 rfl rfl ?_
    refine jj_getr C 0 0 in_Mesh (g_0 n S SD) k_Mesh (by decide) fl_Mesh_12 rfl dX7_request_12 ?_
    refine jj_iload_n C 2 dX7_request_15 rfl rfl ?_
    refine jj_callVi C (As := [.int a2]) (rest := []) (fun z hz => c_Grid_hasNode hz) (q_Mesh_54 C.2.2.2.2.1 (rm := { frames := 0, cells := 0, slots := 0, locals := 0 }) rfl rfl ⟨Nat.le_trans (by decide) hRm.1, Nat.le_trans (by decide) hRm.2⟩) (g_1 n S SD) k_Grid rfl rfl (Nat.le_of_ble_eq_true rfl) dX7_request_16 (fun r4 σ3 _ => ?_)
    refine jj_if_eq C (tgt := 30) dX7_request_19 (by decide) (fun _ => ?_) (fun _ => ?_)
    · refine jj_iconst C (v := (-1 : Int32)) dX7_request_30 (by decide) ?_
      exact jj_iret C hr hlocks dX7_request_31
    · refine jj_iload C 4 dX7_request_22 rfl ?_
      refine jj_callSi C (As := [.int a4]) (rest := []) (fun z hz => c_Mesh_isWord hz) (q_Mesh_58 C.2.2.2.2.1 (rm := { frames := 0, cells := 0, slots := 0, locals := 0 }) rfl rfl ⟨Nat.le_trans (by decide) hRm.1, Nat.le_trans (by decide) hRm.2⟩) rfl rfl (Nat.le_of_ble_eq_true rfl) dX7_request_24 (fun r6 σ5 _ => ?_)
      refine jj_if_ne C (tgt := 32) dX7_request_27 (by decide) (fun _ => ?_) (fun _ => ?_)
      · refine jj_aload_n C 0 dX7_request_32 rfl rfl ?_
        refine jj_getr C 0 3 in_Mesh (g_0 n S SD) k_Mesh (by decide) fl_Mesh_39 rfl dX7_request_33 ?_
        refine jj_getr C 16 3 in_Ifs (g_16 n S SD) k_Ifs (by decide) fl_Mesh_61 rfl dX7_request_36 ?_
        refine jj_iload_n C 1 dX7_request_39 rfl rfl ?_
        refine jj_callVi C (As := [.int a1]) (rest := []) (fun z hz => c_Queues_isFullq hz) (q_Mesh_65 C.2.2.2.2.1 (rm := { frames := 0, cells := 0, slots := 0, locals := 0 }) rfl rfl ⟨Nat.le_trans (by decide) hRm.1, Nat.le_trans (by decide) hRm.2⟩) (g_20 n S SD) k_Queues rfl rfl (Nat.le_of_ble_eq_true rfl) dX7_request_40 (fun r8 σ7 _ => ?_)
        refine jj_if_ne C (tgt := 56) dX7_request_43 (by decide) (fun _ => ?_) (fun _ => ?_)
        · refine jj_bipush C (v := (-2 : Int32)) dX7_request_56 (by decide) ?_
          exact jj_iret C hr hlocks dX7_request_58
        · refine jj_aload_n C 0 dX7_request_46 rfl rfl ?_
          refine jj_getr C 0 2 in_Mesh (g_0 n S SD) k_Mesh (by decide) fl_Mesh_30 rfl dX7_request_47 ?_
          refine jj_callVi C (As := []) (rest := []) (fun z hz => c_Packets_isFull hz) (q_Mesh_70 C.2.2.2.2.1 (rm := { frames := 0, cells := 0, slots := 0, locals := 0 }) rfl rfl ⟨Nat.le_trans (by decide) hRm.1, Nat.le_trans (by decide) hRm.2⟩) (g_10 n S SD) k_Packets rfl rfl (Nat.le_of_ble_eq_true rfl) dX7_request_50 (fun r10 σ9 _ => ?_)
          refine jj_if_eq C (tgt := 59) dX7_request_53 (by decide) (fun _ => ?_) (fun _ => ?_)
          · refine jj_aload_n C 0 dX7_request_59 rfl rfl ?_
            refine jj_getr C 0 2 in_Mesh (g_0 n S SD) k_Mesh (by decide) fl_Mesh_30 rfl dX7_request_60 ?_
            refine jj_iload_n C 1 dX7_request_63 rfl rfl ?_
            refine jj_iload_n C 2 dX7_request_64 rfl rfl ?_
            refine jj_iload_n C 3 dX7_request_65 rfl rfl ?_
            refine jj_iload C 4 dX7_request_66 rfl ?_
            refine jj_iload C 5 dX7_request_68 rfl ?_
            refine jj_callVi C (As := [.int a1, .int a2, .int a3, .int a4, .int a5]) (rest := []) (fun z hz => c_Packets_add hz) (q_Mesh_73 C.2.2.2.2.1 (rm := { frames := 0, cells := 0, slots := 0, locals := 0 }) rfl rfl ⟨Nat.le_trans (by decide) hRm.1, Nat.le_trans (by decide) hRm.2⟩) (g_10 n S SD) k_Packets rfl rfl (Nat.le_of_ble_eq_true rfl) dX7_request_70 (fun r12 σ11 _ => ?_)
            refine jj_istore C [(6, .int r12), (0, .ref (ad 0)), (1, .int a1), (2, .int a2), (3, .int a3), (4, .int a4), (5, .int a5)] dX7_request_73 (by decide) rfl ?_
            refine jj_aload_n C 1 dX7_request_75 rfl rfl ?_
            refine jj_getr C 0 3 in_Mesh (g_0 n S SD) k_Mesh (by decide) fl_Mesh_39 rfl dX7_request_76 ?_
            refine jj_getr C 16 3 in_Ifs (g_16 n S SD) k_Ifs (by decide) fl_Mesh_61 rfl dX7_request_79 ?_
            refine jj_iload_n C 2 dX7_request_82 rfl rfl ?_
            refine jj_iload C 0 dX7_request_83 rfl ?_
            refine jj_callVv C (As := [.int a1, .int r12]) (rest := []) (fun z hz => c_Queues_addq hz) (q_Mesh_77 C.2.2.2.2.1 (rm := { frames := 0, cells := 0, slots := 0, locals := 0 }) rfl rfl ⟨Nat.le_trans (by decide) hRm.1, Nat.le_trans (by decide) hRm.2⟩) (g_20 n S SD) k_Queues rfl rfl (Nat.le_of_ble_eq_true rfl) dX7_request_85 (fun σ13 _ => ?_)
            refine jj_iload C 0 dX7_request_88 rfl ?_
            exact jj_iret C hr hlocks dX7_request_90
          · refine jj_bipush C (v := (-2 : Int32)) dX7_request_56 (by decide) ?_
            exact jj_iret C hr hlocks dX7_request_58
      · refine jj_iconst C (v := (-1 : Int32)) dX7_request_30 (by decide) ?_
        exact jj_iret C hr hlocks dX7_request_31

set_option maxHeartbeats 4000000 in
set_option maxRecDepth 100000 in
theorem c_Mesh_hold {l : Launch} {D : va_G} {ad : Nat → Nat} {cA : FieldType → ClassId} {n S SD F : Nat} {σ : jj_S} {a1 a2 : Int32} {z : (Int32 × jj_S)} (ho : f_Mesh_hold n S SD F σ a1 a2 = some z) : jj_Mi l yX7_hold (Cond.code yX7_hold cX7_hold 3 (some .boolean) :: jw_t) { frames := 1, cells := 0, slots := 0, locals := 40 } D vwCl ad cA (gc n S SD) [.ref (ad 0), .int a1, .int a2] σ z := by
  refine jj_ofi (cc := cX7_hold) (nL := 3) (ret := (some .boolean)) rfl ho (Nat.le_of_ble_eq_true rfl) ?_
  intro p e s m below meth c C hr hlocks
  generalize hA : va_A (jj_w ad cA (gc n S SD) σ) s.heap.size = A at C ⊢
  have hRm : 1 ≤ (headSpec (Cond.code yX7_hold cX7_hold 3 (some .boolean) :: jw_t) { frames := 1, cells := 0, slots := 0, locals := 40 }).room.frames ∧ 40 ≤ (headSpec (Cond.code yX7_hold cX7_hold 3 (some .boolean) :: jw_t) { frames := 1, cells := 0, slots := 0, locals := 40 }).room.locals := ⟨Nat.le_refl _, Nat.le_refl _⟩
  generalize (headSpec (Cond.code yX7_hold cX7_hold 3 (some .boolean) :: jw_t) { frames := 1, cells := 0, slots := 0, locals := 40 }).room = R at C hRm ⊢
  generalize List.toArray ([.ref (ad 0), .int a1, .int a2] : List Value) = args at C ⊢
  refine jj_sub (lv' := [(0, .ref (ad 0)), (1, .int a1), (2, .int a2)]) [0, 1, 2] rfl ?_
  unfold f_Mesh_hold
  refine jj_aload_n C 0 dX7_hold_0 rfl rfl ?_
  refine jj_getr C 0 0 in_Mesh (g_0 n S SD) k_Mesh (by decide) fl_Mesh_12 rfl dX7_hold_1 ?_
  refine jj_iload_n C 1 dX7_hold_4 rfl rfl ?_
  refine jj_callVi C (As := [.int a1]) (rest := []) (fun z hz => c_Grid_hasNode hz) (q_Mesh_54 C.2.2.2.2.1 (rm := { frames := 0, cells := 0, slots := 0, locals := 0 }) rfl rfl ⟨Nat.le_trans (by decide) hRm.1, Nat.le_trans (by decide) hRm.2⟩) (g_1 n S SD) k_Grid rfl rfl (Nat.le_of_ble_eq_true rfl) dX7_hold_5 (fun r2 σ1 _ => ?_)
  refine jj_if_ne C (tgt := 13) dX7_hold_8 (by decide) (fun _ => ?_) (fun _ => ?_)
  · refine jj_aload_n C 0 dX7_hold_13 rfl rfl ?_
    refine jj_getr C 0 3 in_Mesh (g_0 n S SD) k_Mesh (by decide) fl_Mesh_39 rfl dX7_hold_14 ?_
    refine jj_getr C 16 7 in_Ifs (g_16 n S SD) k_Ifs (by decide) fl_Mesh_80 rfl dX7_hold_17 ?_
    refine jj_iload_n C 1 dX7_hold_20 rfl rfl ?_
    refine jj_iload_n C 2 dX7_hold_21 rfl rfl ?_
    refine jj_zast C 29 (g_29 n S SD) dX7_hold_22 ?_
    refine jj_stn (fun σ3 => ?_)
    refine jj_iconst C (v := (1 : Int32)) dX7_hold_23 (by decide) ?_
    exact jj_zret C hr hlocks (by first | rfl | decide +kernel) dX7_hold_24
  · refine jj_iconst C (v := (0 : Int32)) dX7_hold_11 (by decide) ?_
    exact jj_zret C hr hlocks (by first | rfl | decide +kernel) dX7_hold_12

set_option maxHeartbeats 4000000 in
set_option maxRecDepth 100000 in
theorem l_Links_arriveAll_7 {p : Program} {l : Launch} {e : Env} {R : Room} {s : State} {m : MethodId} {args : Array Value} {below : List Frame} {meth : Method} {c : Code} {D : va_G} {A : Nat → Prop} {ad : Nat → Nat} {cA : FieldType → ClassId} {n S SD F : Nat} (C : jj_C p R s m args c D vwCl A ad cA (gc n S SD) 2 0 0 cX3_arriveAll RX3 jw_t) (hr : meth.sig.returnType = none) (hlocks : meth.locks = false) (hRm : 0 ≤ R.frames ∧ 0 ≤ R.locals) {K : jj_S → Int32 → Option jj_S} (hK : ∀ (σ : jj_S) (x1 : Int32), jj_J p l e R s m args below meth c D vwCl A ad cA (gc n S SD) 2 0 0 (jj_Qv below D vwCl A ad cA (gc n S SD) args s 0 0) (K σ x1) σ 107 [(0, .ref (ad 2)), (1, .int x1)] []) : ∀ (k : Nat) (σ : jj_S) (x1 : Int32), jj_J p l e R s m args below meth c D vwCl A ad cA (gc n S SD) 2 0 0 (jj_Qv below D vwCl A ad cA (gc n S SD) args s 0 0) (jj_lp1 (b_Links_arriveAll_7 n S SD F K) k σ x1) σ 7 [(0, .ref (ad 2)), (1, .int x1)] [] := by
  refine jj_loop1 (T := fun o σ x1 => jj_J p l e R s m args below meth c D vwCl A ad cA (gc n S SD) 2 0 0 (jj_Qv below D vwCl A ad cA (gc n S SD) args s 0 0) o σ 7 [(0, .ref (ad 2)), (1, .int x1)] []) (fun _ _ _ h => by cases h) ?_
  intro rec ih σ x1
  unfold b_Links_arriveAll_7
  refine jj_iload_n C 1 dX3_arriveAll_7 rfl rfl ?_
  refine jj_aload_n C 0 dX3_arriveAll_8 rfl rfl ?_
  refine jj_getr C 2 4 in_Links (g_2 n S SD) k_Links (by decide) fl_Links_31 rfl dX3_arriveAll_9 ?_
  refine jj_alen C 6 0 (g_6 n S SD) rfl dX3_arriveAll_12 ?_
  refine jj_icmp_ge C (tgt := 107) dX3_arriveAll_13 (by decide) (fun _ => ?_) (fun _ => ?_)
  · refine jj_sub [0, 1] rfl ?_
    exact hK σ x1
  · refine jj_aload_n C 0 dX3_arriveAll_16 rfl rfl ?_
    refine jj_getr C 2 6 in_Links (g_2 n S SD) k_Links (by decide) fl_Links_37 rfl dX3_arriveAll_17 ?_
    refine jj_iload_n C 1 dX3_arriveAll_20 rfl rfl ?_
    refine jj_iald C 8 (g_8 n S SD) dX3_arriveAll_21 ?_
    refine jj_iconst C (v := (-1 : Int32)) dX3_arriveAll_22 (by decide) ?_
    refine jj_icmp_eq C (tgt := 79) dX3_arriveAll_23 (by decide) (fun _ => ?_) (fun _ => ?_)
    · refine jj_aload_n C 0 dX3_arriveAll_79 rfl rfl ?_
      refine jj_getr C 2 5 in_Links (g_2 n S SD) k_Links (by decide) fl_Links_34 rfl dX3_arriveAll_80 ?_
      refine jj_iload_n C 1 dX3_arriveAll_83 rfl rfl ?_
      refine jj_dup2 C dX3_arriveAll_84 rfl rfl ?_
      refine jj_iald C 7 (g_7 n S SD) dX3_arriveAll_85 ?_
      refine jj_aload_n C 0 dX3_arriveAll_86 rfl rfl ?_
      refine jj_getr C 2 7 in_Links (g_2 n S SD) k_Links (by decide) fl_Links_40 rfl dX3_arriveAll_87 ?_
      refine jj_iload_n C 1 dX3_arriveAll_90 rfl rfl ?_
      refine jj_iald C 9 (g_9 n S SD) dX3_arriveAll_91 ?_
      refine jj_iadd C dX3_arriveAll_92 ?_
      refine jj_iast C 7 (g_7 n S SD) dX3_arriveAll_93 ?_
      refine jj_stn (fun σ2 => ?_)
      refine jj_aload_n C 0 dX3_arriveAll_94 rfl rfl ?_
      refine jj_getr C 2 7 in_Links (g_2 n S SD) k_Links (by decide) fl_Links_40 rfl dX3_arriveAll_95 ?_
      refine jj_iload_n C 1 dX3_arriveAll_98 rfl rfl ?_
      refine jj_iconst C (v := (0 : Int32)) dX3_arriveAll_99 (by decide) ?_
      refine jj_iast C 9 (g_9 n S SD) dX3_arriveAll_100 ?_
      refine jj_stn (fun σ3 => ?_)
      refine jj_iinc C (v := x1 + (1 : Int32)) [(1, .int (x1 + (1 : Int32))), (0, .ref (ad 2))] 1 dX3_arriveAll_101 rfl rfl (by decide) rfl ?_
      refine jj_goto C (tgt := 7) dX3_arriveAll_104 (by decide) ?_
      refine jj_sub [1, 0] rfl ?_
      exact ih σ3 (x1 + (1 : Int32))
    · refine jj_aload_n C 0 dX3_arriveAll_26 rfl rfl ?_
      refine jj_getr C 2 2 in_Links (g_2 n S SD) k_Links (by decide) fl_Links_25 rfl dX3_arriveAll_27 ?_
      refine jj_iload_n C 1 dX3_arriveAll_30 rfl rfl ?_
      refine jj_aload_n C 0 dX3_arriveAll_31 rfl rfl ?_
      refine jj_geti C 2 0 in_Links (g_2 n S SD) k_Links (by decide) fl_Links_15 rfl dX3_arriveAll_32 ?_
      refine jj_imul C dX3_arriveAll_35 ?_
      refine jj_aload_n C 0 dX3_arriveAll_36 rfl rfl ?_
      refine jj_getr C 2 3 in_Links (g_2 n S SD) k_Links (by decide) fl_Links_28 rfl dX3_arriveAll_37 ?_
      refine jj_iload_n C 1 dX3_arriveAll_40 rfl rfl ?_
      refine jj_iald C 5 (g_5 n S SD) dX3_arriveAll_41 ?_
      refine jj_aload_n C 0 dX3_arriveAll_42 rfl rfl ?_
      refine jj_getr C 2 4 in_Links (g_2 n S SD) k_Links (by decide) fl_Links_31 rfl dX3_arriveAll_43 ?_
      refine jj_iload_n C 1 dX3_arriveAll_46 rfl rfl ?_
      refine jj_iald C 6 (g_6 n S SD) dX3_arriveAll_47 ?_
      refine jj_iadd C dX3_arriveAll_48 ?_
      refine jj_aload_n C 0 dX3_arriveAll_49 rfl rfl ?_
      refine jj_geti C 2 0 in_Links (g_2 n S SD) k_Links (by decide) fl_Links_15 rfl dX3_arriveAll_50 ?_
      refine jj_irem C dX3_arriveAll_53 ?_
      refine jj_iadd C dX3_arriveAll_54 ?_
      refine jj_aload_n C 0 dX3_arriveAll_55 rfl rfl ?_
      refine jj_getr C 2 6 in_Links (g_2 n S SD) k_Links (by decide) fl_Links_37 rfl dX3_arriveAll_56 ?_
      refine jj_iload_n C 1 dX3_arriveAll_59 rfl rfl ?_
      refine jj_iald C 8 (g_8 n S SD) dX3_arriveAll_60 ?_
      refine jj_iast C 4 (g_4 n S SD) dX3_arriveAll_61 ?_
      refine jj_stn (fun σ4 => ?_)
      refine jj_aload_n C 0 dX3_arriveAll_62 rfl rfl ?_
      refine jj_getr C 2 4 in_Links (g_2 n S SD) k_Links (by decide) fl_Links_31 rfl dX3_arriveAll_63 ?_
      refine jj_iload_n C 1 dX3_arriveAll_66 rfl rfl ?_
      refine jj_dup2 C dX3_arriveAll_67 rfl rfl ?_
      refine jj_iald C 6 (g_6 n S SD) dX3_arriveAll_68 ?_
      refine jj_iconst C (v := (1 : Int32)) dX3_arriveAll_69 (by decide) ?_
      refine jj_iadd C dX3_arriveAll_70 ?_
      refine jj_iast C 6 (g_6 n S SD) dX3_arriveAll_71 ?_
      refine jj_stn (fun σ5 => ?_)
      refine jj_aload_n C 0 dX3_arriveAll_72 rfl rfl ?_
      refine jj_getr C 2 6 in_Links (g_2 n S SD) k_Links (by decide) fl_Links_37 rfl dX3_arriveAll_73 ?_
      refine jj_iload_n C 1 dX3_arriveAll_76 rfl rfl ?_
      refine jj_iconst C (v := (-1 : Int32)) dX3_arriveAll_77 (by decide) ?_
      refine jj_iast C 8 (g_8 n S SD) dX3_arriveAll_78 ?_
      refine jj_stn (fun σ6 => ?_)
      refine jj_aload_n C 0 dX3_arriveAll_79 rfl rfl ?_
      refine jj_getr C 2 5 in_Links (g_2 n S SD) k_Links (by decide) fl_Links_34 rfl dX3_arriveAll_80 ?_
      refine jj_iload_n C 1 dX3_arriveAll_83 rfl rfl ?_
      refine jj_dup2 C dX3_arriveAll_84 rfl rfl ?_
      refine jj_iald C 7 (g_7 n S SD) dX3_arriveAll_85 ?_
      refine jj_aload_n C 0 dX3_arriveAll_86 rfl rfl ?_
      refine jj_getr C 2 7 in_Links (g_2 n S SD) k_Links (by decide) fl_Links_40 rfl dX3_arriveAll_87 ?_
      refine jj_iload_n C 1 dX3_arriveAll_90 rfl rfl ?_
      refine jj_iald C 9 (g_9 n S SD) dX3_arriveAll_91 ?_
      refine jj_iadd C dX3_arriveAll_92 ?_
      refine jj_iast C 7 (g_7 n S SD) dX3_arriveAll_93 ?_
      refine jj_stn (fun σ7 => ?_)
      refine jj_aload_n C 0 dX3_arriveAll_94 rfl rfl ?_
      refine jj_getr C 2 7 in_Links (g_2 n S SD) k_Links (by decide) fl_Links_40 rfl dX3_arriveAll_95 ?_
      refine jj_iload_n C 1 dX3_arriveAll_98 rfl rfl ?_
      refine jj_iconst C (v := (0 : Int32)) dX3_arriveAll_99 (by decide) ?_
      refine jj_iast C 9 (g_9 n S SD) dX3_arriveAll_100 ?_
      refine jj_stn (fun σ8 => ?_)
      refine jj_iinc C (v := x1 + (1 : Int32)) [(1, .int (x1 + (1 : Int32))), (0, .ref (ad 2))] 1 dX3_arriveAll_101 rfl rfl (by decide) rfl ?_
      refine jj_goto C (tgt := 7) dX3_arriveAll_104 (by decide) ?_
      refine jj_sub [1, 0] rfl ?_
      exact ih σ8 (x1 + (1 : Int32))

set_option maxHeartbeats 4000000 in
set_option maxRecDepth 100000 in
theorem c_Links_arriveAll {l : Launch} {D : va_G} {ad : Nat → Nat} {cA : FieldType → ClassId} {n S SD F : Nat} {σ : jj_S} {z : jj_S} (ho : f_Links_arriveAll n S SD F σ = some z) : jj_Mv l yX3_arriveAll (Cond.code yX3_arriveAll cX3_arriveAll 2 none :: jw_t) { frames := 0, cells := 0, slots := 0, locals := 0 } D vwCl ad cA (gc n S SD) [.ref (ad 2)] σ z := by
  refine jj_ofv (cc := cX3_arriveAll) (nL := 2) (ret := none) rfl ho (Nat.le_of_ble_eq_true rfl) ?_
  intro p e s m below meth c C hr hlocks
  generalize hA : va_A (jj_w ad cA (gc n S SD) σ) s.heap.size = A at C ⊢
  have hRm : 0 ≤ (headSpec (Cond.code yX3_arriveAll cX3_arriveAll 2 none :: jw_t) { frames := 0, cells := 0, slots := 0, locals := 0 }).room.frames ∧ 0 ≤ (headSpec (Cond.code yX3_arriveAll cX3_arriveAll 2 none :: jw_t) { frames := 0, cells := 0, slots := 0, locals := 0 }).room.locals := ⟨Nat.le_refl _, Nat.le_refl _⟩
  generalize (headSpec (Cond.code yX3_arriveAll cX3_arriveAll 2 none :: jw_t) { frames := 0, cells := 0, slots := 0, locals := 0 }).room = R at C hRm ⊢
  generalize List.toArray ([.ref (ad 2)] : List Value) = args at C ⊢
  refine jj_sub (lv' := [(0, .ref (ad 2))]) [0] rfl ?_
  unfold f_Links_arriveAll
  refine jj_aload_n C 0 dX3_arriveAll_0 rfl rfl ?_
  refine jj_iconst C (v := (0 : Int32)) dX3_arriveAll_1 (by decide) ?_
  refine jj_puti C 2 8 in_Links (g_2 n S SD) k_Links (by decide) fl_Links_56 tyX3 tyX3_ok nmX3 rfl (by decide +kernel) rfl dX3_arriveAll_2 ?_
  refine jj_stn (fun σ1 => ?_)
  refine jj_iconst C (v := (0 : Int32)) dX3_arriveAll_5 (by decide) ?_
  refine jj_istore_n C [(1, .int (0 : Int32)), (0, .ref (ad 2))] dX3_arriveAll_6 rfl (by decide) rfl ?_
  refine jj_sub [1, 0] rfl ?_
  refine l_Links_arriveAll_7 C hr hlocks hRm (fun σ9 x1_10 => ?_) F σ1 (0 : Int32)
  exact jj_vret C hr hlocks dX3_arriveAll_107

set_option maxHeartbeats 4000000 in
set_option maxRecDepth 100000 in
theorem c_Grid_slot {l : Launch} {D : va_G} {ad : Nat → Nat} {cA : FieldType → ClassId} {n S SD F : Nat} {σ : jj_S} {a1 a2 a3 : Int32} {z : (Int32 × jj_S)} (ho : f_Grid_slot n S SD F σ a1 a2 a3 = some z) : jj_Mi l yX1_slot (Cond.code yX1_slot cX1_slot 4 (some .int) :: jw_t) { frames := 0, cells := 0, slots := 0, locals := 0 } D vwCl ad cA (gc n S SD) [.ref (ad 1), .int a1, .int a2, .int a3] σ z := by
  refine jj_ofi (cc := cX1_slot) (nL := 4) (ret := (some .int)) rfl ho (Nat.le_of_ble_eq_true rfl) ?_
  intro p e s m below meth c C hr hlocks
  generalize hA : va_A (jj_w ad cA (gc n S SD) σ) s.heap.size = A at C ⊢
  have hRm : 0 ≤ (headSpec (Cond.code yX1_slot cX1_slot 4 (some .int) :: jw_t) { frames := 0, cells := 0, slots := 0, locals := 0 }).room.frames ∧ 0 ≤ (headSpec (Cond.code yX1_slot cX1_slot 4 (some .int) :: jw_t) { frames := 0, cells := 0, slots := 0, locals := 0 }).room.locals := ⟨Nat.le_refl _, Nat.le_refl _⟩
  generalize (headSpec (Cond.code yX1_slot cX1_slot 4 (some .int) :: jw_t) { frames := 0, cells := 0, slots := 0, locals := 0 }).room = R at C hRm ⊢
  generalize List.toArray ([.ref (ad 1), .int a1, .int a2, .int a3] : List Value) = args at C ⊢
  refine jj_sub (lv' := [(0, .ref (ad 1)), (1, .int a1), (2, .int a2), (3, .int a3)]) [0, 1, 2, 3] rfl ?_
  unfold f_Grid_slot
  refine jj_iload_n C 1 dX1_slot_0 rfl rfl ?_
  refine jj_bipush C (v := (6 : Int32)) dX1_slot_1 (by decide) ?_
  refine jj_imul C dX1_slot_3 ?_
  refine jj_iload_n C 2 dX1_slot_4 rfl rfl ?_
  refine jj_iadd C dX1_slot_5 ?_
  refine jj_aload_n C 0 dX1_slot_6 rfl rfl ?_
  refine jj_geti C 1 4 in_Grid (g_1 n S SD) k_Grid (by decide) fl_Grid_28 rfl dX1_slot_7 ?_
  refine jj_imul C dX1_slot_10 ?_
  refine jj_iload_n C 3 dX1_slot_11 rfl rfl ?_
  refine jj_iadd C dX1_slot_12 ?_
  exact jj_iret C hr hlocks dX1_slot_13

set_option maxHeartbeats 4000000 in
set_option maxRecDepth 100000 in
theorem c_Links_firstFlit {l : Launch} {D : va_G} {ad : Nat → Nat} {cA : FieldType → ClassId} {n S SD F : Nat} {σ : jj_S} {a1 : Int32} {z : (Int32 × jj_S)} (ho : f_Links_firstFlit n S SD F σ a1 = some z) : jj_Mi l yX3_firstFlit (Cond.code yX3_firstFlit cX3_firstFlit 2 (some .int) :: jw_t) { frames := 0, cells := 0, slots := 0, locals := 0 } D vwCl ad cA (gc n S SD) [.ref (ad 2), .int a1] σ z := by
  refine jj_ofi (cc := cX3_firstFlit) (nL := 2) (ret := (some .int)) rfl ho (Nat.le_of_ble_eq_true rfl) ?_
  intro p e s m below meth c C hr hlocks
  generalize hA : va_A (jj_w ad cA (gc n S SD) σ) s.heap.size = A at C ⊢
  have hRm : 0 ≤ (headSpec (Cond.code yX3_firstFlit cX3_firstFlit 2 (some .int) :: jw_t) { frames := 0, cells := 0, slots := 0, locals := 0 }).room.frames ∧ 0 ≤ (headSpec (Cond.code yX3_firstFlit cX3_firstFlit 2 (some .int) :: jw_t) { frames := 0, cells := 0, slots := 0, locals := 0 }).room.locals := ⟨Nat.le_refl _, Nat.le_refl _⟩
  generalize (headSpec (Cond.code yX3_firstFlit cX3_firstFlit 2 (some .int) :: jw_t) { frames := 0, cells := 0, slots := 0, locals := 0 }).room = R at C hRm ⊢
  generalize List.toArray ([.ref (ad 2), .int a1] : List Value) = args at C ⊢
  refine jj_sub (lv' := [(0, .ref (ad 2)), (1, .int a1)]) [0, 1] rfl ?_
  unfold f_Links_firstFlit
  refine jj_aload_n C 0 dX3_firstFlit_0 rfl rfl ?_
  refine jj_getr C 2 2 in_Links (g_2 n S SD) k_Links (by decide) fl_Links_25 rfl dX3_firstFlit_1 ?_
  refine jj_iload_n C 1 dX3_firstFlit_4 rfl rfl ?_
  refine jj_aload_n C 0 dX3_firstFlit_5 rfl rfl ?_
  refine jj_geti C 2 0 in_Links (g_2 n S SD) k_Links (by decide) fl_Links_15 rfl dX3_firstFlit_6 ?_
  refine jj_imul C dX3_firstFlit_9 ?_
  refine jj_aload_n C 0 dX3_firstFlit_10 rfl rfl ?_
  refine jj_getr C 2 3 in_Links (g_2 n S SD) k_Links (by decide) fl_Links_28 rfl dX3_firstFlit_11 ?_
  refine jj_iload_n C 1 dX3_firstFlit_14 rfl rfl ?_
  refine jj_iald C 5 (g_5 n S SD) dX3_firstFlit_15 ?_
  refine jj_iadd C dX3_firstFlit_16 ?_
  refine jj_iald C 4 (g_4 n S SD) dX3_firstFlit_17 ?_
  exact jj_iret C hr hlocks dX3_firstFlit_18

set_option maxHeartbeats 4000000 in
set_option maxRecDepth 100000 in
theorem c_Packets_isOfReply {l : Launch} {D : va_G} {ad : Nat → Nat} {cA : FieldType → ClassId} {n S SD F : Nat} {σ : jj_S} {a0 : Int32} {z : (Int32 × jj_S)} (ho : f_Packets_isOfReply n S SD F σ a0 = some z) : jj_Mi l yX4_isOfReply (Cond.code yX4_isOfReply cX4_isOfReply 1 (some .boolean) :: jw_t) { frames := 0, cells := 0, slots := 0, locals := 0 } D vwCl ad cA (gc n S SD) [.int a0] σ z := by
  refine jj_ofi (cc := cX4_isOfReply) (nL := 1) (ret := (some .boolean)) rfl ho (Nat.le_of_ble_eq_true rfl) ?_
  intro p e s m below meth c C hr hlocks
  generalize hA : va_A (jj_w ad cA (gc n S SD) σ) s.heap.size = A at C ⊢
  have hRm : 0 ≤ (headSpec (Cond.code yX4_isOfReply cX4_isOfReply 1 (some .boolean) :: jw_t) { frames := 0, cells := 0, slots := 0, locals := 0 }).room.frames ∧ 0 ≤ (headSpec (Cond.code yX4_isOfReply cX4_isOfReply 1 (some .boolean) :: jw_t) { frames := 0, cells := 0, slots := 0, locals := 0 }).room.locals := ⟨Nat.le_refl _, Nat.le_refl _⟩
  generalize (headSpec (Cond.code yX4_isOfReply cX4_isOfReply 1 (some .boolean) :: jw_t) { frames := 0, cells := 0, slots := 0, locals := 0 }).room = R at C hRm ⊢
  generalize List.toArray ([.int a0] : List Value) = args at C ⊢
  refine jj_sub (lv' := [(0, .int a0)]) [0] rfl ?_
  unfold f_Packets_isOfReply
  refine jj_iload_n C 0 dX4_isOfReply_0 rfl rfl ?_
  refine jj_iconst C (v := (2 : Int32)) dX4_isOfReply_1 (by decide) ?_
  refine jj_iand C dX4_isOfReply_2 ?_
  refine jj_if_eq C (tgt := 10) dX4_isOfReply_3 (by decide) (fun _ => ?_) (fun _ => ?_)
  · refine jj_iconst C (v := (0 : Int32)) dX4_isOfReply_10 (by decide) ?_
    exact jj_zret C hr hlocks (by first | rfl | decide +kernel) dX4_isOfReply_11
  · refine jj_iconst C (v := (1 : Int32)) dX4_isOfReply_6 (by decide) ?_
    refine jj_goto C (tgt := 11) dX4_isOfReply_7 (by decide) ?_
    exact jj_zret C hr hlocks (by first | rfl | decide +kernel) dX4_isOfReply_11

set_option maxHeartbeats 4000000 in
set_option maxRecDepth 100000 in
theorem c_Packets_isLast {l : Launch} {D : va_G} {ad : Nat → Nat} {cA : FieldType → ClassId} {n S SD F : Nat} {σ : jj_S} {a0 : Int32} {z : (Int32 × jj_S)} (ho : f_Packets_isLast n S SD F σ a0 = some z) : jj_Mi l yX4_isLast (Cond.code yX4_isLast cX4_isLast 1 (some .boolean) :: jw_t) { frames := 0, cells := 0, slots := 0, locals := 0 } D vwCl ad cA (gc n S SD) [.int a0] σ z := by
  refine jj_ofi (cc := cX4_isLast) (nL := 1) (ret := (some .boolean)) rfl ho (Nat.le_of_ble_eq_true rfl) ?_
  intro p e s m below meth c C hr hlocks
  generalize hA : va_A (jj_w ad cA (gc n S SD) σ) s.heap.size = A at C ⊢
  have hRm : 0 ≤ (headSpec (Cond.code yX4_isLast cX4_isLast 1 (some .boolean) :: jw_t) { frames := 0, cells := 0, slots := 0, locals := 0 }).room.frames ∧ 0 ≤ (headSpec (Cond.code yX4_isLast cX4_isLast 1 (some .boolean) :: jw_t) { frames := 0, cells := 0, slots := 0, locals := 0 }).room.locals := ⟨Nat.le_refl _, Nat.le_refl _⟩
  generalize (headSpec (Cond.code yX4_isLast cX4_isLast 1 (some .boolean) :: jw_t) { frames := 0, cells := 0, slots := 0, locals := 0 }).room = R at C hRm ⊢
  generalize List.toArray ([.int a0] : List Value) = args at C ⊢
  refine jj_sub (lv' := [(0, .int a0)]) [0] rfl ?_
  unfold f_Packets_isLast
  refine jj_iload_n C 0 dX4_isLast_0 rfl rfl ?_
  refine jj_iconst C (v := (1 : Int32)) dX4_isLast_1 (by decide) ?_
  refine jj_iand C dX4_isLast_2 ?_
  refine jj_if_eq C (tgt := 10) dX4_isLast_3 (by decide) (fun _ => ?_) (fun _ => ?_)
  · refine jj_iconst C (v := (0 : Int32)) dX4_isLast_10 (by decide) ?_
    exact jj_zret C hr hlocks (by first | rfl | decide +kernel) dX4_isLast_11
  · refine jj_iconst C (v := (1 : Int32)) dX4_isLast_6 (by decide) ?_
    refine jj_goto C (tgt := 11) dX4_isLast_7 (by decide) ?_
    exact jj_zret C hr hlocks (by first | rfl | decide +kernel) dX4_isLast_11

set_option maxHeartbeats 4000000 in
set_option maxRecDepth 100000 in
theorem c_Queues_isFullp {l : Launch} {D : va_G} {ad : Nat → Nat} {cA : FieldType → ClassId} {n S SD F : Nat} {σ : jj_S} {a1 : Int32} {z : (Int32 × jj_S)} (ho : f_Queues_isFullp n S SD F σ a1 = some z) : jj_Mi l yX5_isFull (Cond.code yX5_isFull cX5_isFull 2 (some .boolean) :: jw_t) { frames := 0, cells := 0, slots := 0, locals := 0 } D vwCl ad cA (gc n S SD) [.ref (ad 24), .int a1] σ z := by
  refine jj_ofi (cc := cX5_isFull) (nL := 2) (ret := (some .boolean)) rfl ho (Nat.le_of_ble_eq_true rfl) ?_
  intro p e s m below meth c C hr hlocks
  generalize hA : va_A (jj_w ad cA (gc n S SD) σ) s.heap.size = A at C ⊢
  have hRm : 0 ≤ (headSpec (Cond.code yX5_isFull cX5_isFull 2 (some .boolean) :: jw_t) { frames := 0, cells := 0, slots := 0, locals := 0 }).room.frames ∧ 0 ≤ (headSpec (Cond.code yX5_isFull cX5_isFull 2 (some .boolean) :: jw_t) { frames := 0, cells := 0, slots := 0, locals := 0 }).room.locals := ⟨Nat.le_refl _, Nat.le_refl _⟩
  generalize (headSpec (Cond.code yX5_isFull cX5_isFull 2 (some .boolean) :: jw_t) { frames := 0, cells := 0, slots := 0, locals := 0 }).room = R at C hRm ⊢
  generalize List.toArray ([.ref (ad 24), .int a1] : List Value) = args at C ⊢
  refine jj_sub (lv' := [(0, .ref (ad 24)), (1, .int a1)]) [0, 1] rfl ?_
  unfold f_Queues_isFullp
  refine jj_aload_n C 0 dX5_isFull_0 rfl rfl ?_
  refine jj_getr C 24 3 in_Queues (g_24 n S SD) k_Queues (by decide) fl_Queues_21 rfl dX5_isFull_1 ?_
  refine jj_iload_n C 1 dX5_isFull_4 rfl rfl ?_
  refine jj_iald C 26 (g_26 n S SD) dX5_isFull_5 ?_
  refine jj_aload_n C 0 dX5_isFull_6 rfl rfl ?_
  refine jj_geti C 24 1 in_Queues (g_24 n S SD) k_Queues (by decide) fl_Queues_13 rfl dX5_isFull_7 ?_
  refine jj_icmp_lt C (tgt := 17) dX5_isFull_10 (by decide) (fun _ => ?_) (fun _ => ?_)
  · refine jj_iconst C (v := (0 : Int32)) dX5_isFull_17 (by decide) ?_
    exact jj_zret C hr hlocks (by first | rfl | decide +kernel) dX5_isFull_18
  · refine jj_iconst C (v := (1 : Int32)) dX5_isFull_13 (by decide) ?_
    refine jj_goto C (tgt := 18) dX5_isFull_14 (by decide) ?_
    exact jj_zret C hr hlocks (by first | rfl | decide +kernel) dX5_isFull_18
