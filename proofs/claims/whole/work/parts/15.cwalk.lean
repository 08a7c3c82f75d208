set_option maxHeartbeats 4000000 in
set_option maxRecDepth 100000 in
theorem c_Mesh_memory {l : Launch} {D : va_G} {ad : Nat → Nat} {cA : FieldType → ClassId} {n S SD F : Nat} {σ : jj_S} {a1 a2 : Int32} {z : (Int32 × jj_S)} (ho : f_Mesh_memory n S SD F σ a1 a2 = some z) : jj_Mi l yX7_memory (Cond.code yX7_memory cX7_memory 3 (some .int) :: jw_t) { frames := 1, cells := 0, slots := 0, locals := 40 } D vwCl ad cA (gc n S SD) [.ref (ad 0), .int a1, .int a2] σ z := by
  refine jj_ofi (cc := cX7_memory) (nL := 3) (ret := (some .int)) rfl ho (Nat.le_of_ble_eq_true rfl) ?_
  intro p e s m below meth c C hr hlocks
  generalize hA : va_A (jj_w ad cA (gc n S SD) σ) s.heap.size = A at C ⊢
  have hRm : 1 ≤ (headSpec (Cond.code yX7_memory cX7_memory 3 (some .int) :: jw_t) { frames := 1, cells := 0, slots := 0, locals := 40 }).room.frames ∧ 40 ≤ (headSpec (Cond.code yX7_memory cX7_memory 3 (some .int) :: jw_t) { frames := 1, cells := 0, slots := 0, locals := 40 }).room.locals := ⟨Nat.le_refl _, Nat.le_refl _⟩
  generalize (headSpec (Cond.code yX7_memory cX7_memory 3 (some .int) :: jw_t) { frames := 1, cells := 0, slots := 0, locals := 40 }).room = R at C hRm ⊢
  generalize List.toArray ([.ref (ad 0), .int a1, .int a2] : List Value) = args at C ⊢
  refine jj_sub (lv' := [(0, .ref (ad 0)), (1, .int a1), (2, .int a2)]) [0, 1, 2] rfl ?_
  unfold f_Mesh_memory
  refine jj_aload_n C 0 dX7_memory_0 rfl rfl ?_
  refine jj_getr C 0 0 in_Mesh (g_0 n S SD) k_Mesh (by decide) fl_Mesh_12 rfl dX7_memory_1 ?_
  refine jj_iload_n C 1 dX7_memory_4 rfl rfl ?_
  refine jj_callVi C (As := [.int a1]) (rest := []) (fun z hz => c_Grid_hasNode hz) (q_Mesh_54 C.2.2.2.2.1 (rm := { frames := 0, cells := 0, slots := 0, locals := 0 }) rfl rfl ⟨Nat.le_trans (by decide) hRm.1, Nat.le_trans (by decide) hRm.2⟩) (g_1 n S SD) k_Grid rfl rfl (Nat.le_of_ble_eq_true rfl) dX7_memory_5 (fun r2 σ1 _ => ?_)
  refine jj_if_eq C (tgt := 18) dX7_memory_8 (by decide) (fun _ => ?_) (fun _ => ?_)
  · refine jj_iconst C (v := (0 : Int32)) dX7_memory_18 (by decide) ?_
    exact jj_iret C hr hlocks dX7_memory_19
  · refine jj_iload_n C 2 dX7_memory_11 rfl rfl ?_
    refine jj_callSi C (As := [.int a2]) (rest := []) (fun z hz => c_Mesh_isWord hz) (q_Mesh_58 C.2.2.2.2.1 (rm := { frames := 0, cells := 0, slots := 0, locals := 0 }) rfl rfl ⟨Nat.le_trans (by decide) hRm.1, Nat.le_trans (by decide) hRm.2⟩) rfl rfl (Nat.le_of_ble_eq_true rfl) dX7_memory_12 (fun r4 σ3 _ => ?_)
    refine jj_if_ne C (tgt := 20) dX7_memory_15 (by decide) (fun _ => ?_) (fun _ => ?_)
    · refine jj_aload_n C 0 dX7_memory_20 rfl rfl ?_
      refine jj_getr C 0 3 in_Mesh (g_0 n S SD) k_Mesh (by decide) fl_Mesh_39 rfl dX7_memory_21 ?_
      refine jj_getr C 16 6 in_Ifs (g_16 n S SD) k_Ifs (by decide) fl_Mesh_108 rfl dX7_memory_24 ?_
      refine jj_iload_n C 1 dX7_memory_27 rfl rfl ?_
      refine jj_bipush C (v := (8 : Int32)) dX7_memory_28 (by decide) ?_
      refine jj_imul C dX7_memory_30 ?_
      refine jj_iload_n C 2 dX7_memory_31 rfl rfl ?_
      refine jj_iadd C dX7_memory_32 ?_
      refine jj_iald C 28 (g_28 n S SD) dX7_memory_33 ?_
      exact jj_iret C hr hlocks dX7_memory_34
    · refine jj_iconst C (v := (0 : Int32)) dX7_memory_18 (by decide) ?_
      exact jj_iret C hr hlocks dX7_memory_19

set_option maxHeartbeats 4000000 in
set_option maxRecDepth 100000 in
theorem c_Mesh_waiting {l : Launch} {D : va_G} {ad : Nat → Nat} {cA : FieldType → ClassId} {n S SD F : Nat} {σ : jj_S} {a1 : Int32} {z : (Int32 × jj_S)} (ho : f_Mesh_waiting n S SD F σ a1 = some z) : jj_Mi l yX7_waiting (Cond.code yX7_waiting cX7_waiting 2 (some .int) :: jw_t) { frames := 1, cells := 0, slots := 0, locals := 40 } D vwCl ad cA (gc n S SD) [.ref (ad 0), .int a1] σ z := by
  refine jj_ofi (cc := cX7_waiting) (nL := 2) (ret := (some .int)) rfl ho (Nat.le_of_ble_eq_true rfl) ?_
  intro p e s m below meth c C hr hlocks
  generalize hA : va_A (jj_w ad cA (gc n S SD) σ) s.heap.size = A at C ⊢
  have hRm : 1 ≤ (headSpec (Cond.code yX7_waiting cX7_waiting 2 (some .int) :: jw_t) { frames := 1, cells := 0, slots := 0, locals := 40 }).room.frames ∧ 40 ≤ (headSpec (Cond.code yX7_waiting cX7_waiting 2 (some .int) :: jw_t) { frames := 1, cells := 0, slots := 0, locals := 40 }).room.locals := ⟨Nat.le_refl _, Nat.le_refl _⟩
  generalize (headSpec (Cond.code yX7_waiting cX7_waiting 2 (some .int) :: jw_t) { frames := 1, cells := 0, slots := 0, locals := 40 }).room = R at C hRm ⊢
  generalize List.toArray ([.ref (ad 0), .int a1] : List Value) = args at C ⊢
  refine jj_sub (lv' := [(0, .ref (ad 0)), (1, .int a1)]) [0, 1] rfl ?_
  unfold f_Mesh_waiting
  refine jj_aload_n C 0 dX7_waiting_0 rfl rfl ?_
  refine jj_getr C 0 0 in_Mesh (g_0 n S SD) k_Mesh (by decide) fl_Mesh_12 rfl dX7_waiting_1 ?_
  refine jj_iload_n C 1 dX7_waiting_4 rfl rfl ?_
  refine jj_callVi C (As := [.int a1]) (rest := []) (fun z hz => c_Grid_hasNode hz) (q_Mesh_54 C.2.2.2.2.1 (rm := { frames := 0, cells := 0, slots := 0, locals := 0 }) rfl rfl ⟨Nat.le_trans (by decide) hRm.1, Nat.le_trans (by decide) hRm.2⟩) (g_1 n S SD) k_Grid rfl rfl (Nat.le_of_ble_eq_true rfl) dX7_waiting_5 (fun r2 σ1 _ => ?_)
  refine jj_if_ne C (tgt := 13) dX7_waiting_8 (by decide) (fun _ => ?_) (fun _ => ?_)
  · refine jj_aload_n C 0 dX7_waiting_13 rfl rfl ?_
    refine jj_getr C 0 3 in_Mesh (g_0 n S SD) k_Mesh (by decide) fl_Mesh_39 rfl dX7_waiting_14 ?_
    refine jj_getr C 16 3 in_Ifs (g_16 n S SD) k_Ifs (by decide) fl_Mesh_61 rfl dX7_waiting_17 ?_
    refine jj_getr C 20 3 in_Queues (g_20 n S SD) k_Queues (by decide) fl_Mesh_111 rfl dX7_waiting_20 ?_
    refine jj_iload_n C 1 dX7_waiting_23 rfl rfl ?_
    refine jj_iald C 22 (g_22 n S SD) dX7_waiting_24 ?_
    refine jj_bipush C (v := (8 : Int32)) dX7_waiting_25 (by decide) ?_
    refine jj_aload_n C 0 dX7_waiting_27 rfl rfl ?_
    refine jj_getr C 0 3 in_Mesh (g_0 n S SD) k_Mesh (by decide) fl_Mesh_39 rfl dX7_waiting_28 ?_
    refine jj_getr C 16 4 in_Ifs (g_16 n S SD) k_Ifs (by decide) fl_Mesh_113 rfl dX7_waiting_31 ?_
    refine jj_getr C 24 3 in_Queues (g_24 n S SD) k_Queues (by decide) fl_Mesh_111 rfl dX7_waiting_34 ?_
    refine jj_iload_n C 1 dX7_waiting_37 rfl rfl ?_
    refine jj_iald C 26 (g_26 n S SD) dX7_waiting_38 ?_
    refine jj_imul C dX7_waiting_39 ?_
    refine jj_iadd C dX7_waiting_40 ?_
    exact jj_iret C hr hlocks dX7_waiting_41
  · refine jj_iconst C (v := (-1 : Int32)) dX7_waiting_11 (by decide) ?_
    exact jj_iret C hr hlocks dX7_waiting_12

set_option maxHeartbeats 4000000 in
set_option maxRecDepth 100000 in
theorem c_Grid_hasChannel {l : Launch} {D : va_G} {ad : Nat → Nat} {cA : FieldType → ClassId} {n S SD F : Nat} {σ : jj_S} {a1 : Int32} {z : (Int32 × jj_S)} (ho : f_Grid_hasChannel n S SD F σ a1 = some z) : jj_Mi l yX1_hasChannel (Cond.code yX1_hasChannel cX1_hasChannel 2 (some .boolean) :: jw_t) { frames := 0, cells := 0, slots := 0, locals := 0 } D vwCl ad cA (gc n S SD) [.ref (ad 1), .int a1] σ z := by
  refine jj_ofi (cc := cX1_hasChannel) (nL := 2) (ret := (some .boolean)) rfl ho (Nat.le_of_ble_eq_true rfl) ?_
  intro p e s m below meth c C hr hlocks
  generalize hA : va_A (jj_w ad cA (gc n S SD) σ) s.heap.size = A at C ⊢
  have hRm : 0 ≤ (headSpec (Cond.code yX1_hasChannel cX1_hasChannel 2 (some .boolean) :: jw_t) { frames := 0, cells := 0, slots := 0, locals := 0 }).room.frames ∧ 0 ≤ (headSpec (Cond.code yX1_hasChannel cX1_hasChannel 2 (some .boolean) :: jw_t) { frames := 0, cells := 0, slots := 0, locals := 0 }).room.locals := ⟨Nat.le_refl _, Nat.le_refl _⟩
  generalize (headSpec (Cond.code yX1_hasChannel cX1_hasChannel 2 (some .boolean) :: jw_t) { frames := 0, cells := 0, slots := 0, locals := 0 }).room = R at C hRm ⊢
  generalize List.toArray ([.ref (ad 1), .int a1] : List Value) = args at C ⊢
  refine jj_sub (lv' := [(0, .ref (ad 1)), (1, .int a1)]) [0, 1] rfl ?_
  unfold f_Grid_hasChannel
  refine jj_iload_n C 1 dX1_hasChannel_0 rfl rfl ?_
  refine jj_if_lt C (tgt := 16) dX1_hasChannel_1 (by decide) (fun _ => ?_) (fun _ => ?_)
  · refine jj_iconst C (v := (0 : Int32)) dX1_hasChannel_16 (by decide) ?_
    exact jj_zret C hr hlocks (by first | rfl | decide +kernel) dX1_hasChannel_17
  · refine jj_iload_n C 1 dX1_hasChannel_4 rfl rfl ?_
    refine jj_aload_n C 0 dX1_hasChannel_5 rfl rfl ?_
    refine jj_geti C 1 4 in_Grid (g_1 n S SD) k_Grid (by decide) fl_Grid_28 rfl dX1_hasChannel_6 ?_
    refine jj_icmp_ge C (tgt := 16) dX1_hasChannel_9 (by decide) (fun _ => ?_) (fun _ => ?_)
    · refine jj_iconst C (v := (0 : Int32)) dX1_hasChannel_16 (by decide) ?_
      exact jj_zret C hr hlocks (by first | rfl | decide +kernel) dX1_hasChannel_17
    · refine jj_iconst C (v := (1 : Int32)) dX1_hasChannel_12 (by decide) ?_
      refine jj_goto C (tgt := 17) dX1_hasChannel_13 (by decide) ?_
      exact jj_zret C hr hlocks (by first | rfl | decide +kernel) dX1_hasChannel_17

set_option maxHeartbeats 4000000 in
set_option maxRecDepth 100000 in
theorem c_Mesh_isRouterPlace {l : Launch} {D : va_G} {ad : Nat → Nat} {cA : FieldType → ClassId} {n S SD F : Nat} {σ : jj_S} {a1 a2 a3 : Int32} {z : (Int32 × jj_S)} (ho : f_Mesh_isRouterPlace n S SD F σ a1 a2 a3 = some z) : jj_Mi l yX7_isRouterPlace (Cond.code yX7_isRouterPlace cX7_isRouterPlace 4 (some .boolean) :: jw_t) { frames := 1, cells := 0, slots := 0, locals := 40 } D vwCl ad cA (gc n S SD) [.ref (ad 0), .int a1, .int a2, .int a3] σ z := by
  refine jj_ofi (cc := cX7_isRouterPlace) (nL := 4) (ret := (some .boolean)) rfl ho (Nat.le_of_ble_eq_true rfl) ?_
  intro p e s m below meth c C hr hlocks
  generalize hA : va_A (jj_w ad cA (gc n S SD) σ) s.heap.size = A at C ⊢
  have hRm : 1 ≤ (headSpec (Cond.code yX7_isRouterPlace cX7_isRouterPlace 4 (some .boolean) :: jw_t) { frames := 1, cells := 0, slots := 0, locals := 40 }).room.frames ∧ 40 ≤ (headSpec (Cond.code yX7_isRouterPlace cX7_isRouterPlace 4 (some .boolean) :: jw_t) { frames := 1, cells := 0, slots := 0, locals := 40 }).room.locals := ⟨Nat.le_refl _, Nat.le_refl _⟩
  generalize (headSpec (Cond.code yX7_isRouterPlace cX7_isRouterPlace 4 (some .boolean) :: jw_t) { frames := 1, cells := 0, slots := 0, locals := 40 }).room = R at C hRm ⊢
  generalize List.toArray ([.ref (ad 0), .int a1, .int a2, .int a3] : List Value) = args at C ⊢
  refine jj_sub (lv' := [(0, .ref (ad 0)), (1, .int a1), (2, .int a2), (3, .int a3)]) [0, 1, 2, 3] rfl ?_
  unfold f_Mesh_isRouterPlace
  refine jj_aload_n C 0 dX7_isRouterPlace_0 rfl rfl ?_
  refine jj_getr C 0 0 in_Mesh (g_0 n S SD) k_Mesh (by decide) fl_Mesh_12 rfl dX7_isRouterPlace_1 ?_
  refine jj_iload_n C 1 dX7_isRouterPlace_4 rfl rfl ?_
  refine jj_callVi C (As := [.int a1]) (rest := []) (fun z hz => c_Grid_hasNode hz) (q_Mesh_54 C.2.2.2.2.1 (rm := { frames := 0, cells := 0, slots := 0, locals := 0 }) rfl rfl ⟨Nat.le_trans (by decide) hRm.1, Nat.le_trans (by decide) hRm.2⟩) (g_1 n S SD) k_Grid rfl rfl (Nat.le_of_ble_eq_true rfl) dX7_isRouterPlace_5 (fun r2 σ1 _ => ?_)
  refine jj_if_eq C (tgt := 35) dX7_isRouterPlace_8 (by decide) (fun _ => ?_) (fun _ => ?_)
  · refine jj_iconst C (v := (0 : Int32)) dX7_isRouterPlace_35 (by decide) ?_
    exact jj_zret C hr hlocks (by first | rfl | decide +kernel) dX7_isRouterPlace_36
  · refine jj_iload_n C 2 dX7_isRouterPlace_11 rfl rfl ?_
    refine jj_if_lt C (tgt := 35) dX7_isRouterPlace_12 (by decide) (fun _ => ?_) (fun _ => ?_)
    · refine jj_iconst C (v := (0 : Int32)) dX7_isRouterPlace_35 (by decide) ?_
      exact jj_zret C hr hlocks (by first | rfl | decide +kernel) dX7_isRouterPlace_36
    · refine jj_iload_n C 2 dX7_isRouterPlace_15 rfl rfl ?_
      refine jj_iconst C (v := (5 : Int32)) dX7_isRouterPlace_16 (by decide) ?_
      refine jj_icmp_ge C (tgt := 35) dX7_isRouterPlace_17 (by decide) (fun _ => ?_) (fun _ => ?_)
      · refine jj_iconst C (v := (0 : Int32)) dX7_isRouterPlace_35 (by decide) ?_
        exact jj_zret C hr hlocks (by first | rfl | decide +kernel) dX7_isRouterPlace_36
      · refine jj_aload_n C 0 dX7_isRouterPlace_20 rfl rfl ?_
        refine jj_getr C 0 0 in_Mesh (g_0 n S SD) k_Mesh (by decide) fl_Mesh_12 rfl dX7_isRouterPlace_21 ?_
        refine jj_iload_n C 3 dX7_isRouterPlace_24 rfl rfl ?_
        refine jj_callVi C (As := [.int a3]) (rest := []) (fun z hz => c_Grid_hasChannel hz) (q_Mesh_137 C.2.2.2.2.1 (rm := { frames := 0, cells := 0, slots := 0, locals := 0 }) rfl rfl ⟨Nat.le_trans (by decide) hRm.1, Nat.le_trans (by decide) hRm.2⟩) (g_1 n S SD) k_Grid rfl rfl (Nat.le_of_ble_eq_true rfl) dX7_isRouterPlace_25 (fun r4 σ3 _ => ?_)
        refine jj_if_eq C (tgt := 35) dX7_isRouterPlace_28 (by decide) (fun _ => ?_) (fun _ => ?_)
        · refine jj_iconst C (v := (0 : Int32)) dX7_isRouterPlace_35 (by decide) ?_
          exact jj_zret C hr hlocks (by first | rfl | decide +kernel) dX7_isRouterPlace_36
        · refine jj_iconst C (v := (1 : Int32)) dX7_isRouterPlace_31 (by decide) ?_
          refine jj_goto C (tgt := 36) dX7_isRouterPlace_32 (by decide) ?_
          exact jj_zret C hr hlocks (by first | rfl | decide +kernel) dX7_isRouterPlace_36

set_option maxHeartbeats 4000000 in
set_option maxRecDepth 100000 in
theorem c_Mesh_lane {l : Launch} {D : va_G} {ad : Nat → Nat} {cA : FieldType → ClassId} {n S SD F : Nat} {σ : jj_S} {a1 a2 a3 : Int32} {z : (Int32 × jj_S)} (ho : f_Mesh_lane n S SD F σ a1 a2 a3 = some z) : jj_Mi l yX7_lane (Cond.code yX7_lane cX7_lane 7 (some .int) :: jw_t) { frames := 2, cells := 0, slots := 0, locals := 80 } D vwCl ad cA (gc n S SD) [.ref (ad 0), .int a1, .int a2, .int a3] σ z := by
  refine jj_ofi (cc := cX7_lane) (nL := 7) (ret := (some .int)) rfl ho (Nat.le_of_ble_eq_true rfl) ?_
  intro p e s m below meth c C hr hlocks
  generalize hA : va_A (jj_w ad cA (gc n S SD) σ) s.heap.size = A at C ⊢
  have hRm : 2 ≤ (headSpec (Cond.code yX7_lane cX7_lane 7 (some .int) :: jw_t) { frames := 2, cells := 0, slots := 0, locals := 80 }).room.frames ∧ 80 ≤ (headSpec (Cond.code yX7_lane cX7_lane 7 (some .int) :: jw_t) { frames := 2, cells := 0, slots := 0, locals := 80 }).room.locals := ⟨Nat.le_refl _, Nat.le_refl _⟩
  generalize (headSpec (Cond.code yX7_lane cX7_lane 7 (some .int) :: jw_t) { frames := 2, cells := 0, slots := 0, locals := 80 }).room = R at C hRm ⊢
  generalize List.toArray ([.ref (ad 0), .int a1, .int a2, .int a3] : List Value) = args at C ⊢
  refine jj_sub (lv' := [(0, .ref (ad 0)), (1, .int a1), (2, .int a2), (3, .int a3)]) [0, 1, 2, 3] rfl ?_
  unfold f_Mesh_lane
  refine jj_aload_n C 0 dX7_lane_0 rfl rfl ?_
  refine jj_iload_n C 1 dX7_lane_1 rfl rfl ?_
  refine jj_iload_n C 2 dX7_lane_2 rfl rfl ?_
  refine jj_iload_n C 3 dX7_lane_3 rfl rfl ?_
  refine jj_callVi C (As := [.int a1, .int a2, .int a3]) (rest := []) (fun z hz => c_Mesh_isRouterPlace hz) (q_Mesh_116 C.2.2.2.2.1 (rm := { frames := 1, cells := 0, slots := 0, locals := 40 }) rfl rfl ⟨Nat.le_trans (by decide) hRm.1, Nat.le_trans (by decide) hRm.2⟩) (g_0 n S SD) k_Mesh rfl rfl (Nat.le_of_ble_eq_true rfl) dX7_lane_4 (fun r2 σ1 _ => ?_)
  refine jj_if_ne C (tgt := 12) dX7_lane_7 (by decide) (fun _ => ?_) (fun _ => ?_)
  · refine jj_aload_n C 0 dX7_lane_12 rfl rfl ?_
    refine jj_getr C 0 0 in_Mesh (g_0 n S SD) k_Mesh (by decide) fl_Mesh_12 rfl dX7_lane_13 ?_
    refine jj_iload_n C 1 dX7_lane_16 rfl rfl ?_
    refine jj_iload_n C 2 dX7_lane_17 rfl rfl ?_
    refine jj_iload_n C 3 dX7_lane_18 rfl rfl ?_
    refine jj_callVi C (As := [.int a1, .int a2, .int a3]) (rest := []) (fun z hz => c_Grid_slot hz) (q_Mesh_120 C.2.2.2.2.1 (rm := { frames := 0, cells := 0, slots := 0, locals := 0 }) rfl rfl ⟨Nat.le_trans (by decide) hRm.1, Nat.le_trans (by decide) hRm.2⟩) (g_1 n S SD) k_Grid rfl rfl (Nat.le_of_ble_eq_true rfl) dX7_lane_19 (fun r4 σ3 _ => ?_)
    refine jj_istore C [(4, .int r4), (0, .ref (ad 0)), (1, .int a1), (2, .int a2), (3, .int a3)] dX7_lane_22 (by decide) rfl ?_
    refine jj_aload_n C 1 dX7_lane_24 rfl rfl ?_
    refine jj_getr C 0 4 in_Mesh (g_0 n S SD) k_Mesh (by decide) fl_Mesh_46 rfl dX7_lane_25 ?_
    refine jj_getr C 30 3 in_Routers (g_30 n S SD) k_Routers (by decide) fl_Mesh_124 rfl dX7_lane_28 ?_
    refine jj_iload C 0 dX7_lane_31 rfl ?_
    refine jj_iald C 32 (g_32 n S SD) dX7_lane_33 ?_
    refine jj_ltn (fun v5_5 => ?_)
    refine jj_istore C [(5, .int v5_5), (4, .int r4), (0, .ref (ad 0)), (1, .int a1), (2, .int a2), (3, .int a3)] dX7_lane_34 (by decide) rfl ?_
    refine jj_iload C 0 dX7_lane_36 rfl ?_
    refine jj_if_ne C (tgt := 45) dX7_lane_38 (by decide) (fun _ => ?_) (fun _ => ?_)
    · refine jj_aload_n C 2 dX7_lane_45 rfl rfl ?_
      refine jj_getr C 0 4 in_Mesh (g_0 n S SD) k_Mesh (by decide) fl_Mesh_46 rfl dX7_lane_46 ?_
      refine jj_getr C 30 4 in_Routers (g_30 n S SD) k_Routers (by decide) fl_Mesh_127 rfl dX7_lane_49 ?_
      refine jj_iload C 1 dX7_lane_52 rfl ?_
      refine jj_iald C 33 (g_33 n S SD) dX7_lane_54 ?_
      refine jj_ltn (fun v6_6 => ?_)
      refine jj_istore C [(6, .int v6_6), (5, .int v5_5), (4, .int r4), (0, .ref (ad 0)), (1, .int a1), (2, .int a2), (3, .int a3)] dX7_lane_55 (by decide) rfl ?_
      refine jj_aload_n C 3 dX7_lane_57 rfl rfl ?_
      refine jj_getr C 0 1 in_Mesh (g_0 n S SD) k_Mesh (by decide) fl_Mesh_23 rfl dX7_lane_58 ?_
      refine jj_getr C 2 4 in_Links (g_2 n S SD) k_Links (by decide) fl_Mesh_130 rfl dX7_lane_61 ?_
      refine jj_iload C 2 dX7_lane_64 rfl ?_
      refine jj_iald C 6 (g_6 n S SD) dX7_lane_66 ?_
      refine jj_bipush C (v := (8 : Int32)) dX7_lane_67 (by decide) ?_
      refine jj_iload C 1 dX7_lane_69 rfl ?_
      refine jj_imul C dX7_lane_71 ?_
      refine jj_iadd C dX7_lane_72 ?_
      refine jj_bipush C (v := (64 : Int32)) dX7_lane_73 (by decide) ?_
      refine jj_iload C 0 dX7_lane_75 rfl ?_
      refine jj_imul C dX7_lane_77 ?_
      refine jj_iadd C dX7_lane_78 ?_
      exact jj_iret C hr hlocks dX7_lane_79
    · refine jj_iconst C (v := (0 : Int32)) dX7_lane_41 (by decide) ?_
      refine jj_goto C (tgt := 55) dX7_lane_42 (by decide) ?_
      refine jj_istore C [(6, .int (0 : Int32)), (5, .int v5_5), (4, .int r4), (0, .ref (ad 0)), (1, .int a1), (2, .int a2), (3, .int a3)] dX7_lane_55 (by decide) rfl ?_
      refine jj_aload_n C 3 dX7_lane_57 rfl rfl ?_
      refine jj_getr C 0 1 in_Mesh (g_0 n S SD) k_Mesh (by decide) fl_Mesh_23 rfl dX7_lane_58 ?_
      refine jj_getr C 2 4 in_Links (g_2 n S SD) k_Links (by decide) fl_Mesh_130 rfl dX7_lane_61 ?_
      refine jj_iload C 2 dX7_lane_64 rfl ?_
      refine jj_iald C 6 (g_6 n S SD) dX7_lane_66 ?_
      refine jj_bipush C (v := (8 : Int32)) dX7_lane_67 (by decide) ?_
      refine jj_iload C 1 dX7_lane_69 rfl ?_
      refine jj_imul C dX7_lane_71 ?_
      refine jj_iadd C dX7_lane_72 ?_
      refine jj_bipush C (v := (64 : Int32)) dX7_lane_73 (by decide) ?_
      refine jj_iload C 0 dX7_lane_75 rfl ?_
      refine jj_imul C dX7_lane_77 ?_
      refine jj_iadd C dX7_lane_78 ?_
      exact jj_iret C hr hlocks dX7_lane_79
  · refine jj_iconst C (v := (-1 : Int32)) dX7_lane_10 (by decide) ?_
    exact jj_iret C hr hlocks dX7_lane_11

set_option maxHeartbeats 4000000 in
set_option maxRecDepth 100000 in
theorem c_Mesh_output {l : Launch} {D : va_G} {ad : Nat → Nat} {cA : FieldType → ClassId} {n S SD F : Nat} {σ : jj_S} {a1 a2 a3 : Int32} {z : (Int32 × jj_S)} (ho : f_Mesh_output n S SD F σ a1 a2 a3 = some z) : jj_Mi l yX7_output (Cond.code yX7_output cX7_output 5 (some .int) :: jw_t) { frames := 2, cells := 0, slots := 0, locals := 80 } D vwCl ad cA (gc n S SD) [.ref (ad 0), .int a1, .int a2, .int a3] σ z := by
  refine jj_ofi (cc := cX7_output) (nL := 5) (ret := (some .int)) rfl ho (Nat.le_of_ble_eq_true rfl) ?_
  intro p e s m below meth c C hr hlocks
  generalize hA : va_A (jj_w ad cA (gc n S SD) σ) s.heap.size = A at C ⊢
  have hRm : 2 ≤ (headSpec (Cond.code yX7_output cX7_output 5 (some .int) :: jw_t) { frames := 2, cells := 0, slots := 0, locals := 80 }).room.frames ∧ 80 ≤ (headSpec (Cond.code yX7_output cX7_output 5 (some .int) :: jw_t) { frames := 2, cells := 0, slots := 0, locals := 80 }).room.locals := ⟨Nat.le_refl _, Nat.le_refl _⟩
  generalize (headSpec (Cond.code yX7_output cX7_output 5 (some .int) :: jw_t) { frames := 2, cells := 0, slots := 0, locals := 80 }).room = R at C hRm ⊢
  generalize List.toArray ([.ref (ad 0), .int a1, .int a2, .int a3] : List Value) = args at C ⊢
  refine jj_sub (lv' := [(0, .ref (ad 0)), (1, .int a1), (2, .int a2), (3, .int a3)]) [0, 1, 2, 3] rfl ?_
  unfold f_Mesh_output
  refine jj_aload_n C 0 dX7_output_0 rfl rfl ?_
  refine jj_iload_n C 1 dX7_output_1 rfl rfl ?_
  refine jj_iload_n C 2 dX7_output_2 rfl rfl ?_
  refine jj_iload_n C 3 dX7_output_3 rfl rfl ?_
  refine jj_callVi C (As := [.int a1, .int a2, .int a3]) (rest := []) (fun z hz => c_Mesh_isRouterPlace hz) (q_Mesh_116 C.2.2.2.2.1 (rm := { frames := 1, cells := 0, slots := 0, locals := 40 }) rfl rfl ⟨Nat.le_trans (by decide) hRm.1, Nat.le_trans (by decide) hRm.2⟩) (g_0 n S SD) k_Mesh rfl rfl (Nat.le_of_ble_eq_true rfl) dX7_output_4 (fun r2 σ1 _ => ?_)
  refine jj_if_ne C (tgt := 12) dX7_output_7 (by decide) (fun _ => ?_) (fun _ => ?_)
  · refine jj_aload_n C 0 dX7_output_12 rfl rfl ?_
    refine jj_getr C 0 0 in_Mesh (g_0 n S SD) k_Mesh (by decide) fl_Mesh_12 rfl dX7_output_13 ?_
    refine jj_iload_n C 1 dX7_output_16 rfl rfl ?_
    refine jj_iload_n C 2 dX7_output_17 rfl rfl ?_
    refine jj_iload_n C 3 dX7_output_18 rfl rfl ?_
    refine jj_callVi C (As := [.int a1, .int a2, .int a3]) (rest := []) (fun z hz => c_Grid_slot hz) (q_Mesh_120 C.2.2.2.2.1 (rm := { frames := 0, cells := 0, slots := 0, locals := 0 }) rfl rfl ⟨Nat.le_trans (by decide) hRm.1, Nat.le_trans (by decide) hRm.2⟩) (g_1 n S SD) k_Grid rfl rfl (Nat.le_of_ble_eq_true rfl) dX7_output_19 (fun r4 σ3 _ => ?_)
    refine jj_istore C [(4, .int r4), (0, .ref (ad 0)), (1, .int a1), (2, .int a2), (3, .int a3)] dX7_output_22 (by decide) rfl ?_
    refine jj_aload_n C 1 dX7_output_24 rfl rfl ?_
    refine jj_getr C 0 1 in_Mesh (g_0 n S SD) k_Mesh (by decide) fl_Mesh_23 rfl dX7_output_25 ?_
    refine jj_getr C 2 5 in_Links (g_2 n S SD) k_Links (by decide) fl_Mesh_131 rfl dX7_output_28 ?_
    refine jj_iload C 0 dX7_output_31 rfl ?_
    refine jj_iald C 7 (g_7 n S SD) dX7_output_33 ?_
    refine jj_aload_n C 1 dX7_output_34 rfl rfl ?_
    refine jj_getr C 0 4 in_Mesh (g_0 n S SD) k_Mesh (by decide) fl_Mesh_46 rfl dX7_output_35 ?_
    refine jj_getr C 30 5 in_Routers (g_30 n S SD) k_Routers (by decide) fl_Mesh_134 rfl dX7_output_38 ?_
    refine jj_iload C 0 dX7_output_41 rfl ?_
    refine jj_zald C 34 (g_34 n S SD) dX7_output_43 ?_
    refine jj_if_eq C (tgt := 52) dX7_output_44 (by decide) (fun _ => ?_) (fun _ => ?_)
    · refine jj_iconst C (v := (0 : Int32)) dX7_output_52 (by decide) ?_
      refine jj_iadd C dX7_output_53 ?_
      exact jj_iret C hr hlocks dX7_output_54
    · refine jj_bipush C (v := (8 : Int32)) dX7_output_47 (by decide) ?_
      refine jj_goto C (tgt := 53) dX7_output_49 (by decide) ?_
      refine jj_iadd C dX7_output_53 ?_
      exact jj_iret C hr hlocks dX7_output_54
  · refine jj_iconst C (v := (-1 : Int32)) dX7_output_10 (by decide) ?_
    exact jj_iret C hr hlocks dX7_output_11

set_option maxHeartbeats 4000000 in
set_option maxRecDepth 100000 in
theorem c_Mesh_arrival {l : Launch} {D : va_G} {ad : Nat → Nat} {cA : FieldType → ClassId} {n S SD F : Nat} {σ : jj_S} {a1 a2 : Int32} {z : (Int32 × jj_S)} (ho : f_Mesh_arrival n S SD F σ a1 a2 = some z) : jj_Mi l yX7_arrival (Cond.code yX7_arrival cX7_arrival 4 (some .int) :: jw_t) { frames := 1, cells := 0, slots := 0, locals := 40 } D vwCl ad cA (gc n S SD) [.ref (ad 0), .int a1, .int a2] σ z := by
  refine jj_ofi (cc := cX7_arrival) (nL := 4) (ret := (some .int)) rfl ho (Nat.le_of_ble_eq_true rfl) ?_
  intro p e s m below meth c C hr hlocks
  generalize hA : va_A (jj_w ad cA (gc n S SD) σ) s.heap.size = A at C ⊢
  have hRm : 1 ≤ (headSpec (Cond.code yX7_arrival cX7_arrival 4 (some .int) :: jw_t) { frames := 1, cells := 0, slots := 0, locals := 40 }).room.frames ∧ 40 ≤ (headSpec (Cond.code yX7_arrival cX7_arrival 4 (some .int) :: jw_t) { frames := 1, cells := 0, slots := 0, locals := 40 }).room.locals := ⟨Nat.le_refl _, Nat.le_refl _⟩
  generalize (headSpec (Cond.code yX7_arrival cX7_arrival 4 (some .int) :: jw_t) { frames := 1, cells := 0, slots := 0, locals := 40 }).room = R at C hRm ⊢
  generalize List.toArray ([.ref (ad 0), .int a1, .int a2] : List Value) = args at C ⊢
  refine jj_sub (lv' := [(0, .ref (ad 0)), (1, .int a1), (2, .int a2)]) [0, 1, 2] rfl ?_
  unfold f_Mesh_arrival
  refine jj_aload_n C 0 dX7_arrival_0 rfl rfl ?_
  refine jj_getr C 0 0 in_Mesh (g_0 n S SD) k_Mesh (by decide) fl_Mesh_12 rfl dX7_arrival_1 ?_
  refine jj_iload_n C 1 dX7_arrival_4 rfl rfl ?_
  refine jj_callVi C (As := [.int a1]) (rest := []) (fun z hz => c_Grid_hasNode hz) (q_Mesh_54 C.2.2.2.2.1 (rm := { frames := 0, cells := 0, slots := 0, locals := 0 }) rfl rfl ⟨Nat.le_trans (by decide) hRm.1, Nat.le_trans (by decide) hRm.2⟩) (g_1 n S SD) k_Grid rfl rfl (Nat.le_of_ble_eq_true rfl) dX7_arrival_5 (fun r2 σ1 _ => ?_)
  refine jj_if_eq C (tgt := 22) dX7_arrival_8 (by decide) (fun _ => ?_) (fun _ => ?_)
  · refine jj_iconst C (v := (-1 : Int32)) dX7_arrival_22 (by decide) ?_
    exact jj_iret C hr hlocks dX7_arrival_23
  · refine jj_aload_n C 0 dX7_arrival_11 rfl rfl ?_
    refine jj_getr C 0 0 in_Mesh (g_0 n S SD) k_Mesh (by decide) fl_Mesh_12 rfl dX7_arrival_12 ?_
    refine jj_iload_n C 2 dX7_arrival_15 rfl rfl ?_
    refine jj_callVi C (As := [.int a2]) (rest := []) (fun z hz => c_Grid_hasChannel hz) (q_Mesh_137 C.2.2.2.2.1 (rm := { frames := 0, cells := 0, slots := 0, locals := 0 }) rfl rfl ⟨Nat.le_trans (by decide) hRm.1, Nat.le_trans (by decide) hRm.2⟩) (g_1 n S SD) k_Grid rfl rfl (Nat.le_of_ble_eq_true rfl) dX7_arrival_16 (fun r4 σ3 _ => ?_)
    refine jj_if_ne C (tgt := 24) dX7_arrival_19 (by decide) (fun _ => ?_) (fun _ => ?_)
    · refine jj_aload_n C 0 dX7_arrival_24 rfl rfl ?_
      refine jj_getr C 0 0 in_Mesh (g_0 n S SD) k_Mesh (by decide) fl_Mesh_12 rfl dX7_arrival_25 ?_
      refine jj_iload_n C 1 dX7_arrival_28 rfl rfl ?_
      refine jj_iconst C (v := (5 : Int32)) dX7_arrival_29 (by decide) ?_
      refine jj_iload_n C 2 dX7_arrival_30 rfl rfl ?_
      refine jj_callVi C (As := [.int a1, .int (5 : Int32), .int a2]) (rest := []) (fun z hz => c_Grid_slot hz) (q_Mesh_120 C.2.2.2.2.1 (rm := { frames := 0, cells := 0, slots := 0, locals := 0 }) rfl rfl ⟨Nat.le_trans (by decide) hRm.1, Nat.le_trans (by decide) hRm.2⟩) (g_1 n S SD) k_Grid rfl rfl (Nat.le_of_ble_eq_true rfl) dX7_arrival_31 (fun r6 σ5 _ => ?_)
      refine jj_istore_n C [(3, .int r6), (0, .ref (ad 0)), (1, .int a1), (2, .int a2)] dX7_arrival_34 rfl (by decide) rfl ?_
      refine jj_aload_n C 1 dX7_arrival_35 rfl rfl ?_
      refine jj_getr C 0 1 in_Mesh (g_0 n S SD) k_Mesh (by decide) fl_Mesh_23 rfl dX7_arrival_36 ?_
      refine jj_getr C 2 4 in_Links (g_2 n S SD) k_Links (by decide) fl_Mesh_130 rfl dX7_arrival_39 ?_
      refine jj_iload_n C 0 dX7_arrival_42 rfl rfl ?_
      refine jj_iald C 6 (g_6 n S SD) dX7_arrival_43 ?_
      refine jj_bipush C (v := (8 : Int32)) dX7_arrival_44 (by decide) ?_
      refine jj_aload_n C 1 dX7_arrival_46 rfl rfl ?_
      refine jj_getr C 0 1 in_Mesh (g_0 n S SD) k_Mesh (by decide) fl_Mesh_23 rfl dX7_arrival_47 ?_
      refine jj_getr C 2 5 in_Links (g_2 n S SD) k_Links (by decide) fl_Mesh_131 rfl dX7_arrival_50 ?_
      refine jj_iload_n C 0 dX7_arrival_53 rfl rfl ?_
      refine jj_iald C 7 (g_7 n S SD) dX7_arrival_54 ?_
      refine jj_imul C dX7_arrival_55 ?_
      refine jj_iadd C dX7_arrival_56 ?_
      exact jj_iret C hr hlocks dX7_arrival_57
    · refine jj_iconst C (v := (-1 : Int32)) dX7_arrival_22 (by decide) ?_
      exact jj_iret C hr hlocks dX7_arrival_23

set_option maxHeartbeats 4000000 in
set_option maxRecDepth 100000 in
theorem c_Mesh_sent {l : Launch} {D : va_G} {ad : Nat → Nat} {cA : FieldType → ClassId} {n S SD F : Nat} {σ : jj_S} {z : (Int32 × jj_S)} (ho : f_Mesh_sent n S SD F σ = some z) : jj_Mi l yX7_sent (Cond.code yX7_sent cX7_sent 1 (some .int) :: jw_t) { frames := 0, cells := 0, slots := 0, locals := 0 } D vwCl ad cA (gc n S SD) [.ref (ad 0)] σ z := by
  refine jj_ofi (cc := cX7_sent) (nL := 1) (ret := (some .int)) rfl ho (Nat.le_of_ble_eq_true rfl) ?_
  intro p e s m below meth c C hr hlocks
  generalize hA : va_A (jj_w ad cA (gc n S SD) σ) s.heap.size = A at C ⊢
  have hRm : 0 ≤ (headSpec (Cond.code yX7_sent cX7_sent 1 (some .int) :: jw_t) { frames := 0, cells := 0, slots := 0, locals := 0 }).room.frames ∧ 0 ≤ (headSpec (Cond.code yX7_sent cX7_sent 1 (some .int) :: jw_t) { frames := 0, cells := 0, slots := 0, locals := 0 }).room.locals := ⟨Nat.le_refl _, Nat.le_refl _⟩
  generalize (headSpec (Cond.code yX7_sent cX7_sent 1 (some .int) :: jw_t) { frames := 0, cells := 0, slots := 0, locals := 0 }).room = R at C hRm ⊢
  generalize List.toArray ([.ref (ad 0)] : List Value) = args at C ⊢
  refine jj_sub (lv' := [(0, .ref (ad 0))]) [0] rfl ?_
  unfold f_Mesh_sent
  refine jj_aload_n C 0 dX7_sent_0 rfl rfl ?_
  refine jj_getr C 0 1 in_Mesh (g_0 n S SD) k_Mesh (by decide) fl_Mesh_23 rfl dX7_sent_1 ?_
  refine jj_geti C 2 8 in_Links (g_2 n S SD) k_Links (by decide) fl_Mesh_140 rfl dX7_sent_4 ?_
  exact jj_iret C hr hlocks dX7_sent_7
