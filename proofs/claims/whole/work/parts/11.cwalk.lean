set_option maxHeartbeats 4000000 in
set_option maxRecDepth 100000 in
theorem c_Ifs_mayTake {l : Launch} {D : va_G} {ad : Nat → Nat} {cA : FieldType → ClassId} {n S SD F : Nat} {σ : jj_S} {a1 a2 : Int32} {z : (Int32 × jj_S)} (ho : f_Ifs_mayTake n S SD F σ a1 a2 = some z) : jj_Mi l yX2_mayTake (Cond.code yX2_mayTake cX2_mayTake 3 (some .boolean) :: jw_t) { frames := 1, cells := 0, slots := 0, locals := 40 } D vwCl ad cA (gc n S SD) [.ref (ad 16), .int a1, .int a2] σ z := by
  refine jj_ofi (cc := cX2_mayTake) (nL := 3) (ret := (some .boolean)) rfl ho (Nat.le_of_ble_eq_true rfl) ?_
  intro p e s m below meth c C hr hlocks
  generalize hA : va_A (jj_w ad cA (gc n S SD) σ) s.heap.size = A at C ⊢
  have hRm : 1 ≤ (headSpec (Cond.code yX2_mayTake cX2_mayTake 3 (some .boolean) :: jw_t) { frames := 1, cells := 0, slots := 0, locals := 40 }).room.frames ∧ 40 ≤ (headSpec (Cond.code yX2_mayTake cX2_mayTake 3 (some .boolean) :: jw_t) { frames := 1, cells := 0, slots := 0, locals := 40 }).room.locals := ⟨Nat.le_refl _, Nat.le_refl _⟩
  generalize (headSpec (Cond.code yX2_mayTake cX2_mayTake 3 (some .boolean) :: jw_t) { frames := 1, cells := 0, slots := 0, locals := 40 }).room = R at C hRm ⊢
  generalize List.toArray ([.ref (ad 16), .int a1, .int a2] : List Value) = args at C ⊢
  refine jj_sub (lv' := [(0, .ref (ad 16)), (1, .int a1), (2, .int a2)]) [0, 1, 2] rfl ?_
  unfold f_Ifs_mayTake
  refine jj_iload_n C 2 dX2_mayTake_0 rfl rfl ?_
  refine jj_callSi C (As := [.int a2]) (rest := []) (fun z hz => c_Packets_isOfReply hz) (q_Ifs_83 C.2.2.2.2.1 (rm := { frames := 0, cells := 0, slots := 0, locals := 0 }) rfl rfl ⟨Nat.le_trans (by decide) hRm.1, Nat.le_trans (by decide) hRm.2⟩) rfl rfl (Nat.le_of_ble_eq_true rfl) dX2_mayTake_1 (fun r2 σ1 _ => ?_)
  refine jj_if_ne C (tgt := 14) dX2_mayTake_4 (by decide) (fun _ => ?_) (fun _ => ?_)
  · refine jj_iconst C (v := (1 : Int32)) dX2_mayTake_14 (by decide) ?_
    exact jj_zret C hr hlocks (by first | rfl | decide +kernel) dX2_mayTake_15
  · refine jj_iload_n C 2 dX2_mayTake_7 rfl rfl ?_
    refine jj_callSi C (As := [.int a2]) (rest := []) (fun z hz => c_Packets_isLast hz) (q_Ifs_89 C.2.2.2.2.1 (rm := { frames := 0, cells := 0, slots := 0, locals := 0 }) rfl rfl ⟨Nat.le_trans (by decide) hRm.1, Nat.le_trans (by decide) hRm.2⟩) rfl rfl (Nat.le_of_ble_eq_true rfl) dX2_mayTake_8 (fun r4 σ3 _ => ?_)
    refine jj_if_ne C (tgt := 16) dX2_mayTake_11 (by decide) (fun _ => ?_) (fun _ => ?_)
    · refine jj_aload_n C 0 dX2_mayTake_16 rfl rfl ?_
      refine jj_getr C 16 7 in_Ifs (g_16 n S SD) k_Ifs (by decide) fl_Ifs_52 rfl dX2_mayTake_17 ?_
      refine jj_iload_n C 1 dX2_mayTake_20 rfl rfl ?_
      refine jj_zald C 29 (g_29 n S SD) dX2_mayTake_21 ?_
      refine jj_if_ne C (tgt := 40) dX2_mayTake_22 (by decide) (fun _ => ?_) (fun _ => ?_)
      · refine jj_iconst C (v := (0 : Int32)) dX2_mayTake_40 (by decide) ?_
        exact jj_zret C hr hlocks (by first | rfl | decide +kernel) dX2_mayTake_41
      · refine jj_aload_n C 0 dX2_mayTake_25 rfl rfl ?_
        refine jj_getr C 16 4 in_Ifs (g_16 n S SD) k_Ifs (by decide) fl_Ifs_45 rfl dX2_mayTake_26 ?_
        refine jj_iload_n C 1 dX2_mayTake_29 rfl rfl ?_
        refine jj_callVi C (As := [.int a1]) (rest := []) (fun z hz => c_Queues_isFullp hz) (q_Ifs_92 C.2.2.2.2.1 (rm := { frames := 0, cells := 0, slots := 0, locals := 0 }) rfl rfl ⟨Nat.le_trans (by decide) hRm.1, Nat.le_trans (by decide) hRm.2⟩) (g_24 n S SD) k_Queues rfl rfl (Nat.le_of_ble_eq_true rfl) dX2_mayTake_30 (fun r6 σ5 _ => ?_)
        refine jj_if_ne C (tgt := 40) dX2_mayTake_33 (by decide) (fun _ => ?_) (fun _ => ?_)
        · refine jj_iconst C (v := (0 : Int32)) dX2_mayTake_40 (by decide) ?_
          exact jj_zret C hr hlocks (by first | rfl | decide +kernel) dX2_mayTake_41
        · refine jj_iconst C (v := (1 : Int32)) dX2_mayTake_36 (by decide) ?_
          refine jj_goto C (tgt := 41) dX2_mayTake_37 (by decide) ?_
          exact jj_zret C hr hlocks (by first | rfl | decide +kernel) dX2_mayTake_41
    · refine jj_iconst C (v := (1 : Int32)) dX2_mayTake_14 (by decide) ?_
      exact jj_zret C hr hlocks (by first | rfl | decide +kernel) dX2_mayTake_15

set_option maxHeartbeats 4000000 in
set_option maxRecDepth 100000 in
theorem c_Links_takeOut {l : Launch} {D : va_G} {ad : Nat → Nat} {cA : FieldType → ClassId} {n S SD F : Nat} {σ : jj_S} {a1 : Int32} {z : (Int32 × jj_S)} (ho : f_Links_takeOut n S SD F σ a1 = some z) : jj_Mi l yX3_takeOut (Cond.code yX3_takeOut cX3_takeOut 3 (some .int) :: jw_t) { frames := 1, cells := 0, slots := 0, locals := 40 } D vwCl ad cA (gc n S SD) [.ref (ad 2), .int a1] σ z := by
  refine jj_ofi (cc := cX3_takeOut) (nL := 3) (ret := (some .int)) rfl ho (Nat.le_of_ble_eq_true rfl) ?_
  intro p e s m below meth c C hr hlocks
  generalize hA : va_A (jj_w ad cA (gc n S SD) σ) s.heap.size = A at C ⊢
  have hRm : 1 ≤ (headSpec (Cond.code yX3_takeOut cX3_takeOut 3 (some .int) :: jw_t) { frames := 1, cells := 0, slots := 0, locals := 40 }).room.frames ∧ 40 ≤ (headSpec (Cond.code yX3_takeOut cX3_takeOut 3 (some .int) :: jw_t) { frames := 1, cells := 0, slots := 0, locals := 40 }).room.locals := ⟨Nat.le_refl _, Nat.le_refl _⟩
  generalize (headSpec (Cond.code yX3_takeOut cX3_takeOut 3 (some .int) :: jw_t) { frames := 1, cells := 0, slots := 0, locals := 40 }).room = R at C hRm ⊢
  generalize List.toArray ([.ref (ad 2), .int a1] : List Value) = args at C ⊢
  refine jj_sub (lv' := [(0, .ref (ad 2)), (1, .int a1)]) [0, 1] rfl ?_
  unfold f_Links_takeOut
  refine jj_aload_n C 0 dX3_takeOut_0 rfl rfl ?_
  refine jj_iload_n C 1 dX3_takeOut_1 rfl rfl ?_
  refine jj_callVi C (As := [.int a1]) (rest := []) (fun z hz => c_Links_firstFlit hz) (q_Links_59 C.2.2.2.2.1 (rm := { frames := 0, cells := 0, slots := 0, locals := 0 }) rfl rfl ⟨Nat.le_trans (by decide) hRm.1, Nat.le_trans (by decide) hRm.2⟩) (g_2 n S SD) k_Links rfl rfl (Nat.le_of_ble_eq_true rfl) dX3_takeOut_2 (fun r2 σ1 _ => ?_)
  refine jj_istore_n C [(2, .int r2), (0, .ref (ad 2)), (1, .int a1)] dX3_takeOut_5 rfl (by decide) rfl ?_
  refine jj_aload_n C 1 dX3_takeOut_6 rfl rfl ?_
  refine jj_getr C 2 3 in_Links (g_2 n S SD) k_Links (by decide) fl_Links_28 rfl dX3_takeOut_7 ?_
  refine jj_iload_n C 2 dX3_takeOut_10 rfl rfl ?_
  refine jj_aload_n C 1 dX3_takeOut_11 rfl rfl ?_
  refine jj_getr C 2 3 in_Links (g_2 n S SD) k_Links (by decide) fl_Links_28 rfl dX3_takeOut_12 ?_
  refine jj_iload_n C 2 dX3_takeOut_15 rfl rfl ?_
  refine jj_iald C 5 (g_5 n S SD) dX3_takeOut_16 ?_
  refine jj_iconst C (v := (1 : Int32)) dX3_takeOut_17 (by decide) ?_
  refine jj_iadd C dX3_takeOut_18 ?_
  refine jj_aload_n C 1 dX3_takeOut_19 rfl rfl ?_
  refine jj_geti C 2 0 in_Links (g_2 n S SD) k_Links (by decide) fl_Links_15 rfl dX3_takeOut_20 ?_
  refine jj_irem C dX3_takeOut_23 ?_
  refine jj_iast C 5 (g_5 n S SD) dX3_takeOut_24 ?_
  refine jj_stn (fun σ3 => ?_)
  refine jj_aload_n C 1 dX3_takeOut_25 rfl rfl ?_
  refine jj_getr C 2 4 in_Links (g_2 n S SD) k_Links (by decide) fl_Links_31 rfl dX3_takeOut_26 ?_
  refine jj_iload_n C 2 dX3_takeOut_29 rfl rfl ?_
  refine jj_dup2 C dX3_takeOut_30 rfl rfl ?_
  refine jj_iald C 6 (g_6 n S SD) dX3_takeOut_31 ?_
  refine jj_iconst C (v := (1 : Int32)) dX3_takeOut_32 (by decide) ?_
  refine jj_isub C dX3_takeOut_33 ?_
  refine jj_iast C 6 (g_6 n S SD) dX3_takeOut_34 ?_
  refine jj_stn (fun σ4 => ?_)
  refine jj_aload_n C 1 dX3_takeOut_35 rfl rfl ?_
  refine jj_getr C 2 7 in_Links (g_2 n S SD) k_Links (by decide) fl_Links_40 rfl dX3_takeOut_36 ?_
  refine jj_aload_n C 1 dX3_takeOut_39 rfl rfl ?_
  refine jj_getr C 2 1 in_Links (g_2 n S SD) k_Links (by decide) fl_Links_21 rfl dX3_takeOut_40 ?_
  refine jj_iload_n C 2 dX3_takeOut_43 rfl rfl ?_
  refine jj_iald C 3 (g_3 n S SD) dX3_takeOut_44 ?_
  refine jj_dup2 C dX3_takeOut_45 rfl rfl ?_
  refine jj_iald C 9 (g_9 n S SD) dX3_takeOut_46 ?_
  refine jj_iconst C (v := (1 : Int32)) dX3_takeOut_47 (by decide) ?_
  refine jj_iadd C dX3_takeOut_48 ?_
  refine jj_iast C 9 (g_9 n S SD) dX3_takeOut_49 ?_
  refine jj_stn (fun σ5 => ?_)
  refine jj_iload_n C 0 dX3_takeOut_50 rfl rfl ?_
  exact jj_iret C hr hlocks dX3_takeOut_51

set_option maxHeartbeats 4000000 in
set_option maxRecDepth 100000 in
theorem c_Packets_number {l : Launch} {D : va_G} {ad : Nat → Nat} {cA : FieldType → ClassId} {n S SD F : Nat} {σ : jj_S} {a0 : Int32} {z : (Int32 × jj_S)} (ho : f_Packets_number n S SD F σ a0 = some z) : jj_Mi l yX4_number (Cond.code yX4_number cX4_number 1 (some .int) :: jw_t) { frames := 0, cells := 0, slots := 0, locals := 0 } D vwCl ad cA (gc n S SD) [.int a0] σ z := by
  refine jj_ofi (cc := cX4_number) (nL := 1) (ret := (some .int)) rfl ho (Nat.le_of_ble_eq_true rfl) ?_
  intro p e s m below meth c C hr hlocks
  generalize hA : va_A (jj_w ad cA (gc n S SD) σ) s.heap.size = A at C ⊢
  have hRm : 0 ≤ (headSpec (Cond.code yX4_number cX4_number 1 (some .int) :: jw_t) { frames := 0, cells := 0, slots := 0, locals := 0 }).room.frames ∧ 0 ≤ (headSpec (Cond.code yX4_number cX4_number 1 (some .int) :: jw_t) { frames := 0, cells := 0, slots := 0, locals := 0 }).room.locals := ⟨Nat.le_refl _, Nat.le_refl _⟩
  generalize (headSpec (Cond.code yX4_number cX4_number 1 (some .int) :: jw_t) { frames := 0, cells := 0, slots := 0, locals := 0 }).room = R at C hRm ⊢
  generalize List.toArray ([.int a0] : List Value) = args at C ⊢
  refine jj_sub (lv' := [(0, .int a0)]) [0] rfl ?_
  unfold f_Packets_number
  refine jj_iload_n C 0 dX4_number_0 rfl rfl ?_
  refine jj_iconst C (v := (4 : Int32)) dX4_number_1 (by decide) ?_
  refine jj_idiv C dX4_number_2 ?_
  exact jj_iret C hr hlocks dX4_number_3

set_option maxHeartbeats 4000000 in
set_option maxRecDepth 100000 in
theorem c_Ifs_serve {l : Launch} {D : va_G} {ad : Nat → Nat} {cA : FieldType → ClassId} {n S SD F : Nat} {σ : jj_S} {a1 a2 : Int32} {z : jj_S} (ho : f_Ifs_serve n S SD F σ a1 a2 = some z) : jj_Mv l yX2_serve (Cond.code yX2_serve cX2_serve 5 none :: jw_t) { frames := 0, cells := 0, slots := 0, locals := 0 } D vwCl ad cA (gc n S SD) [.ref (ad 16), .int a1, .int a2] σ z := by
  refine jj_ofv (cc := cX2_serve) (nL := 5) (ret := none) rfl ho (Nat.le_of_ble_eq_true rfl) ?_
  intro p e s m below meth c C hr hlocks
  generalize hA : va_A (jj_w ad cA (gc n S SD) σ) s.heap.size = A at C ⊢
  have hRm : 0 ≤ (headSpec (Cond.code yX2_serve cX2_serve 5 none :: jw_t) { frames := 0, cells := 0, slots := 0, locals := 0 }).room.frames ∧ 0 ≤ (headSpec (Cond.code yX2_serve cX2_serve 5 none :: jw_t) { frames := 0, cells := 0, slots := 0, locals := 0 }).room.locals := ⟨Nat.le_refl _, Nat.le_refl _⟩
  generalize (headSpec (Cond.code yX2_serve cX2_serve 5 none :: jw_t) { frames := 0, cells := 0, slots := 0, locals := 0 }).room = R at C hRm ⊢
  generalize List.toArray ([.ref (ad 16), .int a1, .int a2] : List Value) = args at C ⊢
  refine jj_sub (lv' := [(0, .ref (ad 16)), (1, .int a1), (2, .int a2)]) [0, 1, 2] rfl ?_
  unfold f_Ifs_serve
  refine jj_iload_n C 1 dX2_serve_0 rfl rfl ?_
  refine jj_bipush C (v := (8 : Int32)) dX2_serve_1 (by decide) ?_
  refine jj_imul C dX2_serve_3 ?_
  refine jj_aload_n C 0 dX2_serve_4 rfl rfl ?_
  refine jj_getr C 16 2 in_Ifs (g_16 n S SD) k_Ifs (by decide) fl_Ifs_26 rfl dX2_serve_5 ?_
  refine jj_getr C 10 4 in_Packets (g_10 n S SD) k_Packets (by decide) fl_Ifs_106 rfl dX2_serve_8 ?_
  refine jj_iload_n C 2 dX2_serve_11 rfl rfl ?_
  refine jj_iald C 14 (g_14 n S SD) dX2_serve_12 ?_
  refine jj_iadd C dX2_serve_13 ?_
  refine jj_ltn (fun v3_1 => ?_)
  refine jj_istore_n C [(3, .int v3_1), (0, .ref (ad 16)), (1, .int a1), (2, .int a2)] dX2_serve_14 rfl (by decide) rfl ?_
  refine jj_aload_n C 1 dX2_serve_15 rfl rfl ?_
  refine jj_getr C 16 6 in_Ifs (g_16 n S SD) k_Ifs (by decide) fl_Ifs_48 rfl dX2_serve_16 ?_
  refine jj_iload_n C 0 dX2_serve_19 rfl rfl ?_
  refine jj_iald C 28 (g_28 n S SD) dX2_serve_20 ?_
  refine jj_ltn (fun v4_2 => ?_)
  refine jj_istore C [(4, .int v4_2), (3, .int v3_1), (0, .ref (ad 16)), (1, .int a1), (2, .int a2)] dX2_serve_21 (by decide) rfl ?_
  refine jj_aload_n C 2 dX2_serve_23 rfl rfl ?_
  refine jj_getr C 16 2 in_Ifs (g_16 n S SD) k_Ifs (by decide) fl_Ifs_26 rfl dX2_serve_24 ?_
  refine jj_getr C 10 3 in_Packets (g_10 n S SD) k_Packets (by decide) fl_Ifs_109 rfl dX2_serve_27 ?_
  refine jj_iload_n C 4 dX2_serve_30 rfl rfl ?_
  refine jj_zald C 13 (g_13 n S SD) dX2_serve_31 ?_
  refine jj_if_eq C (tgt := 50) dX2_serve_32 (by decide) (fun _ => ?_) (fun _ => ?_)
  · refine jj_aload_n C 2 dX2_serve_50 rfl rfl ?_
    refine jj_getr C 16 2 in_Ifs (g_16 n S SD) k_Ifs (by decide) fl_Ifs_26 rfl dX2_serve_51 ?_
    refine jj_getr C 10 5 in_Packets (g_10 n S SD) k_Packets (by decide) fl_Ifs_112 rfl dX2_serve_54 ?_
    refine jj_iload_n C 4 dX2_serve_57 rfl rfl ?_
    refine jj_iload C 0 dX2_serve_58 rfl ?_
    refine jj_iast C 15 (g_15 n S SD) dX2_serve_60 ?_
    refine jj_stn (fun σ3 => ?_)
    exact jj_vret C hr hlocks dX2_serve_61
  · refine jj_aload_n C 2 dX2_serve_35 rfl rfl ?_
    refine jj_getr C 16 6 in_Ifs (g_16 n S SD) k_Ifs (by decide) fl_Ifs_48 rfl dX2_serve_36 ?_
    refine jj_iload_n C 1 dX2_serve_39 rfl rfl ?_
    refine jj_aload_n C 2 dX2_serve_40 rfl rfl ?_
    refine jj_getr C 16 2 in_Ifs (g_16 n S SD) k_Ifs (by decide) fl_Ifs_26 rfl dX2_serve_41 ?_
    refine jj_getr C 10 5 in_Packets (g_10 n S SD) k_Packets (by decide) fl_Ifs_112 rfl dX2_serve_44 ?_
    refine jj_iload_n C 4 dX2_serve_47 rfl rfl ?_
    refine jj_iald C 15 (g_15 n S SD) dX2_serve_48 ?_
    refine jj_iast C 28 (g_28 n S SD) dX2_serve_49 ?_
    refine jj_stn (fun σ4 => ?_)
    refine jj_aload_n C 2 dX2_serve_50 rfl rfl ?_
    refine jj_getr C 16 2 in_Ifs (g_16 n S SD) k_Ifs (by decide) fl_Ifs_26 rfl dX2_serve_51 ?_
    refine jj_getr C 10 5 in_Packets (g_10 n S SD) k_Packets (by decide) fl_Ifs_112 rfl dX2_serve_54 ?_
    refine jj_iload_n C 4 dX2_serve_57 rfl rfl ?_
    refine jj_iload C 0 dX2_serve_58 rfl ?_
    refine jj_iast C 15 (g_15 n S SD) dX2_serve_60 ?_
    refine jj_stn (fun σ5 => ?_)
    exact jj_vret C hr hlocks dX2_serve_61

set_option maxHeartbeats 4000000 in
set_option maxRecDepth 100000 in
theorem c_Queues_addp {l : Launch} {D : va_G} {ad : Nat → Nat} {cA : FieldType → ClassId} {n S SD F : Nat} {σ : jj_S} {a1 a2 : Int32} {z : jj_S} (ho : f_Queues_addp n S SD F σ a1 a2 = some z) : jj_Mv l yX5_add (Cond.code yX5_add cX5_add 3 none :: jw_t) { frames := 0, cells := 0, slots := 0, locals := 0 } D vwCl ad cA (gc n S SD) [.ref (ad 24), .int a1, .int a2] σ z := by
  refine jj_ofv (cc := cX5_add) (nL := 3) (ret := none) rfl ho (Nat.le_of_ble_eq_true rfl) ?_
  intro p e s m below meth c C hr hlocks
  generalize hA : va_A (jj_w ad cA (gc n S SD) σ) s.heap.size = A at C ⊢
  have hRm : 0 ≤ (headSpec (Cond.code yX5_add cX5_add 3 none :: jw_t) { frames := 0, cells := 0, slots := 0, locals := 0 }).room.frames ∧ 0 ≤ (headSpec (Cond.code yX5_add cX5_add 3 none :: jw_t) { frames := 0, cells := 0, slots := 0, locals := 0 }).room.locals := ⟨Nat.le_refl _, Nat.le_refl _⟩
  generalize (headSpec (Cond.code yX5_add cX5_add 3 none :: jw_t) { frames := 0, cells := 0, slots := 0, locals := 0 }).room = R at C hRm ⊢
  generalize List.toArray ([.ref (ad 24), .int a1, .int a2] : List Value) = args at C ⊢
  refine jj_sub (lv' := [(0, .ref (ad 24)), (1, .int a1), (2, .int a2)]) [0, 1, 2] rfl ?_
  unfold f_Queues_addp
  refine jj_aload_n C 0 dX5_add_0 rfl rfl ?_
  refine jj_getr C 24 2 in_Queues (g_24 n S SD) k_Queues (by decide) fl_Queues_17 rfl dX5_add_1 ?_
  refine jj_iload_n C 1 dX5_add_4 rfl rfl ?_
  refine jj_aload_n C 0 dX5_add_5 rfl rfl ?_
  refine jj_geti C 24 1 in_Queues (g_24 n S SD) k_Queues (by decide) fl_Queues_13 rfl dX5_add_6 ?_
  refine jj_imul C dX5_add_9 ?_
  refine jj_aload_n C 0 dX5_add_10 rfl rfl ?_
  refine jj_getr C 24 3 in_Queues (g_24 n S SD) k_Queues (by decide) fl_Queues_21 rfl dX5_add_11 ?_
  refine jj_iload_n C 1 dX5_add_14 rfl rfl ?_
  refine jj_iald C 26 (g_26 n S SD) dX5_add_15 ?_
  refine jj_iadd C dX5_add_16 ?_
  refine jj_iload_n C 2 dX5_add_17 rfl rfl ?_
  refine jj_iast C 25 (g_25 n S SD) dX5_add_18 ?_
  refine jj_stn (fun σ1 => ?_)
  refine jj_aload_n C 0 dX5_add_19 rfl rfl ?_
  refine jj_getr C 24 3 in_Queues (g_24 n S SD) k_Queues (by decide) fl_Queues_21 rfl dX5_add_20 ?_
  refine jj_iload_n C 1 dX5_add_23 rfl rfl ?_
  refine jj_dup2 C dX5_add_24 rfl rfl ?_
  refine jj_iald C 26 (g_26 n S SD) dX5_add_25 ?_
  refine jj_iconst C (v := (1 : Int32)) dX5_add_26 (by decide) ?_
  refine jj_iadd C dX5_add_27 ?_
  refine jj_iast C 26 (g_26 n S SD) dX5_add_28 ?_
  refine jj_stn (fun σ2 => ?_)
  exact jj_vret C hr hlocks dX5_add_29

set_option maxHeartbeats 4000000 in
set_option maxRecDepth 100000 in
theorem c_Complete_add {l : Launch} {D : va_G} {ad : Nat → Nat} {cA : FieldType → ClassId} {n S SD F : Nat} {σ : jj_S} {a1 a2 : Int32} {z : jj_S} (ho : f_Complete_add n S SD F σ a1 a2 = some z) : jj_Mv l yX0_add (Cond.code yX0_add cX0_add 3 none :: jw_t) { frames := 0, cells := 0, slots := 0, locals := 0 } D vwCl ad cA (gc n S SD) [.ref (ad 17), .int a1, .int a2] σ z := by
  refine jj_ofv (cc := cX0_add) (nL := 3) (ret := none) rfl ho (Nat.le_of_ble_eq_true rfl) ?_
  intro p e s m below meth c C hr hlocks
  generalize hA : va_A (jj_w ad cA (gc n S SD) σ) s.heap.size = A at C ⊢
  have hRm : 0 ≤ (headSpec (Cond.code yX0_add cX0_add 3 none :: jw_t) { frames := 0, cells := 0, slots := 0, locals := 0 }).room.frames ∧ 0 ≤ (headSpec (Cond.code yX0_add cX0_add 3 none :: jw_t) { frames := 0, cells := 0, slots := 0, locals := 0 }).room.locals := ⟨Nat.le_refl _, Nat.le_refl _⟩
  generalize (headSpec (Cond.code yX0_add cX0_add 3 none :: jw_t) { frames := 0, cells := 0, slots := 0, locals := 0 }).room = R at C hRm ⊢
  generalize List.toArray ([.ref (ad 17), .int a1, .int a2] : List Value) = args at C ⊢
  refine jj_sub (lv' := [(0, .ref (ad 17)), (1, .int a1), (2, .int a2)]) [0, 1, 2] rfl ?_
  unfold f_Complete_add
  refine jj_aload_n C 0 dX0_add_0 rfl rfl ?_
  refine jj_getr C 17 0 in_Complete (g_17 n S SD) k_Complete (by decide) fl_Complete_9 rfl dX0_add_1 ?_
  refine jj_aload_n C 0 dX0_add_4 rfl rfl ?_
  refine jj_geti C 17 2 in_Complete (g_17 n S SD) k_Complete (by decide) fl_Complete_18 rfl dX0_add_5 ?_
  refine jj_iload_n C 1 dX0_add_8 rfl rfl ?_
  refine jj_iast C 18 (g_18 n S SD) dX0_add_9 ?_
  refine jj_stn (fun σ1 => ?_)
  refine jj_aload_n C 0 dX0_add_10 rfl rfl ?_
  refine jj_getr C 17 1 in_Complete (g_17 n S SD) k_Complete (by decide) fl_Complete_15 rfl dX0_add_11 ?_
  refine jj_aload_n C 0 dX0_add_14 rfl rfl ?_
  refine jj_geti C 17 2 in_Complete (g_17 n S SD) k_Complete (by decide) fl_Complete_18 rfl dX0_add_15 ?_
  refine jj_iload_n C 2 dX0_add_18 rfl rfl ?_
  refine jj_iast C 19 (g_19 n S SD) dX0_add_19 ?_
  refine jj_stn (fun σ2 => ?_)
  refine jj_aload_n C 0 dX0_add_20 rfl rfl ?_
  refine jj_dup C dX0_add_21 rfl ?_
  refine jj_geti C 17 2 in_Complete (g_17 n S SD) k_Complete (by decide) fl_Complete_18 rfl dX0_add_22 ?_
  refine jj_iconst C (v := (1 : Int32)) dX0_add_25 (by decide) ?_
  refine jj_iadd C dX0_add_26 ?_
  refine jj_puti C 17 2 in_Complete (g_17 n S SD) k_Complete (by decide) fl_Complete_18 tyX0 tyX0_ok nmX0 rfl (by decide +kernel) rfl dX0_add_27 ?_
  refine jj_stn (fun σ3 => ?_)
  exact jj_vret C hr hlocks dX0_add_30

set_option maxHeartbeats 4000000 in
set_option maxRecDepth 100000 in
theorem c_Ifs_accept {l : Launch} {D : va_G} {ad : Nat → Nat} {cA : FieldType → ClassId} {n S SD F : Nat} {σ : jj_S} {a1 a2 a3 : Int32} {z : jj_S} (ho : f_Ifs_accept n S SD F σ a1 a2 a3 = some z) : jj_Mv l yX2_accept (Cond.code yX2_accept cX2_accept 5 none :: jw_t) { frames := 1, cells := 0, slots := 0, locals := 40 } D vwCl ad cA (gc n S SD) [.ref (ad 16), .int a1, .int a2, .int a3] σ z := by
  refine jj_ofv (cc := cX2_accept) (nL := 5) (ret := none) rfl ho (Nat.le_of_ble_eq_true rfl) ?_
  intro p e s m below meth c C hr hlocks
  generalize hA : va_A (jj_w ad cA (gc n S SD) σ) s.heap.size = A at C ⊢
  have hRm : 1 ≤ (headSpec (Cond.code yX2_accept cX2_accept 5 none :: jw_t) { frames := 1, cells := 0, slots := 0, locals := 40 }).room.frames ∧ 40 ≤ (headSpec (Cond.code yX2_accept cX2_accept 5 none :: jw_t) { frames := 1, cells := 0, slots := 0, locals := 40 }).room.locals := ⟨Nat.le_refl _, Nat.le_refl _⟩
  generalize (headSpec (Cond.code yX2_accept cX2_accept 5 none :: jw_t) { frames := 1, cells := 0, slots := 0, locals := 40 }).room = R at C hRm ⊢
  generalize List.toArray ([.ref (ad 16), .int a1, .int a2, .int a3] : List Value) = args at C ⊢
  refine jj_sub (lv' := [(0, .ref (ad 16)), (1, .int a1), (2, .int a2), (3, .int a3)]) [0, 1, 2, 3] rfl ?_
  unfold f_Ifs_accept
  refine jj_iload_n C 2 dX2_accept_0 rfl rfl ?_
  refine jj_callSi C (As := [.int a2]) (rest := []) (fun z hz => c_Packets_isLast hz) (q_Ifs_89 C.2.2.2.2.1 (rm := { frames := 0, cells := 0, slots := 0, locals := 0 }) rfl rfl ⟨Nat.le_trans (by decide) hRm.1, Nat.le_trans (by decide) hRm.2⟩) rfl rfl (Nat.le_of_ble_eq_true rfl) dX2_accept_1 (fun r2 σ1 _ => ?_)
  refine jj_if_ne C (tgt := 8) dX2_accept_4 (by decide) (fun _ => ?_) (fun _ => ?_)
  · refine jj_iload_n C 2 dX2_accept_8 rfl rfl ?_
    refine jj_callSi C (As := [.int a2]) (rest := []) (fun z hz => c_Packets_number hz) (q_Ifs_95 C.2.2.2.2.1 (rm := { frames := 0, cells := 0, slots := 0, locals := 0 }) rfl rfl ⟨Nat.le_trans (by decide) hRm.1, Nat.le_trans (by decide) hRm.2⟩) rfl rfl (Nat.le_of_ble_eq_true rfl) dX2_accept_9 (fun r4 σ3 _ => ?_)
    refine jj_istore C [(4, .int r4), (0, .ref (ad 16)), (1, .int a1), (2, .int a2), (3, .int a3)] dX2_accept_12 (by decide) rfl ?_
    refine jj_iload_n C 3 dX2_accept_14 rfl rfl ?_
    refine jj_callSi C (As := [.int a2]) (rest := []) (fun z hz => c_Packets_isOfReply hz) (q_Ifs_83 C.2.2.2.2.1 (rm := { frames := 0, cells := 0, slots := 0, locals := 0 }) rfl rfl ⟨Nat.le_trans (by decide) hRm.1, Nat.le_trans (by decide) hRm.2⟩) rfl rfl (Nat.le_of_ble_eq_true rfl) dX2_accept_15 (fun r6 σ5 _ => ?_)
    refine jj_if_eq C (tgt := 34) dX2_accept_18 (by decide) (fun _ => ?_) (fun _ => ?_)
    · refine jj_aload_n C 1 dX2_accept_34 rfl rfl ?_
      refine jj_iload_n C 2 dX2_accept_35 rfl rfl ?_
      refine jj_iload C 0 dX2_accept_36 rfl ?_
      refine jj_callVv C (As := [.int a1, .int r4]) (rest := []) (fun z hz => c_Ifs_serve hz) (q_Ifs_102 C.2.2.2.2.1 (rm := { frames := 0, cells := 0, slots := 0, locals := 0 }) rfl rfl ⟨Nat.le_trans (by decide) hRm.1, Nat.le_trans (by decide) hRm.2⟩) (g_16 n S SD) k_Ifs rfl rfl (Nat.le_of_ble_eq_true rfl) dX2_accept_38 (fun σ7 _ => ?_)
      refine jj_aload_n C 1 dX2_accept_41 rfl rfl ?_
      refine jj_getr C 16 4 in_Ifs (g_16 n S SD) k_Ifs (by decide) fl_Ifs_45 rfl dX2_accept_42 ?_
      refine jj_iload_n C 2 dX2_accept_45 rfl rfl ?_
      refine jj_iload C 0 dX2_accept_46 rfl ?_
      refine jj_callVv C (As := [.int a1, .int r4]) (rest := []) (fun z hz => c_Queues_addp hz) (q_Ifs_105 C.2.2.2.2.1 (rm := { frames := 0, cells := 0, slots := 0, locals := 0 }) rfl rfl ⟨Nat.le_trans (by decide) hRm.1, Nat.le_trans (by decide) hRm.2⟩) (g_24 n S SD) k_Queues rfl rfl (Nat.le_of_ble_eq_true rfl) dX2_accept_48 (fun σ8 _ => ?_)
      exact jj_vret C hr hlocks dX2_accept_51
    · refine jj_aload_n C 1 dX2_accept_21 rfl rfl ?_
      refine jj_getr C 16 5 in_Ifs (g_16 n S SD) k_Ifs (by decide) fl_Ifs_12 rfl dX2_accept_22 ?_
      refine jj_iload C 0 dX2_accept_25 rfl ?_
      refine jj_iload_n C 4 dX2_accept_27 rfl rfl ?_
      refine jj_callVv C (As := [.int r4, .int a3]) (rest := []) (fun z hz => c_Complete_add hz) (q_Ifs_98 C.2.2.2.2.1 (rm := { frames := 0, cells := 0, slots := 0, locals := 0 }) rfl rfl ⟨Nat.le_trans (by decide) hRm.1, Nat.le_trans (by decide) hRm.2⟩) (g_17 n S SD) k_Complete rfl rfl (Nat.le_of_ble_eq_true rfl) dX2_accept_28 (fun σ9 _ => ?_)
      refine jj_goto C (tgt := 51) dX2_accept_31 (by decide) ?_
      exact jj_vret C hr hlocks dX2_accept_51
  · exact jj_vret C hr hlocks dX2_accept_7

set_option maxHeartbeats 4000000 in
set_option maxRecDepth 100000 in
theorem l_Ifs_takeAll_15 {p : Program} {l : Launch} {e : Env} {R : Room} {s : State} {m : MethodId} {args : Array Value} {below : List Frame} {meth : Method} {c : Code} {D : va_G} {A : Nat → Prop} {ad : Nat → Nat} {cA : FieldType → ClassId} {n S SD F : Nat} (C : jj_C p R s m args c D vwCl A ad cA (gc n S SD) 5 0 0 cX2_takeAll RX2 jw_t) (hr : meth.sig.returnType = none) (hlocks : meth.locks = false) (hRm : 2 ≤ R.frames ∧ 80 ≤ R.locals) {K : jj_S → Int32 → Int32 → Int32 → Option jj_S} (hK : ∀ (σ : jj_S) (x1 x2 x3 : Int32), jj_J p l e R s m args below meth c D vwCl A ad cA (gc n S SD) 5 0 0 (jj_Qv below D vwCl A ad cA (gc n S SD) args s 0 0) (K σ x1 x2 x3) σ 89 [(0, .ref (ad 16)), (1, .int x1), (2, .int x2), (3, .int x3)] []) : ∀ (k : Nat) (σ : jj_S) (x1 x2 x3 : Int32), jj_J p l e R s m args below meth c D vwCl A ad cA (gc n S SD) 5 0 0 (jj_Qv below D vwCl A ad cA (gc n S SD) args s 0 0) (jj_lp3 (b_Ifs_takeAll_15 n S SD F K) k σ x1 x2 x3) σ 15 [(0, .ref (ad 16)), (1, .int x1), (2, .int x2), (3, .int x3)] [] := by
  refine jj_loop3 (T := fun o σ x1 x2 x3 => jj_J p l e R s m args below meth c D vwCl A ad cA (gc n S SD) 5 0 0 (jj_Qv below D vwCl A ad cA (gc n S SD) args s 0 0) o σ 15 [(0, .ref (ad 16)), (1, .int x1), (2, .int x2), (3, .int x3)] []) (fun _ _ _ _ _ h => by cases h) ?_
  intro rec ih σ x1 x2 x3
  unfold b_Ifs_takeAll_15
  refine jj_iload_n C 3 dX2_takeAll_15 rfl rfl ?_
  refine jj_aload_n C 0 dX2_takeAll_16 rfl rfl ?_
  refine jj_getr C 16 0 in_Ifs (g_16 n S SD) k_Ifs (by decide) fl_Ifs_18 rfl dX2_takeAll_17 ?_
  refine jj_geti C 1 4 in_Grid (g_1 n S SD) k_Grid (by decide) fl_Ifs_56 rfl dX2_takeAll_20 ?_
  refine jj_icmp_ge C (tgt := 89) dX2_takeAll_23 (by decide) (fun _ => ?_) (fun _ => ?_)
  · refine jj_sub [0, 1, 2, 3] rfl ?_
    exact hK σ x1 x2 x3
  · refine jj_aload_n C 0 dX2_takeAll_26 rfl rfl ?_
    refine jj_getr C 16 0 in_Ifs (g_16 n S SD) k_Ifs (by decide) fl_Ifs_18 rfl dX2_takeAll_27 ?_
    refine jj_iload_n C 2 dX2_takeAll_30 rfl rfl ?_
    refine jj_iconst C (v := (5 : Int32)) dX2_takeAll_31 (by decide) ?_
    refine jj_iload_n C 3 dX2_takeAll_32 rfl rfl ?_
    refine jj_callVi C (As := [.int x2, .int (5 : Int32), .int x3]) (rest := []) (fun z hz => c_Grid_slot hz) (q_Ifs_59 C.2.2.2.2.1 (rm := { frames := 0, cells := 0, slots := 0, locals := 0 }) rfl rfl ⟨Nat.le_trans (by decide) hRm.1, Nat.le_trans (by decide) hRm.2⟩) (g_1 n S SD) k_Grid rfl rfl (Nat.le_of_ble_eq_true rfl) dX2_takeAll_33 (fun r2 σ1 _ => ?_)
    refine jj_istore C [(4, .int r2), (0, .ref (ad 16)), (1, .int x1), (2, .int x2), (3, .int x3)] dX2_takeAll_36 (by decide) rfl ?_
    refine jj_aload_n C 1 dX2_takeAll_38 rfl rfl ?_
    refine jj_getr C 16 1 in_Ifs (g_16 n S SD) k_Ifs (by decide) fl_Ifs_22 rfl dX2_takeAll_39 ?_
    refine jj_getr C 2 4 in_Links (g_2 n S SD) k_Links (by decide) fl_Ifs_63 rfl dX2_takeAll_42 ?_
    refine jj_iload C 0 dX2_takeAll_45 rfl ?_
    refine jj_iald C 6 (g_6 n S SD) dX2_takeAll_47 ?_
    refine jj_if_le C (tgt := 83) dX2_takeAll_48 (by decide) (fun _ => ?_) (fun _ => ?_)
    · refine jj_iinc C (v := x3 + (1 : Int32)) [(3, .int (x3 + (1 : Int32))), (4, .int r2), (0, .ref (ad 16)), (1, .int x1), (2, .int x2)] 4 dX2_takeAll_83 rfl rfl (by decide) rfl ?_
      refine jj_goto C (tgt := 15) dX2_takeAll_86 (by decide) ?_
      refine jj_sub [2, 3, 4, 0] rfl ?_
      exact ih σ1 x1 x2 (x3 + (1 : Int32))
    · refine jj_aload_n C 1 dX2_takeAll_51 rfl rfl ?_
      refine jj_iload_n C 3 dX2_takeAll_52 rfl rfl ?_
      refine jj_aload_n C 1 dX2_takeAll_53 rfl rfl ?_
      refine jj_getr C 16 1 in_Ifs (g_16 n S SD) k_Ifs (by decide) fl_Ifs_22 rfl dX2_takeAll_54 ?_
      refine jj_iload C 0 dX2_takeAll_57 rfl ?_
      refine jj_callVi C (As := [.int r2]) (rest := [.int x2, .ref (ad 16)]) (fun z hz => c_Links_firstFlit hz) (q_Ifs_68 C.2.2.2.2.1 (rm := { frames := 0, cells := 0, slots := 0, locals := 0 }) rfl rfl ⟨Nat.le_trans (by decide) hRm.1, Nat.le_trans (by decide) hRm.2⟩) (g_2 n S SD) k_Links rfl rfl (Nat.le_of_ble_eq_true rfl) dX2_takeAll_59 (fun r4 σ3 _ => ?_)
      refine jj_callVi C (As := [.int x2, .int r4]) (rest := []) (fun z hz => c_Ifs_mayTake hz) (q_Ifs_72 C.2.2.2.2.1 (rm := { frames := 1, cells := 0, slots := 0, locals := 40 }) rfl rfl ⟨Nat.le_trans (by decide) hRm.1, Nat.le_trans (by decide) hRm.2⟩) (g_16 n S SD) k_Ifs rfl rfl (Nat.le_of_ble_eq_true rfl) dX2_takeAll_62 (fun r6 σ5 _ => ?_)
      refine jj_if_eq C (tgt := 83) dX2_takeAll_65 (by decide) (fun _ => ?_) (fun _ => ?_)
      · refine jj_iinc C (v := x3 + (1 : Int32)) [(3, .int (x3 + (1 : Int32))), (4, .int r2), (0, .ref (ad 16)), (1, .int x1), (2, .int x2)] 4 dX2_takeAll_83 rfl rfl (by decide) rfl ?_
        refine jj_goto C (tgt := 15) dX2_takeAll_86 (by decide) ?_
        refine jj_sub [2, 3, 4, 0] rfl ?_
        exact ih σ5 x1 x2 (x3 + (1 : Int32))
      · refine jj_aload_n C 1 dX2_takeAll_68 rfl rfl ?_
        refine jj_iload_n C 3 dX2_takeAll_69 rfl rfl ?_
        refine jj_aload_n C 1 dX2_takeAll_70 rfl rfl ?_
        refine jj_getr C 16 1 in_Ifs (g_16 n S SD) k_Ifs (by decide) fl_Ifs_22 rfl dX2_takeAll_71 ?_
        refine jj_iload C 0 dX2_takeAll_74 rfl ?_
        refine jj_callVi C (As := [.int r2]) (rest := [.int x2, .ref (ad 16)]) (fun z hz => c_Links_takeOut hz) (q_Ifs_76 C.2.2.2.2.1 (rm := { frames := 1, cells := 0, slots := 0, locals := 40 }) rfl rfl ⟨Nat.le_trans (by decide) hRm.1, Nat.le_trans (by decide) hRm.2⟩) (g_2 n S SD) k_Links rfl rfl (Nat.le_of_ble_eq_true rfl) dX2_takeAll_76 (fun r8 σ7 _ => ?_)
        refine jj_iload_n C 2 dX2_takeAll_79 rfl rfl ?_
        refine jj_callVv C (As := [.int x2, .int r8, .int x1]) (rest := []) (fun z hz => c_Ifs_accept hz) (q_Ifs_79 C.2.2.2.2.1 (rm := { frames := 1, cells := 0, slots := 0, locals := 40 }) rfl rfl ⟨Nat.le_trans (by decide) hRm.1, Nat.le_trans (by decide) hRm.2⟩) (g_16 n S SD) k_Ifs rfl rfl (Nat.le_of_ble_eq_true rfl) dX2_takeAll_80 (fun σ9 _ => ?_)
        refine jj_iinc C (v := x3 + (1 : Int32)) [(3, .int (x3 + (1 : Int32))), (4, .int r2), (0, .ref (ad 16)), (1, .int x1), (2, .int x2)] 4 dX2_takeAll_83 rfl rfl (by decide) rfl ?_
        refine jj_goto C (tgt := 15) dX2_takeAll_86 (by decide) ?_
        refine jj_sub [2, 3, 4, 0] rfl ?_
        exact ih σ9 x1 x2 (x3 + (1 : Int32))

set_option maxHeartbeats 4000000 in
set_option maxRecDepth 100000 in
theorem l_Ifs_takeAll_2 {p : Program} {l : Launch} {e : Env} {R : Room} {s : State} {m : MethodId} {args : Array Value} {below : List Frame} {meth : Method} {c : Code} {D : va_G} {A : Nat → Prop} {ad : Nat → Nat} {cA : FieldType → ClassId} {n S SD F : Nat} (C : jj_C p R s m args c D vwCl A ad cA (gc n S SD) 5 0 0 cX2_takeAll RX2 jw_t) (hr : meth.sig.returnType = none) (hlocks : meth.locks = false) (hRm : 2 ≤ R.frames ∧ 80 ≤ R.locals) {K : jj_S → Int32 → Int32 → Option jj_S} (hK : ∀ (σ : jj_S) (x1 x2 : Int32), jj_J p l e R s m args below meth c D vwCl A ad cA (gc n S SD) 5 0 0 (jj_Qv below D vwCl A ad cA (gc n S SD) args s 0 0) (K σ x1 x2) σ 95 [(0, .ref (ad 16)), (1, .int x1), (2, .int x2)] []) : ∀ (k : Nat) (σ : jj_S) (x1 x2 : Int32), jj_J p l e R s m args below meth c D vwCl A ad cA (gc n S SD) 5 0 0 (jj_Qv below D vwCl A ad cA (gc n S SD) args s 0 0) (jj_lp2 (b_Ifs_takeAll_2 n S SD F K) k σ x1 x2) σ 2 [(0, .ref (ad 16)), (1, .int x1), (2, .int x2)] [] := by
  refine jj_loop2 (T := fun o σ x1 x2 => jj_J p l e R s m args below meth c D vwCl A ad cA (gc n S SD) 5 0 0 (jj_Qv below D vwCl A ad cA (gc n S SD) args s 0 0) o σ 2 [(0, .ref (ad 16)), (1, .int x1), (2, .int x2)] []) (fun _ _ _ _ h => by cases h) ?_
  intro rec ih σ x1 x2
  unfold b_Ifs_takeAll_2
  refine jj_iload_n C 2 dX2_takeAll_2 rfl rfl ?_
  refine jj_aload_n C 0 dX2_takeAll_3 rfl rfl ?_
  refine jj_getr C 16 0 in_Ifs (g_16 n S SD) k_Ifs (by decide) fl_Ifs_18 rfl dX2_takeAll_4 ?_
  refine jj_geti C 1 5 in_Grid (g_1 n S SD) k_Grid (by decide) fl_Ifs_32 rfl dX2_takeAll_7 ?_
  refine jj_icmp_ge C (tgt := 95) dX2_takeAll_10 (by decide) (fun _ => ?_) (fun _ => ?_)
  · refine jj_sub [0, 1, 2] rfl ?_
    exact hK σ x1 x2
  · refine jj_iconst C (v := (0 : Int32)) dX2_takeAll_13 (by decide) ?_
    refine jj_istore_n C [(3, .int (0 : Int32)), (0, .ref (ad 16)), (1, .int x1), (2, .int x2)] dX2_takeAll_14 rfl (by decide) rfl ?_
    refine jj_sub [1, 2, 3, 0] rfl ?_
    refine l_Ifs_takeAll_15 C hr hlocks hRm (fun σ10 x1_11 x2_12 x3_13 => ?_) F σ x1 x2 (0 : Int32)
    refine jj_iinc C (v := x2_12 + (1 : Int32)) [(2, .int (x2_12 + (1 : Int32))), (0, .ref (ad 16)), (1, .int x1_11), (3, .int x3_13)] 2 dX2_takeAll_89 rfl rfl (by decide) rfl ?_
    refine jj_goto C (tgt := 2) dX2_takeAll_92 (by decide) ?_
    refine jj_sub [1, 2, 0] rfl ?_
    exact ih σ10 x1_11 (x2_12 + (1 : Int32))

set_option maxHeartbeats 4000000 in
set_option maxRecDepth 100000 in
theorem c_Ifs_takeAll {l : Launch} {D : va_G} {ad : Nat → Nat} {cA : FieldType → ClassId} {n S SD F : Nat} {σ : jj_S} {a1 : Int32} {z : jj_S} (ho : f_Ifs_takeAll n S SD F σ a1 = some z) : jj_Mv l yX2_takeAll (Cond.code yX2_takeAll cX2_takeAll 5 none :: jw_t) { frames := 2, cells := 0, slots := 0, locals := 80 } D vwCl ad cA (gc n S SD) [.ref (ad 16), .int a1] σ z := by
  refine jj_ofv (cc := cX2_takeAll) (nL := 5) (ret := none) rfl ho (Nat.le_of_ble_eq_true rfl) ?_
  intro p e s m below meth c C hr hlocks
  generalize hA : va_A (jj_w ad cA (gc n S SD) σ) s.heap.size = A at C ⊢
  have hRm : 2 ≤ (headSpec (Cond.code yX2_takeAll cX2_takeAll 5 none :: jw_t) { frames := 2, cells := 0, slots := 0, locals := 80 }).room.frames ∧ 80 ≤ (headSpec (Cond.code yX2_takeAll cX2_takeAll 5 none :: jw_t) { frames := 2, cells := 0, slots := 0, locals := 80 }).room.locals := ⟨Nat.le_refl _, Nat.le_refl _⟩
  generalize (headSpec (Cond.code yX2_takeAll cX2_takeAll 5 none :: jw_t) { frames := 2, cells := 0, slots := 0, locals := 80 }).room = R at C hRm ⊢
  generalize List.toArray ([.ref (ad 16), .int a1] : List Value) = args at C ⊢
  refine jj_sub (lv' := [(0, .ref (ad 16)), (1, .int a1)]) [0, 1] rfl ?_
  unfold f_Ifs_takeAll
  refine jj_iconst C (v := (0 : Int32)) dX2_takeAll_0 (by decide) ?_
  refine jj_istore_n C [(2, .int (0 : Int32)), (0, .ref (ad 16)), (1, .int a1)] dX2_takeAll_1 rfl (by decide) rfl ?_
  refine jj_sub [1, 2, 0] rfl ?_
  refine l_Ifs_takeAll_2 C hr hlocks hRm (fun σ14 x1_15 x2_16 => ?_) F σ a1 (0 : Int32)
  exact jj_vret C hr hlocks dX2_takeAll_95

set_option maxHeartbeats 4000000 in
set_option maxRecDepth 100000 in
theorem c_Queues_firstNumberp {l : Launch} {D : va_G} {ad : Nat → Nat} {cA : FieldType → ClassId} {n S SD F : Nat} {σ : jj_S} {a1 : Int32} {z : (Int32 × jj_S)} (ho : f_Queues_firstNumberp n S SD F σ a1 = some z) : jj_Mi l yX5_firstNumber (Cond.code yX5_firstNumber cX5_firstNumber 2 (some .int) :: jw_t) { frames := 0, cells := 0, slots := 0, locals := 0 } D vwCl ad cA (gc n S SD) [.ref (ad 24), .int a1] σ z := by
  refine jj_ofi (cc := cX5_firstNumber) (nL := 2) (ret := (some .int)) rfl ho (Nat.le_of_ble_eq_true rfl) ?_
  intro p e s m below meth c C hr hlocks
  generalize hA : va_A (jj_w ad cA (gc n S SD) σ) s.heap.size = A at C ⊢
  have hRm : 0 ≤ (headSpec (Cond.code yX5_firstNumber cX5_firstNumber 2 (some .int) :: jw_t) { frames := 0, cells := 0, slots := 0, locals := 0 }).room.frames ∧ 0 ≤ (headSpec (Cond.code yX5_firstNumber cX5_firstNumber 2 (some .int) :: jw_t) { frames := 0, cells := 0, slots := 0, locals := 0 }).room.locals := ⟨Nat.le_refl _, Nat.le_refl _⟩
  generalize (headSpec (Cond.code yX5_firstNumber cX5_firstNumber 2 (some .int) :: jw_t) { frames := 0, cells := 0, slots := 0, locals := 0 }).room = R at C hRm ⊢
  generalize List.toArray ([.ref (ad 24), .int a1] : List Value) = args at C ⊢
  refine jj_sub (lv' := [(0, .ref (ad 24)), (1, .int a1)]) [0, 1] rfl ?_
  unfold f_Queues_firstNumberp
  refine jj_aload_n C 0 dX5_firstNumber_0 rfl rfl ?_
  refine jj_getr C 24 2 in_Queues (g_24 n S SD) k_Queues (by decide) fl_Queues_17 rfl dX5_firstNumber_1 ?_
  refine jj_iload_n C 1 dX5_firstNumber_4 rfl rfl ?_
  refine jj_aload_n C 0 dX5_firstNumber_5 rfl rfl ?_
  refine jj_geti C 24 1 in_Queues (g_24 n S SD) k_Queues (by decide) fl_Queues_13 rfl dX5_firstNumber_6 ?_
  refine jj_imul C dX5_firstNumber_9 ?_
  refine jj_iald C 25 (g_25 n S SD) dX5_firstNumber_10 ?_
  exact jj_iret C hr hlocks dX5_firstNumber_11

set_option maxHeartbeats 4000000 in
set_option maxRecDepth 100000 in
theorem c_Packets_channel {l : Launch} {D : va_G} {ad : Nat → Nat} {cA : FieldType → ClassId} {n S SD F : Nat} {σ : jj_S} {a1 a2 : Int32} {z : (Int32 × jj_S)} (ho : f_Packets_channel n S SD F σ a1 a2 = some z) : jj_Mi l yX4_channel (Cond.code yX4_channel cX4_channel 4 (some .int) :: jw_t) { frames := 0, cells := 0, slots := 0, locals := 0 } D vwCl ad cA (gc n S SD) [.ref (ad 10), .int a1, .int a2] σ z := by
  refine jj_ofi (cc := cX4_channel) (nL := 4) (ret := (some .int)) rfl ho (Nat.le_of_ble_eq_true rfl) ?_
  intro p e s m below meth c C hr hlocks
  generalize hA : va_A (jj_w ad cA (gc n S SD) σ) s.heap.size = A at C ⊢
  have hRm : 0 ≤ (headSpec (Cond.code yX4_channel cX4_channel 4 (some .int) :: jw_t) { frames := 0, cells := 0, slots := 0, locals := 0 }).room.frames ∧ 0 ≤ (headSpec (Cond.code yX4_channel cX4_channel 4 (some .int) :: jw_t) { frames := 0, cells := 0, slots := 0, locals := 0 }).room.locals := ⟨Nat.le_refl _, Nat.le_refl _⟩
  generalize (headSpec (Cond.code yX4_channel cX4_channel 4 (some .int) :: jw_t) { frames := 0, cells := 0, slots := 0, locals := 0 }).room = R at C hRm ⊢
  generalize List.toArray ([.ref (ad 10), .int a1, .int a2] : List Value) = args at C ⊢
  refine jj_sub (lv' := [(0, .ref (ad 10)), (1, .int a1), (2, .int a2)]) [0, 1, 2] rfl ?_
  unfold f_Packets_channel
  refine jj_aload_n C 0 dX4_channel_0 rfl rfl ?_
  refine jj_getr C 10 1 in_Packets (g_10 n S SD) k_Packets (by decide) fl_Packets_9 rfl dX4_channel_1 ?_
  refine jj_iload_n C 1 dX4_channel_4 rfl rfl ?_
  refine jj_iald C 11 (g_11 n S SD) dX4_channel_5 ?_
  refine jj_aload_n C 0 dX4_channel_6 rfl rfl ?_
  refine jj_getr C 10 2 in_Packets (g_10 n S SD) k_Packets (by decide) fl_Packets_15 rfl dX4_channel_7 ?_
  refine jj_iload_n C 1 dX4_channel_10 rfl rfl ?_
  refine jj_iald C 12 (g_12 n S SD) dX4_channel_11 ?_
  refine jj_iadd C dX4_channel_12 ?_
  refine jj_aload_n C 0 dX4_channel_13 rfl rfl ?_
  refine jj_getr C 10 0 in_Packets (g_10 n S SD) k_Packets (by decide) fl_Packets_28 rfl dX4_channel_14 ?_
  refine jj_geti C 1 3 in_Grid (g_1 n S SD) k_Grid (by decide) fl_Packets_44 rfl dX4_channel_17 ?_
  refine jj_irem C dX4_channel_20 ?_
  refine jj_ltn (fun v3_1 => ?_)
  refine jj_istore_n C [(3, .int v3_1), (0, .ref (ad 10)), (1, .int a1), (2, .int a2)] dX4_channel_21 rfl (by decide) rfl ?_
  refine jj_iload_n C 3 dX4_channel_22 rfl rfl ?_
  refine jj_if_eq C (tgt := 38) dX4_channel_23 (by decide) (fun _ => ?_) (fun _ => ?_)
  · refine jj_iload_n C 0 dX4_channel_38 rfl rfl ?_
    exact jj_iret C hr hlocks dX4_channel_39
  · refine jj_iload_n C 0 dX4_channel_26 rfl rfl ?_
    refine jj_aload_n C 1 dX4_channel_27 rfl rfl ?_
    refine jj_getr C 10 0 in_Packets (g_10 n S SD) k_Packets (by decide) fl_Packets_28 rfl dX4_channel_28 ?_
    refine jj_geti C 1 3 in_Grid (g_1 n S SD) k_Grid (by decide) fl_Packets_44 rfl dX4_channel_31 ?_
    refine jj_iadd C dX4_channel_34 ?_
    refine jj_goto C (tgt := 39) dX4_channel_35 (by decide) ?_
    exact jj_iret C hr hlocks dX4_channel_39

set_option maxHeartbeats 4000000 in
set_option maxRecDepth 100000 in
theorem c_Packets_length {l : Launch} {D : va_G} {ad : Nat → Nat} {cA : FieldType → ClassId} {n S SD F : Nat} {σ : jj_S} {a1 a2 : Int32} {z : (Int32 × jj_S)} (ho : f_Packets_length n S SD F σ a1 a2 = some z) : jj_Mi l yX4_length (Cond.code yX4_length cX4_length 3 (some .int) :: jw_t) { frames := 0, cells := 0, slots := 0, locals := 0 } D vwCl ad cA (gc n S SD) [.ref (ad 10), .int a1, .int a2] σ z := by
  refine jj_ofi (cc := cX4_length) (nL := 3) (ret := (some .int)) rfl ho (Nat.le_of_ble_eq_true rfl) ?_
  intro p e s m below meth c C hr hlocks
  generalize hA : va_A (jj_w ad cA (gc n S SD) σ) s.heap.size = A at C ⊢
  have hRm : 0 ≤ (headSpec (Cond.code yX4_length cX4_length 3 (some .int) :: jw_t) { frames := 0, cells := 0, slots := 0, locals := 0 }).room.frames ∧ 0 ≤ (headSpec (Cond.code yX4_length cX4_length 3 (some .int) :: jw_t) { frames := 0, cells := 0, slots := 0, locals := 0 }).room.locals := ⟨Nat.le_refl _, Nat.le_refl _⟩
  generalize (headSpec (Cond.code yX4_length cX4_length 3 (some .int) :: jw_t) { frames := 0, cells := 0, slots := 0, locals := 0 }).room = R at C hRm ⊢
  generalize List.toArray ([.ref (ad 10), .int a1, .int a2] : List Value) = args at C ⊢
  refine jj_sub (lv' := [(0, .ref (ad 10)), (1, .int a1), (2, .int a2)]) [0, 1, 2] rfl ?_
  unfold f_Packets_length
  refine jj_aload_n C 0 dX4_length_0 rfl rfl ?_
  refine jj_getr C 10 3 in_Packets (g_10 n S SD) k_Packets (by decide) fl_Packets_18 rfl dX4_length_1 ?_
  refine jj_iload_n C 1 dX4_length_4 rfl rfl ?_
  refine jj_zald C 13 (g_13 n S SD) dX4_length_5 ?_
  refine jj_if_ne C (tgt := 11) dX4_length_6 (by decide) (fun _ => ?_) (fun _ => ?_)
  · refine jj_iload_n C 2 dX4_length_11 rfl rfl ?_
    refine jj_if_eq C (tgt := 19) dX4_length_12 (by decide) (fun _ => ?_) (fun _ => ?_)
    · refine jj_iconst C (v := (3 : Int32)) dX4_length_19 (by decide) ?_
      exact jj_iret C hr hlocks dX4_length_20
    · refine jj_iconst C (v := (1 : Int32)) dX4_length_15 (by decide) ?_
      refine jj_goto C (tgt := 20) dX4_length_16 (by decide) ?_
      exact jj_iret C hr hlocks dX4_length_20
  · refine jj_iconst C (v := (2 : Int32)) dX4_length_9 (by decide) ?_
    exact jj_iret C hr hlocks dX4_length_10

set_option maxHeartbeats 4000000 in
set_option maxRecDepth 100000 in
theorem c_Packets_flit {l : Launch} {D : va_G} {ad : Nat → Nat} {cA : FieldType → ClassId} {n S SD F : Nat} {σ : jj_S} {a0 a1 a2 : Int32} {z : (Int32 × jj_S)} (ho : f_Packets_flit n S SD F σ a0 a1 a2 = some z) : jj_Mi l yX4_flit (Cond.code yX4_flit cX4_flit 3 (some .int) :: jw_t) { frames := 0, cells := 0, slots := 0, locals := 0 } D vwCl ad cA (gc n S SD) [.int a0, .int a1, .int a2] σ z := by
  refine jj_ofi (cc := cX4_flit) (nL := 3) (ret := (some .int)) rfl ho (Nat.le_of_ble_eq_true rfl) ?_
  intro p e s m below meth c C hr hlocks
  generalize hA : va_A (jj_w ad cA (gc n S SD) σ) s.heap.size = A at C ⊢
  have hRm : 0 ≤ (headSpec (Cond.code yX4_flit cX4_flit 3 (some .int) :: jw_t) { frames := 0, cells := 0, slots := 0, locals := 0 }).room.frames ∧ 0 ≤ (headSpec (Cond.code yX4_flit cX4_flit 3 (some .int) :: jw_t) { frames := 0, cells := 0, slots := 0, locals := 0 }).room.locals := ⟨Nat.le_refl _, Nat.le_refl _⟩
  generalize (headSpec (Cond.code yX4_flit cX4_flit 3 (some .int) :: jw_t) { frames := 0, cells := 0, slots := 0, locals := 0 }).room = R at C hRm ⊢
  generalize List.toArray ([.int a0, .int a1, .int a2] : List Value) = args at C ⊢
  refine jj_sub (lv' := [(0, .int a0), (1, .int a1), (2, .int a2)]) [0, 1, 2] rfl ?_
  unfold f_Packets_flit
  refine jj_iconst C (v := (4 : Int32)) dX4_flit_0 (by decide) ?_
  refine jj_iload_n C 0 dX4_flit_1 rfl rfl ?_
  refine jj_imul C dX4_flit_2 ?_
  refine jj_iload_n C 1 dX4_flit_3 rfl rfl ?_
  refine jj_if_eq C (tgt := 11) dX4_flit_4 (by decide) (fun _ => ?_) (fun _ => ?_)
  · refine jj_iconst C (v := (0 : Int32)) dX4_flit_11 (by decide) ?_
    refine jj_iadd C dX4_flit_12 ?_
    refine jj_iload_n C 2 dX4_flit_13 rfl rfl ?_
    refine jj_if_eq C (tgt := 21) dX4_flit_14 (by decide) (fun _ => ?_) (fun _ => ?_)
    · refine jj_iconst C (v := (0 : Int32)) dX4_flit_21 (by decide) ?_
      refine jj_iadd C dX4_flit_22 ?_
      exact jj_iret C hr hlocks dX4_flit_23
    · refine jj_iconst C (v := (1 : Int32)) dX4_flit_17 (by decide) ?_
      refine jj_goto C (tgt := 22) dX4_flit_18 (by decide) ?_
      refine jj_iadd C dX4_flit_22 ?_
      exact jj_iret C hr hlocks dX4_flit_23
  · refine jj_iconst C (v := (2 : Int32)) dX4_flit_7 (by decide) ?_
    refine jj_goto C (tgt := 12) dX4_flit_8 (by decide) ?_
    refine jj_iadd C dX4_flit_12 ?_
    refine jj_iload_n C 2 dX4_flit_13 rfl rfl ?_
    refine jj_if_eq C (tgt := 21) dX4_flit_14 (by decide) (fun _ => ?_) (fun _ => ?_)
    · refine jj_iconst C (v := (0 : Int32)) dX4_flit_21 (by decide) ?_
      refine jj_iadd C dX4_flit_22 ?_
      exact jj_iret C hr hlocks dX4_flit_23
    · refine jj_iconst C (v := (1 : Int32)) dX4_flit_17 (by decide) ?_
      refine jj_goto C (tgt := 22) dX4_flit_18 (by decide) ?_
      refine jj_iadd C dX4_flit_22 ?_
      exact jj_iret C hr hlocks dX4_flit_23

set_option maxHeartbeats 4000000 in
set_option maxRecDepth 100000 in
theorem c_Links_send {l : Launch} {D : va_G} {ad : Nat → Nat} {cA : FieldType → ClassId} {n S SD F : Nat} {σ : jj_S} {a1 a2 : Int32} {z : jj_S} (ho : f_Links_send n S SD F σ a1 a2 = some z) : jj_Mv l yX3_send (Cond.code yX3_send cX3_send 3 none :: jw_t) { frames := 0, cells := 0, slots := 0, locals := 0 } D vwCl ad cA (gc n S SD) [.ref (ad 2), .int a1, .int a2] σ z := by
  refine jj_ofv (cc := cX3_send) (nL := 3) (ret := none) rfl ho (Nat.le_of_ble_eq_true rfl) ?_
  intro p e s m below meth c C hr hlocks
  generalize hA : va_A (jj_w ad cA (gc n S SD) σ) s.heap.size = A at C ⊢
  have hRm : 0 ≤ (headSpec (Cond.code yX3_send cX3_send 3 none :: jw_t) { frames := 0, cells := 0, slots := 0, locals := 0 }).room.frames ∧ 0 ≤ (headSpec (Cond.code yX3_send cX3_send 3 none :: jw_t) { frames := 0, cells := 0, slots := 0, locals := 0 }).room.locals := ⟨Nat.le_refl _, Nat.le_refl _⟩
  generalize (headSpec (Cond.code yX3_send cX3_send 3 none :: jw_t) { frames := 0, cells := 0, slots := 0, locals := 0 }).room = R at C hRm ⊢
  generalize List.toArray ([.ref (ad 2), .int a1, .int a2] : List Value) = args at C ⊢
  refine jj_sub (lv' := [(0, .ref (ad 2)), (1, .int a1), (2, .int a2)]) [0, 1, 2] rfl ?_
  unfold f_Links_send
  refine jj_aload_n C 0 dX3_send_0 rfl rfl ?_
  refine jj_getr C 2 5 in_Links (g_2 n S SD) k_Links (by decide) fl_Links_34 rfl dX3_send_1 ?_
  refine jj_iload_n C 1 dX3_send_4 rfl rfl ?_
  refine jj_dup2 C dX3_send_5 rfl rfl ?_
  refine jj_iald C 7 (g_7 n S SD) dX3_send_6 ?_
  refine jj_iconst C (v := (1 : Int32)) dX3_send_7 (by decide) ?_
  refine jj_isub C dX3_send_8 ?_
  refine jj_iast C 7 (g_7 n S SD) dX3_send_9 ?_
  refine jj_stn (fun σ1 => ?_)
  refine jj_aload_n C 0 dX3_send_10 rfl rfl ?_
  refine jj_getr C 2 6 in_Links (g_2 n S SD) k_Links (by decide) fl_Links_37 rfl dX3_send_11 ?_
  refine jj_aload_n C 0 dX3_send_14 rfl rfl ?_
  refine jj_getr C 2 1 in_Links (g_2 n S SD) k_Links (by decide) fl_Links_21 rfl dX3_send_15 ?_
  refine jj_iload_n C 1 dX3_send_18 rfl rfl ?_
  refine jj_iald C 3 (g_3 n S SD) dX3_send_19 ?_
  refine jj_iload_n C 2 dX3_send_20 rfl rfl ?_
  refine jj_iast C 8 (g_8 n S SD) dX3_send_21 ?_
  refine jj_stn (fun σ2 => ?_)
  refine jj_aload_n C 0 dX3_send_22 rfl rfl ?_
  refine jj_dup C dX3_send_23 rfl ?_
  refine jj_geti C 2 8 in_Links (g_2 n S SD) k_Links (by decide) fl_Links_56 rfl dX3_send_24 ?_
  refine jj_iconst C (v := (1 : Int32)) dX3_send_27 (by decide) ?_
  refine jj_iadd C dX3_send_28 ?_
  refine jj_puti C 2 8 in_Links (g_2 n S SD) k_Links (by decide) fl_Links_56 tyX3 tyX3_ok nmX3 rfl (by decide +kernel) rfl dX3_send_29 ?_
  refine jj_stn (fun σ3 => ?_)
  exact jj_vret C hr hlocks dX3_send_32
