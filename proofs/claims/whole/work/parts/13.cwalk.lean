set_option maxHeartbeats 4000000 in
set_option maxRecDepth 100000 in
theorem l_Routers_readyChannel_14 {p : Program} {l : Launch} {e : Env} {R : Room} {s : State} {m : MethodId} {args : Array Value} {below : List Frame} {meth : Method} {c : Code} {D : va_G} {A : Nat → Prop} {ad : Nat → Nat} {cA : FieldType → ClassId} {n S SD F : Nat} (C : jj_C p R s m args c D vwCl A ad cA (gc n S SD) 6 0 0 cX6_readyChannel RX6 jw_t) (hr : meth.sig.returnType = (some .int)) (hlocks : meth.locks = false) (hRm : 2 ≤ R.frames ∧ 80 ≤ R.locals) {K : jj_S → Int32 → Int32 → Int32 → Int32 → Option (Int32 × jj_S)} (hK : ∀ (σ : jj_S) (x1 x2 x3 x4 : Int32), jj_J p l e R s m args below meth c D vwCl A ad cA (gc n S SD) 6 0 0 (jj_Qi below D vwCl A ad cA (gc n S SD) args s 0 0) (K σ x1 x2 x3 x4) σ 60 [(0, .ref (ad 30)), (1, .int x1), (2, .int x2), (3, .int x3), (4, .int x4)] []) : ∀ (k : Nat) (σ : jj_S) (x1 x2 x3 x4 : Int32), jj_J p l e R s m args below meth c D vwCl A ad cA (gc n S SD) 6 0 0 (jj_Qi below D vwCl A ad cA (gc n S SD) args s 0 0) (jj_lp4 (b_Routers_readyChannel_14 n S SD F K) k σ x1 x2 x3 x4) σ 14 [(0, .ref (ad 30)), (1, .int x1), (2, .int x2), (3, .int x3), (4, .int x4)] [] := by
  refine jj_loop4 (T := fun o σ x1 x2 x3 x4 => jj_J p l e R s m args below meth c D vwCl A ad cA (gc n S SD) 6 0 0 (jj_Qi below D vwCl A ad cA (gc n S SD) args s 0 0) o σ 14 [(0, .ref (ad 30)), (1, .int x1), (2, .int x2), (3, .int x3), (4, .int x4)] []) (fun _ _ _ _ _ _ h => by cases h) ?_
  intro rec ih σ x1 x2 x3 x4
  unfold b_Routers_readyChannel_14
  refine jj_iload C 4 dX6_readyChannel_14 rfl ?_
  refine jj_aload_n C 0 dX6_readyChannel_16 rfl rfl ?_
  refine jj_getr C 30 0 in_Routers (g_30 n S SD) k_Routers (by decide) fl_Routers_15 rfl dX6_readyChannel_17 ?_
  refine jj_geti C 1 4 in_Grid (g_1 n S SD) k_Grid (by decide) fl_Routers_66 rfl dX6_readyChannel_20 ?_
  refine jj_icmp_ge C (tgt := 60) dX6_readyChannel_23 (by decide) (fun _ => ?_) (fun _ => ?_)
  · refine jj_sub [0, 1, 2, 3, 4] rfl ?_
    exact hK σ x1 x2 x3 x4
  · refine jj_iload_n C 3 dX6_readyChannel_26 rfl rfl ?_
    refine jj_iload C 4 dX6_readyChannel_27 rfl ?_
    refine jj_iadd C dX6_readyChannel_29 ?_
    refine jj_aload_n C 0 dX6_readyChannel_30 rfl rfl ?_
    refine jj_getr C 30 0 in_Routers (g_30 n S SD) k_Routers (by decide) fl_Routers_15 rfl dX6_readyChannel_31 ?_
    refine jj_geti C 1 4 in_Grid (g_1 n S SD) k_Grid (by decide) fl_Routers_66 rfl dX6_readyChannel_34 ?_
    refine jj_irem C dX6_readyChannel_37 ?_
    refine jj_ltn (fun v5_2 => ?_)
    refine jj_istore C [(5, .int v5_2), (0, .ref (ad 30)), (1, .int x1), (2, .int x2), (3, .int x3), (4, .int x4)] dX6_readyChannel_38 (by decide) rfl ?_
    refine jj_aload_n C 1 dX6_readyChannel_40 rfl rfl ?_
    refine jj_iload_n C 2 dX6_readyChannel_41 rfl rfl ?_
    refine jj_iload_n C 3 dX6_readyChannel_42 rfl rfl ?_
    refine jj_iload C 0 dX6_readyChannel_43 rfl ?_
    refine jj_callVi C (As := [.int x1, .int x2, .int v5_2]) (rest := []) (fun z hz => c_Routers_isReady hz) (q_Routers_69 C.2.2.2.2.1 (rm := { frames := 1, cells := 0, slots := 0, locals := 40 }) rfl rfl ⟨Nat.le_trans (by decide) hRm.1, Nat.le_trans (by decide) hRm.2⟩) (g_30 n S SD) k_Routers rfl rfl (Nat.le_of_ble_eq_true rfl) dX6_readyChannel_45 (fun r4 σ3 _ => ?_)
    refine jj_if_eq C (tgt := 54) dX6_readyChannel_48 (by decide) (fun _ => ?_) (fun _ => ?_)
    · refine jj_iinc C (v := x4 + (1 : Int32)) [(4, .int (x4 + (1 : Int32))), (5, .int v5_2), (0, .ref (ad 30)), (1, .int x1), (2, .int x2), (3, .int x3)] 5 dX6_readyChannel_54 rfl rfl (by decide) rfl ?_
      refine jj_goto C (tgt := 14) dX6_readyChannel_57 (by decide) ?_
      refine jj_sub [2, 3, 4, 5, 0] rfl ?_
      exact ih σ3 x1 x2 x3 (x4 + (1 : Int32))
    · refine jj_iload C 0 dX6_readyChannel_51 rfl ?_
      exact jj_iret C hr hlocks dX6_readyChannel_53

set_option maxHeartbeats 4000000 in
set_option maxRecDepth 100000 in
theorem c_Routers_readyChannel {l : Launch} {D : va_G} {ad : Nat → Nat} {cA : FieldType → ClassId} {n S SD F : Nat} {σ : jj_S} {a1 a2 : Int32} {z : (Int32 × jj_S)} (ho : f_Routers_readyChannel n S SD F σ a1 a2 = some z) : jj_Mi l yX6_readyChannel (Cond.code yX6_readyChannel cX6_readyChannel 6 (some .int) :: jw_t) { frames := 2, cells := 0, slots := 0, locals := 80 } D vwCl ad cA (gc n S SD) [.ref (ad 30), .int a1, .int a2] σ z := by
  refine jj_ofi (cc := cX6_readyChannel) (nL := 6) (ret := (some .int)) rfl ho (Nat.le_of_ble_eq_true rfl) ?_
  intro p e s m below meth c C hr hlocks
  generalize hA : va_A (jj_w ad cA (gc n S SD) σ) s.heap.size = A at C ⊢
  have hRm : 2 ≤ (headSpec (Cond.code yX6_readyChannel cX6_readyChannel 6 (some .int) :: jw_t) { frames := 2, cells := 0, slots := 0, locals := 80 }).room.frames ∧ 80 ≤ (headSpec (Cond.code yX6_readyChannel cX6_readyChannel 6 (some .int) :: jw_t) { frames := 2, cells := 0, slots := 0, locals := 80 }).room.locals := ⟨Nat.le_refl _, Nat.le_refl _⟩
  generalize (headSpec (Cond.code yX6_readyChannel cX6_readyChannel 6 (some .int) :: jw_t) { frames := 2, cells := 0, slots := 0, locals := 80 }).room = R at C hRm ⊢
  generalize List.toArray ([.ref (ad 30), .int a1, .int a2] : List Value) = args at C ⊢
  refine jj_sub (lv' := [(0, .ref (ad 30)), (1, .int a1), (2, .int a2)]) [0, 1, 2] rfl ?_
  unfold f_Routers_readyChannel
  refine jj_aload_n C 0 dX6_readyChannel_0 rfl rfl ?_
  refine jj_getr C 30 7 in_Routers (g_30 n S SD) k_Routers (by decide) fl_Routers_49 rfl dX6_readyChannel_1 ?_
  refine jj_iload_n C 1 dX6_readyChannel_4 rfl rfl ?_
  refine jj_iconst C (v := (5 : Int32)) dX6_readyChannel_5 (by decide) ?_
  refine jj_imul C dX6_readyChannel_6 ?_
  refine jj_iload_n C 2 dX6_readyChannel_7 rfl rfl ?_
  refine jj_iadd C dX6_readyChannel_8 ?_
  refine jj_iald C 36 (g_36 n S SD) dX6_readyChannel_9 ?_
  refine jj_ltn (fun v3_1 => ?_)
  refine jj_istore_n C [(3, .int v3_1), (0, .ref (ad 30)), (1, .int a1), (2, .int a2)] dX6_readyChannel_10 rfl (by decide) rfl ?_
  refine jj_iconst C (v := (0 : Int32)) dX6_readyChannel_11 (by decide) ?_
  refine jj_istore C [(4, .int (0 : Int32)), (3, .int v3_1), (0, .ref (ad 30)), (1, .int a1), (2, .int a2)] dX6_readyChannel_12 (by decide) rfl ?_
  refine jj_sub [2, 3, 4, 1, 0] rfl ?_
  refine l_Routers_readyChannel_14 C hr hlocks hRm (fun σ5 x1_6 x2_7 x3_8 x4_9 => ?_) F σ a1 a2 v3_1 (0 : Int32)
  refine jj_iconst C (v := (-1 : Int32)) dX6_readyChannel_60 (by decide) ?_
  exact jj_iret C hr hlocks dX6_readyChannel_61

set_option maxHeartbeats 4000000 in
set_option maxRecDepth 100000 in
theorem l_Routers_chosenPort_14 {p : Program} {l : Launch} {e : Env} {R : Room} {s : State} {m : MethodId} {args : Array Value} {below : List Frame} {meth : Method} {c : Code} {D : va_G} {A : Nat → Prop} {ad : Nat → Nat} {cA : FieldType → ClassId} {n S SD F : Nat} (C : jj_C p R s m args c D vwCl A ad cA (gc n S SD) 6 0 0 cX6_chosenPort RX6 jw_t) (hr : meth.sig.returnType = (some .int)) (hlocks : meth.locks = false) (hRm : 1 ≤ R.frames ∧ 40 ≤ R.locals) {K : jj_S → Int32 → Int32 → Int32 → Int32 → Option (Int32 × jj_S)} (hK : ∀ (σ : jj_S) (x1 x2 x3 x4 : Int32), jj_J p l e R s m args below meth c D vwCl A ad cA (gc n S SD) 6 0 0 (jj_Qi below D vwCl A ad cA (gc n S SD) args s 0 0) (K σ x1 x2 x3 x4) σ 74 [(0, .ref (ad 30)), (1, .int x1), (2, .int x2), (3, .int x3), (4, .int x4)] []) : ∀ (k : Nat) (σ : jj_S) (x1 x2 x3 x4 : Int32), jj_J p l e R s m args below meth c D vwCl A ad cA (gc n S SD) 6 0 0 (jj_Qi below D vwCl A ad cA (gc n S SD) args s 0 0) (jj_lp4 (b_Routers_chosenPort_14 n S SD F K) k σ x1 x2 x3 x4) σ 14 [(0, .ref (ad 30)), (1, .int x1), (2, .int x2), (3, .int x3), (4, .int x4)] [] := by
  refine jj_loop4 (T := fun o σ x1 x2 x3 x4 => jj_J p l e R s m args below meth c D vwCl A ad cA (gc n S SD) 6 0 0 (jj_Qi below D vwCl A ad cA (gc n S SD) args s 0 0) o σ 14 [(0, .ref (ad 30)), (1, .int x1), (2, .int x2), (3, .int x3), (4, .int x4)] []) (fun _ _ _ _ _ _ h => by cases h) ?_
  intro rec ih σ x1 x2 x3 x4
  unfold b_Routers_chosenPort_14
  refine jj_iload C 4 dX6_chosenPort_14 rfl ?_
  refine jj_iconst C (v := (5 : Int32)) dX6_chosenPort_16 (by decide) ?_
  refine jj_icmp_ge C (tgt := 74) dX6_chosenPort_17 (by decide) (fun _ => ?_) (fun _ => ?_)
  · refine jj_sub [0, 1, 2, 3, 4] rfl ?_
    exact hK σ x1 x2 x3 x4
  · refine jj_iload_n C 3 dX6_chosenPort_20 rfl rfl ?_
    refine jj_iload C 4 dX6_chosenPort_21 rfl ?_
    refine jj_iadd C dX6_chosenPort_23 ?_
    refine jj_iconst C (v := (5 : Int32)) dX6_chosenPort_24 (by decide) ?_
    refine jj_irem C dX6_chosenPort_25 ?_
    refine jj_ltn (fun v5_2 => ?_)
    refine jj_istore C [(5, .int v5_2), (0, .ref (ad 30)), (1, .int x1), (2, .int x2), (3, .int x3), (4, .int x4)] dX6_chosenPort_26 (by decide) rfl ?_
    refine jj_aload_n C 1 dX6_chosenPort_28 rfl rfl ?_
    refine jj_getr C 30 9 in_Routers (g_30 n S SD) k_Routers (by decide) fl_Routers_9 rfl dX6_chosenPort_29 ?_
    refine jj_iload C 0 dX6_chosenPort_32 rfl ?_
    refine jj_iald C 31 (g_31 n S SD) dX6_chosenPort_34 ?_
    refine jj_iconst C (v := (-1 : Int32)) dX6_chosenPort_35 (by decide) ?_
    refine jj_icmp_eq C (tgt := 68) dX6_chosenPort_36 (by decide) (fun _ => ?_) (fun _ => ?_)
    · refine jj_iinc C (v := x4 + (1 : Int32)) [(4, .int (x4 + (1 : Int32))), (5, .int v5_2), (0, .ref (ad 30)), (1, .int x1), (2, .int x2), (3, .int x3)] 5 dX6_chosenPort_68 rfl rfl (by decide) rfl ?_
      refine jj_goto C (tgt := 14) dX6_chosenPort_71 (by decide) ?_
      refine jj_sub [2, 3, 4, 5, 0] rfl ?_
      exact ih σ x1 x2 x3 (x4 + (1 : Int32))
    · refine jj_aload_n C 1 dX6_chosenPort_39 rfl rfl ?_
      refine jj_getr C 30 4 in_Routers (g_30 n S SD) k_Routers (by decide) fl_Routers_36 rfl dX6_chosenPort_40 ?_
      refine jj_aload_n C 1 dX6_chosenPort_43 rfl rfl ?_
      refine jj_getr C 30 0 in_Routers (g_30 n S SD) k_Routers (by decide) fl_Routers_15 rfl dX6_chosenPort_44 ?_
      refine jj_iload_n C 2 dX6_chosenPort_47 rfl rfl ?_
      refine jj_iload C 0 dX6_chosenPort_48 rfl ?_
      refine jj_aload_n C 1 dX6_chosenPort_50 rfl rfl ?_
      refine jj_getr C 30 9 in_Routers (g_30 n S SD) k_Routers (by decide) fl_Routers_9 rfl dX6_chosenPort_51 ?_
      refine jj_iload C 0 dX6_chosenPort_54 rfl ?_
      refine jj_iald C 31 (g_31 n S SD) dX6_chosenPort_56 ?_
      refine jj_callVi C (As := [.int x1, .int v5_2, .int (σ 31 v5_2.toNatClampNeg)]) (rest := [.ref (ad 33)]) (fun z hz => c_Grid_slot hz) (q_Routers_73 C.2.2.2.2.1 (rm := { frames := 0, cells := 0, slots := 0, locals := 0 }) rfl rfl ⟨Nat.le_trans (by decide) hRm.1, Nat.le_trans (by decide) hRm.2⟩) (g_1 n S SD) k_Grid rfl rfl (Nat.le_of_ble_eq_true rfl) dX6_chosenPort_57 (fun r4 σ3 _ => ?_)
      refine jj_iald C 33 (g_33 n S SD) dX6_chosenPort_60 ?_
      refine jj_iload_n C 3 dX6_chosenPort_61 rfl rfl ?_
      refine jj_icmp_ne C (tgt := 68) dX6_chosenPort_62 (by decide) (fun _ => ?_) (fun _ => ?_)
      · refine jj_iinc C (v := x4 + (1 : Int32)) [(4, .int (x4 + (1 : Int32))), (5, .int v5_2), (0, .ref (ad 30)), (1, .int x1), (2, .int x2), (3, .int x3)] 5 dX6_chosenPort_68 rfl rfl (by decide) rfl ?_
        refine jj_goto C (tgt := 14) dX6_chosenPort_71 (by decide) ?_
        refine jj_sub [2, 3, 4, 5, 0] rfl ?_
        exact ih σ3 x1 x2 x3 (x4 + (1 : Int32))
      · refine jj_iload C 0 dX6_chosenPort_65 rfl ?_
        exact jj_iret C hr hlocks dX6_chosenPort_67

set_option maxHeartbeats 4000000 in
set_option maxRecDepth 100000 in
theorem c_Routers_chosenPort {l : Launch} {D : va_G} {ad : Nat → Nat} {cA : FieldType → ClassId} {n S SD F : Nat} {σ : jj_S} {a1 a2 : Int32} {z : (Int32 × jj_S)} (ho : f_Routers_chosenPort n S SD F σ a1 a2 = some z) : jj_Mi l yX6_chosenPort (Cond.code yX6_chosenPort cX6_chosenPort 6 (some .int) :: jw_t) { frames := 1, cells := 0, slots := 0, locals := 40 } D vwCl ad cA (gc n S SD) [.ref (ad 30), .int a1, .int a2] σ z := by
  refine jj_ofi (cc := cX6_chosenPort) (nL := 6) (ret := (some .int)) rfl ho (Nat.le_of_ble_eq_true rfl) ?_
  intro p e s m below meth c C hr hlocks
  generalize hA : va_A (jj_w ad cA (gc n S SD) σ) s.heap.size = A at C ⊢
  have hRm : 1 ≤ (headSpec (Cond.code yX6_chosenPort cX6_chosenPort 6 (some .int) :: jw_t) { frames := 1, cells := 0, slots := 0, locals := 40 }).room.frames ∧ 40 ≤ (headSpec (Cond.code yX6_chosenPort cX6_chosenPort 6 (some .int) :: jw_t) { frames := 1, cells := 0, slots := 0, locals := 40 }).room.locals := ⟨Nat.le_refl _, Nat.le_refl _⟩
  generalize (headSpec (Cond.code yX6_chosenPort cX6_chosenPort 6 (some .int) :: jw_t) { frames := 1, cells := 0, slots := 0, locals := 40 }).room = R at C hRm ⊢
  generalize List.toArray ([.ref (ad 30), .int a1, .int a2] : List Value) = args at C ⊢
  refine jj_sub (lv' := [(0, .ref (ad 30)), (1, .int a1), (2, .int a2)]) [0, 1, 2] rfl ?_
  unfold f_Routers_chosenPort
  refine jj_aload_n C 0 dX6_chosenPort_0 rfl rfl ?_
  refine jj_getr C 30 8 in_Routers (g_30 n S SD) k_Routers (by decide) fl_Routers_52 rfl dX6_chosenPort_1 ?_
  refine jj_iload_n C 1 dX6_chosenPort_4 rfl rfl ?_
  refine jj_iconst C (v := (5 : Int32)) dX6_chosenPort_5 (by decide) ?_
  refine jj_imul C dX6_chosenPort_6 ?_
  refine jj_iload_n C 2 dX6_chosenPort_7 rfl rfl ?_
  refine jj_iadd C dX6_chosenPort_8 ?_
  refine jj_iald C 37 (g_37 n S SD) dX6_chosenPort_9 ?_
  refine jj_ltn (fun v3_1 => ?_)
  refine jj_istore_n C [(3, .int v3_1), (0, .ref (ad 30)), (1, .int a1), (2, .int a2)] dX6_chosenPort_10 rfl (by decide) rfl ?_
  refine jj_iconst C (v := (0 : Int32)) dX6_chosenPort_11 (by decide) ?_
  refine jj_istore C [(4, .int (0 : Int32)), (3, .int v3_1), (0, .ref (ad 30)), (1, .int a1), (2, .int a2)] dX6_chosenPort_12 (by decide) rfl ?_
  refine jj_sub [2, 3, 4, 1, 0] rfl ?_
  refine l_Routers_chosenPort_14 C hr hlocks hRm (fun σ5 x1_6 x2_7 x3_8 x4_9 => ?_) F σ a1 a2 v3_1 (0 : Int32)
  refine jj_iconst C (v := (-1 : Int32)) dX6_chosenPort_74 (by decide) ?_
  exact jj_iret C hr hlocks dX6_chosenPort_75

set_option maxHeartbeats 4000000 in
set_option maxRecDepth 100000 in
theorem c_Routers_move {l : Launch} {D : va_G} {ad : Nat → Nat} {cA : FieldType → ClassId} {n S SD F : Nat} {σ : jj_S} {a1 a2 a3 : Int32} {z : jj_S} (ho : f_Routers_move n S SD F σ a1 a2 a3 = some z) : jj_Mv l yX6_move (Cond.code yX6_move cX6_move 8 none :: jw_t) { frames := 2, cells := 0, slots := 0, locals := 80 } D vwCl ad cA (gc n S SD) [.ref (ad 30), .int a1, .int a2, .int a3] σ z := by
  refine jj_ofv (cc := cX6_move) (nL := 8) (ret := none) rfl ho (Nat.le_of_ble_eq_true rfl) ?_
  intro p e s m below meth c C hr hlocks
  generalize hA : va_A (jj_w ad cA (gc n S SD) σ) s.heap.size = A at C ⊢
  have hRm : 2 ≤ (headSpec (Cond.code yX6_move cX6_move 8 none :: jw_t) { frames := 2, cells := 0, slots := 0, locals := 80 }).room.frames ∧ 80 ≤ (headSpec (Cond.code yX6_move cX6_move 8 none :: jw_t) { frames := 2, cells := 0, slots := 0, locals := 80 }).room.locals := ⟨Nat.le_refl _, Nat.le_refl _⟩
  generalize (headSpec (Cond.code yX6_move cX6_move 8 none :: jw_t) { frames := 2, cells := 0, slots := 0, locals := 80 }).room = R at C hRm ⊢
  generalize List.toArray ([.ref (ad 30), .int a1, .int a2, .int a3] : List Value) = args at C ⊢
  refine jj_sub (lv' := [(0, .ref (ad 30)), (1, .int a1), (2, .int a2), (3, .int a3)]) [0, 1, 2, 3] rfl ?_
  unfold f_Routers_move
  refine jj_aload_n C 0 dX6_move_0 rfl rfl ?_
  refine jj_getr C 30 9 in_Routers (g_30 n S SD) k_Routers (by decide) fl_Routers_9 rfl dX6_move_1 ?_
  refine jj_iload_n C 2 dX6_move_4 rfl rfl ?_
  refine jj_iald C 31 (g_31 n S SD) dX6_move_5 ?_
  refine jj_ltn (fun v4_1 => ?_)
  refine jj_istore C [(4, .int v4_1), (0, .ref (ad 30)), (1, .int a1), (2, .int a2), (3, .int a3)] dX6_move_6 (by decide) rfl ?_
  refine jj_aload_n C 1 dX6_move_8 rfl rfl ?_
  refine jj_getr C 30 0 in_Routers (g_30 n S SD) k_Routers (by decide) fl_Routers_15 rfl dX6_move_9 ?_
  refine jj_iload_n C 2 dX6_move_12 rfl rfl ?_
  refine jj_iload_n C 3 dX6_move_13 rfl rfl ?_
  refine jj_iload C 0 dX6_move_14 rfl ?_
  refine jj_callVi C (As := [.int a1, .int a2, .int v4_1]) (rest := []) (fun z hz => c_Grid_slot hz) (q_Routers_73 C.2.2.2.2.1 (rm := { frames := 0, cells := 0, slots := 0, locals := 0 }) rfl rfl ⟨Nat.le_trans (by decide) hRm.1, Nat.le_trans (by decide) hRm.2⟩) (g_1 n S SD) k_Grid rfl rfl (Nat.le_of_ble_eq_true rfl) dX6_move_16 (fun r3 σ2 _ => ?_)
  refine jj_istore C [(5, .int r3), (4, .int v4_1), (0, .ref (ad 30)), (1, .int a1), (2, .int a2), (3, .int a3)] dX6_move_19 (by decide) rfl ?_
  refine jj_aload_n C 2 dX6_move_21 rfl rfl ?_
  refine jj_getr C 30 0 in_Routers (g_30 n S SD) k_Routers (by decide) fl_Routers_15 rfl dX6_move_22 ?_
  refine jj_iload_n C 3 dX6_move_25 rfl rfl ?_
  refine jj_iload_n C 5 dX6_move_26 rfl rfl ?_
  refine jj_iload C 1 dX6_move_27 rfl ?_
  refine jj_callVi C (As := [.int a1, .int a3, .int v4_1]) (rest := []) (fun z hz => c_Grid_slot hz) (q_Routers_73 C.2.2.2.2.1 (rm := { frames := 0, cells := 0, slots := 0, locals := 0 }) rfl rfl ⟨Nat.le_trans (by decide) hRm.1, Nat.le_trans (by decide) hRm.2⟩) (g_1 n S SD) k_Grid rfl rfl (Nat.le_of_ble_eq_true rfl) dX6_move_29 (fun r5 σ4 _ => ?_)
  refine jj_istore C [(6, .int r5), (5, .int r3), (4, .int v4_1), (0, .ref (ad 30)), (1, .int a1), (2, .int a2), (3, .int a3)] dX6_move_32 (by decide) rfl ?_
  refine jj_aload_n C 3 dX6_move_34 rfl rfl ?_
  refine jj_getr C 30 1 in_Routers (g_30 n S SD) k_Routers (by decide) fl_Routers_19 rfl dX6_move_35 ?_
  refine jj_iload C 1 dX6_move_38 rfl ?_
  refine jj_callVi C (As := [.int r3]) (rest := []) (fun z hz => c_Links_takeOut hz) (q_Routers_85 C.2.2.2.2.1 (rm := { frames := 1, cells := 0, slots := 0, locals := 40 }) rfl rfl ⟨Nat.le_trans (by decide) hRm.1, Nat.le_trans (by decide) hRm.2⟩) (g_2 n S SD) k_Links rfl rfl (Nat.le_of_ble_eq_true rfl) dX6_move_40 (fun r7 σ6 _ => ?_)
  refine jj_istore C [(7, .int r7), (6, .int r5), (5, .int r3), (4, .int v4_1), (0, .ref (ad 30)), (1, .int a1), (2, .int a2), (3, .int a3)] dX6_move_43 (by decide) rfl ?_
  refine jj_aload_n C 4 dX6_move_45 rfl rfl ?_
  refine jj_getr C 30 1 in_Routers (g_30 n S SD) k_Routers (by decide) fl_Routers_19 rfl dX6_move_46 ?_
  refine jj_iload C 1 dX6_move_49 rfl ?_
  refine jj_iload C 0 dX6_move_51 rfl ?_
  refine jj_callVv C (As := [.int r5, .int r7]) (rest := []) (fun z hz => c_Links_send hz) (q_Routers_89 C.2.2.2.2.1 (rm := { frames := 0, cells := 0, slots := 0, locals := 0 }) rfl rfl ⟨Nat.le_trans (by decide) hRm.1, Nat.le_trans (by decide) hRm.2⟩) (g_2 n S SD) k_Links rfl rfl (Nat.le_of_ble_eq_true rfl) dX6_move_53 (fun σ8 _ => ?_)
  refine jj_aload_n C 4 dX6_move_56 rfl rfl ?_
  refine jj_getr C 30 8 in_Routers (g_30 n S SD) k_Routers (by decide) fl_Routers_52 rfl dX6_move_57 ?_
  refine jj_iload_n C 5 dX6_move_60 rfl rfl ?_
  refine jj_iconst C (v := (5 : Int32)) dX6_move_61 (by decide) ?_
  refine jj_imul C dX6_move_62 ?_
  refine jj_iload_n C 7 dX6_move_63 rfl rfl ?_
  refine jj_iadd C dX6_move_64 ?_
  refine jj_iload_n C 6 dX6_move_65 rfl rfl ?_
  refine jj_iconst C (v := (1 : Int32)) dX6_move_66 (by decide) ?_
  refine jj_iadd C dX6_move_67 ?_
  refine jj_iconst C (v := (5 : Int32)) dX6_move_68 (by decide) ?_
  refine jj_irem C dX6_move_69 ?_
  refine jj_iast C 37 (g_37 n S SD) dX6_move_70 ?_
  refine jj_stn (fun σ9 => ?_)
  refine jj_aload_n C 4 dX6_move_71 rfl rfl ?_
  refine jj_getr C 30 7 in_Routers (g_30 n S SD) k_Routers (by decide) fl_Routers_49 rfl dX6_move_72 ?_
  refine jj_iload_n C 5 dX6_move_75 rfl rfl ?_
  refine jj_iconst C (v := (5 : Int32)) dX6_move_76 (by decide) ?_
  refine jj_imul C dX6_move_77 ?_
  refine jj_iload_n C 6 dX6_move_78 rfl rfl ?_
  refine jj_iadd C dX6_move_79 ?_
  refine jj_iload C 3 dX6_move_80 rfl ?_
  refine jj_iconst C (v := (1 : Int32)) dX6_move_82 (by decide) ?_
  refine jj_iadd C dX6_move_83 ?_
  refine jj_aload_n C 4 dX6_move_84 rfl rfl ?_
  refine jj_getr C 30 0 in_Routers (g_30 n S SD) k_Routers (by decide) fl_Routers_15 rfl dX6_move_85 ?_
  refine jj_geti C 1 4 in_Grid (g_1 n S SD) k_Grid (by decide) fl_Routers_66 rfl dX6_move_88 ?_
  refine jj_irem C dX6_move_91 ?_
  refine jj_iast C 36 (g_36 n S SD) dX6_move_92 ?_
  refine jj_stn (fun σ10 => ?_)
  refine jj_iload C 0 dX6_move_93 rfl ?_
  refine jj_callSi C (As := [.int r7]) (rest := []) (fun z hz => c_Packets_isLast hz) (q_Routers_93 C.2.2.2.2.1 (rm := { frames := 0, cells := 0, slots := 0, locals := 0 }) rfl rfl ⟨Nat.le_trans (by decide) hRm.1, Nat.le_trans (by decide) hRm.2⟩) rfl rfl (Nat.le_of_ble_eq_true rfl) dX6_move_95 (fun r12 σ11 _ => ?_)
  refine jj_if_eq C (tgt := 117) dX6_move_98 (by decide) (fun _ => ?_) (fun _ => ?_)
  · exact jj_vret C hr hlocks dX6_move_117
  · refine jj_aload_n C 4 dX6_move_101 rfl rfl ?_
    refine jj_getr C 30 5 in_Routers (g_30 n S SD) k_Routers (by decide) fl_Routers_39 rfl dX6_move_102 ?_
    refine jj_iload C 1 dX6_move_105 rfl ?_
    refine jj_iconst C (v := (0 : Int32)) dX6_move_107 (by decide) ?_
    refine jj_zast C 34 (g_34 n S SD) dX6_move_108 ?_
    refine jj_stn (fun σ13 => ?_)
    refine jj_aload_n C 4 dX6_move_109 rfl rfl ?_
    refine jj_getr C 30 3 in_Routers (g_30 n S SD) k_Routers (by decide) fl_Routers_33 rfl dX6_move_110 ?_
    refine jj_iload C 2 dX6_move_113 rfl ?_
    refine jj_iconst C (v := (0 : Int32)) dX6_move_115 (by decide) ?_
    refine jj_iast C 32 (g_32 n S SD) dX6_move_116 ?_
    refine jj_stn (fun σ14 => ?_)
    exact jj_vret C hr hlocks dX6_move_117

set_option maxHeartbeats 4000000 in
set_option maxRecDepth 100000 in
theorem l_Routers_moveAll_15 {p : Program} {l : Launch} {e : Env} {R : Room} {s : State} {m : MethodId} {args : Array Value} {below : List Frame} {meth : Method} {c : Code} {D : va_G} {A : Nat → Prop} {ad : Nat → Nat} {cA : FieldType → ClassId} {n S SD F : Nat} (C : jj_C p R s m args c D vwCl A ad cA (gc n S SD) 4 0 0 cX6_moveAll RX6 jw_t) (hr : meth.sig.returnType = none) (hlocks : meth.locks = false) (hRm : 3 ≤ R.frames ∧ 120 ≤ R.locals) {K : jj_S → Int32 → Int32 → Option jj_S} (hK : ∀ (σ : jj_S) (x1 x2 : Int32), jj_J p l e R s m args below meth c D vwCl A ad cA (gc n S SD) 4 0 0 (jj_Qv below D vwCl A ad cA (gc n S SD) args s 0 0) (K σ x1 x2) σ 38 [(0, .ref (ad 30)), (1, .int x1), (2, .int x2)] []) : ∀ (k : Nat) (σ : jj_S) (x1 x2 : Int32), jj_J p l e R s m args below meth c D vwCl A ad cA (gc n S SD) 4 0 0 (jj_Qv below D vwCl A ad cA (gc n S SD) args s 0 0) (jj_lp2 (b_Routers_moveAll_15 n S SD F K) k σ x1 x2) σ 15 [(0, .ref (ad 30)), (1, .int x1), (2, .int x2)] [] := by
  refine jj_loop2 (T := fun o σ x1 x2 => jj_J p l e R s m args below meth c D vwCl A ad cA (gc n S SD) 4 0 0 (jj_Qv below D vwCl A ad cA (gc n S SD) args s 0 0) o σ 15 [(0, .ref (ad 30)), (1, .int x1), (2, .int x2)] []) (fun _ _ _ _ h => by cases h) ?_
  intro rec ih σ x1 x2
  unfold b_Routers_moveAll_15
  refine jj_iload_n C 2 dX6_moveAll_15 rfl rfl ?_
  refine jj_iconst C (v := (5 : Int32)) dX6_moveAll_16 (by decide) ?_
  refine jj_icmp_ge C (tgt := 38) dX6_moveAll_17 (by decide) (fun _ => ?_) (fun _ => ?_)
  · refine jj_sub [0, 1, 2] rfl ?_
    exact hK σ x1 x2
  · refine jj_aload_n C 0 dX6_moveAll_20 rfl rfl ?_
    refine jj_getr C 30 9 in_Routers (g_30 n S SD) k_Routers (by decide) fl_Routers_9 rfl dX6_moveAll_21 ?_
    refine jj_iload_n C 2 dX6_moveAll_24 rfl rfl ?_
    refine jj_aload_n C 0 dX6_moveAll_25 rfl rfl ?_
    refine jj_iload_n C 1 dX6_moveAll_26 rfl rfl ?_
    refine jj_iload_n C 2 dX6_moveAll_27 rfl rfl ?_
    refine jj_callVi C (As := [.int x1, .int x2]) (rest := [.int x2, .ref (ad 31)]) (fun z hz => c_Routers_readyChannel hz) (q_Routers_55 C.2.2.2.2.1 (rm := { frames := 2, cells := 0, slots := 0, locals := 80 }) rfl rfl ⟨Nat.le_trans (by decide) hRm.1, Nat.le_trans (by decide) hRm.2⟩) (g_30 n S SD) k_Routers rfl rfl (Nat.le_of_ble_eq_true rfl) dX6_moveAll_28 (fun r2 σ1 _ => ?_)
    refine jj_iast C 31 (g_31 n S SD) dX6_moveAll_31 ?_
    refine jj_stn (fun σ3 => ?_)
    refine jj_iinc C (v := x2 + (1 : Int32)) [(2, .int (x2 + (1 : Int32))), (0, .ref (ad 30)), (1, .int x1)] 2 dX6_moveAll_32 rfl rfl (by decide) rfl ?_
    refine jj_goto C (tgt := 15) dX6_moveAll_35 (by decide) ?_
    refine jj_sub [1, 2, 0] rfl ?_
    exact ih σ3 x1 (x2 + (1 : Int32))

set_option maxHeartbeats 4000000 in
set_option maxRecDepth 100000 in
theorem l_Routers_moveAll_40 {p : Program} {l : Launch} {e : Env} {R : Room} {s : State} {m : MethodId} {args : Array Value} {below : List Frame} {meth : Method} {c : Code} {D : va_G} {A : Nat → Prop} {ad : Nat → Nat} {cA : FieldType → ClassId} {n S SD F : Nat} (C : jj_C p R s m args c D vwCl A ad cA (gc n S SD) 4 0 0 cX6_moveAll RX6 jw_t) (hr : meth.sig.returnType = none) (hlocks : meth.locks = false) (hRm : 3 ≤ R.frames ∧ 120 ≤ R.locals) {K : jj_S → Int32 → Int32 → Option jj_S} (hK : ∀ (σ : jj_S) (x1 x2 : Int32), jj_J p l e R s m args below meth c D vwCl A ad cA (gc n S SD) 4 0 0 (jj_Qv below D vwCl A ad cA (gc n S SD) args s 0 0) (K σ x1 x2) σ 70 [(0, .ref (ad 30)), (1, .int x1), (2, .int x2)] []) : ∀ (k : Nat) (σ : jj_S) (x1 x2 : Int32), jj_J p l e R s m args below meth c D vwCl A ad cA (gc n S SD) 4 0 0 (jj_Qv below D vwCl A ad cA (gc n S SD) args s 0 0) (jj_lp2 (b_Routers_moveAll_40 n S SD F K) k σ x1 x2) σ 40 [(0, .ref (ad 30)), (1, .int x1), (2, .int x2)] [] := by
  refine jj_loop2 (T := fun o σ x1 x2 => jj_J p l e R s m args below meth c D vwCl A ad cA (gc n S SD) 4 0 0 (jj_Qv below D vwCl A ad cA (gc n S SD) args s 0 0) o σ 40 [(0, .ref (ad 30)), (1, .int x1), (2, .int x2)] []) (fun _ _ _ _ h => by cases h) ?_
  intro rec ih σ x1 x2
  unfold b_Routers_moveAll_40
  refine jj_iload_n C 2 dX6_moveAll_40 rfl rfl ?_
  refine jj_iconst C (v := (5 : Int32)) dX6_moveAll_41 (by decide) ?_
  refine jj_icmp_ge C (tgt := 70) dX6_moveAll_42 (by decide) (fun _ => ?_) (fun _ => ?_)
  · refine jj_sub [0, 1, 2] rfl ?_
    exact hK σ x1 x2
  · refine jj_aload_n C 0 dX6_moveAll_45 rfl rfl ?_
    refine jj_iload_n C 1 dX6_moveAll_46 rfl rfl ?_
    refine jj_iload_n C 2 dX6_moveAll_47 rfl rfl ?_
    refine jj_callVi C (As := [.int x1, .int x2]) (rest := []) (fun z hz => c_Routers_chosenPort hz) (q_Routers_59 C.2.2.2.2.1 (rm := { frames := 1, cells := 0, slots := 0, locals := 40 }) rfl rfl ⟨Nat.le_trans (by decide) hRm.1, Nat.le_trans (by decide) hRm.2⟩) (g_30 n S SD) k_Routers rfl rfl (Nat.le_of_ble_eq_true rfl) dX6_moveAll_48 (fun r8 σ7 _ => ?_)
    refine jj_istore_n C [(3, .int r8), (0, .ref (ad 30)), (1, .int x1), (2, .int x2)] dX6_moveAll_51 rfl (by decide) rfl ?_
    refine jj_iload_n C 0 dX6_moveAll_52 rfl rfl ?_
    refine jj_iconst C (v := (-1 : Int32)) dX6_moveAll_53 (by decide) ?_
    refine jj_icmp_eq C (tgt := 64) dX6_moveAll_54 (by decide) (fun _ => ?_) (fun _ => ?_)
    · refine jj_iinc C (v := x2 + (1 : Int32)) [(2, .int (x2 + (1 : Int32))), (3, .int r8), (0, .ref (ad 30)), (1, .int x1)] 3 dX6_moveAll_64 rfl rfl (by decide) rfl ?_
      refine jj_goto C (tgt := 40) dX6_moveAll_67 (by decide) ?_
      refine jj_sub [2, 3, 0] rfl ?_
      exact ih σ7 x1 (x2 + (1 : Int32))
    · refine jj_aload_n C 1 dX6_moveAll_57 rfl rfl ?_
      refine jj_iload_n C 2 dX6_moveAll_58 rfl rfl ?_
      refine jj_iload_n C 0 dX6_moveAll_59 rfl rfl ?_
      refine jj_iload_n C 3 dX6_moveAll_60 rfl rfl ?_
      refine jj_callVv C (As := [.int x1, .int r8, .int x2]) (rest := []) (fun z hz => c_Routers_move hz) (q_Routers_62 C.2.2.2.2.1 (rm := { frames := 2, cells := 0, slots := 0, locals := 80 }) rfl rfl ⟨Nat.le_trans (by decide) hRm.1, Nat.le_trans (by decide) hRm.2⟩) (g_30 n S SD) k_Routers rfl rfl (Nat.le_of_ble_eq_true rfl) dX6_moveAll_61 (fun σ9 _ => ?_)
      refine jj_iinc C (v := x2 + (1 : Int32)) [(2, .int (x2 + (1 : Int32))), (3, .int r8), (0, .ref (ad 30)), (1, .int x1)] 3 dX6_moveAll_64 rfl rfl (by decide) rfl ?_
      refine jj_goto C (tgt := 40) dX6_moveAll_67 (by decide) ?_
      refine jj_sub [2, 3, 0] rfl ?_
      exact ih σ9 x1 (x2 + (1 : Int32))

set_option maxHeartbeats 4000000 in
set_option maxRecDepth 100000 in
theorem l_Routers_moveAll_2 {p : Program} {l : Launch} {e : Env} {R : Room} {s : State} {m : MethodId} {args : Array Value} {below : List Frame} {meth : Method} {c : Code} {D : va_G} {A : Nat → Prop} {ad : Nat → Nat} {cA : FieldType → ClassId} {n S SD F : Nat} (C : jj_C p R s m args c D vwCl A ad cA (gc n S SD) 4 0 0 cX6_moveAll RX6 jw_t) (hr : meth.sig.returnType = none) (hlocks : meth.locks = false) (hRm : 3 ≤ R.frames ∧ 120 ≤ R.locals) {K : jj_S → Int32 → Option jj_S} (hK : ∀ (σ : jj_S) (x1 : Int32), jj_J p l e R s m args below meth c D vwCl A ad cA (gc n S SD) 4 0 0 (jj_Qv below D vwCl A ad cA (gc n S SD) args s 0 0) (K σ x1) σ 76 [(0, .ref (ad 30)), (1, .int x1)] []) : ∀ (k : Nat) (σ : jj_S) (x1 : Int32), jj_J p l e R s m args below meth c D vwCl A ad cA (gc n S SD) 4 0 0 (jj_Qv below D vwCl A ad cA (gc n S SD) args s 0 0) (jj_lp1 (b_Routers_moveAll_2 n S SD F K) k σ x1) σ 2 [(0, .ref (ad 30)), (1, .int x1)] [] := by
  refine jj_loop1 (T := fun o σ x1 => jj_J p l e R s m args below meth c D vwCl A ad cA (gc n S SD) 4 0 0 (jj_Qv below D vwCl A ad cA (gc n S SD) args s 0 0) o σ 2 [(0, .ref (ad 30)), (1, .int x1)] []) (fun _ _ _ h => by cases h) ?_
  intro rec ih σ x1
  unfold b_Routers_moveAll_2
  refine jj_iload_n C 1 dX6_moveAll_2 rfl rfl ?_
  refine jj_aload_n C 0 dX6_moveAll_3 rfl rfl ?_
  refine jj_getr C 30 0 in_Routers (g_30 n S SD) k_Routers (by decide) fl_Routers_15 rfl dX6_moveAll_4 ?_
  refine jj_geti C 1 5 in_Grid (g_1 n S SD) k_Grid (by decide) fl_Routers_46 rfl dX6_moveAll_7 ?_
  refine jj_icmp_ge C (tgt := 76) dX6_moveAll_10 (by decide) (fun _ => ?_) (fun _ => ?_)
  · refine jj_sub [0, 1] rfl ?_
    exact hK σ x1
  · refine jj_iconst C (v := (0 : Int32)) dX6_moveAll_13 (by decide) ?_
    refine jj_istore_n C [(2, .int (0 : Int32)), (0, .ref (ad 30)), (1, .int x1)] dX6_moveAll_14 rfl (by decide) rfl ?_
    refine jj_sub [1, 2, 0] rfl ?_
    refine l_Routers_moveAll_15 C hr hlocks hRm (fun σ4 x1_5 x2_6 => ?_) F σ x1 (0 : Int32)
    refine jj_iconst C (v := (0 : Int32)) dX6_moveAll_38 (by decide) ?_
    refine jj_istore_n C [(2, .int (0 : Int32)), (0, .ref (ad 30)), (1, .int x1_5)] dX6_moveAll_39 rfl (by decide) rfl ?_
    refine jj_sub [1, 2, 0] rfl ?_
    refine l_Routers_moveAll_40 C hr hlocks hRm (fun σ10 x1_11 x2_12 => ?_) F σ4 x1_5 (0 : Int32)
    refine jj_iinc C (v := x1_11 + (1 : Int32)) [(1, .int (x1_11 + (1 : Int32))), (0, .ref (ad 30)), (2, .int x2_12)] 1 dX6_moveAll_70 rfl rfl (by decide) rfl ?_
    refine jj_goto C (tgt := 2) dX6_moveAll_73 (by decide) ?_
    refine jj_sub [1, 0] rfl ?_
    exact ih σ10 (x1_11 + (1 : Int32))

set_option maxHeartbeats 4000000 in
set_option maxRecDepth 100000 in
theorem c_Routers_moveAll {l : Launch} {D : va_G} {ad : Nat → Nat} {cA : FieldType → ClassId} {n S SD F : Nat} {σ : jj_S} {z : jj_S} (ho : f_Routers_moveAll n S SD F σ = some z) : jj_Mv l yX6_moveAll (Cond.code yX6_moveAll cX6_moveAll 4 none :: jw_t) { frames := 3, cells := 0, slots := 0, locals := 120 } D vwCl ad cA (gc n S SD) [.ref (ad 30)] σ z := by
  refine jj_ofv (cc := cX6_moveAll) (nL := 4) (ret := none) rfl ho (Nat.le_of_ble_eq_true rfl) ?_
  intro p e s m below meth c C hr hlocks
  generalize hA : va_A (jj_w ad cA (gc n S SD) σ) s.heap.size = A at C ⊢
  have hRm : 3 ≤ (headSpec (Cond.code yX6_moveAll cX6_moveAll 4 none :: jw_t) { frames := 3, cells := 0, slots := 0, locals := 120 }).room.frames ∧ 120 ≤ (headSpec (Cond.code yX6_moveAll cX6_moveAll 4 none :: jw_t) { frames := 3, cells := 0, slots := 0, locals := 120 }).room.locals := ⟨Nat.le_refl _, Nat.le_refl _⟩
  generalize (headSpec (Cond.code yX6_moveAll cX6_moveAll 4 none :: jw_t) { frames := 3, cells := 0, slots := 0, locals := 120 }).room = R at C hRm ⊢
  generalize List.toArray ([.ref (ad 30)] : List Value) = args at C ⊢
  refine jj_sub (lv' := [(0, .ref (ad 30))]) [0] rfl ?_
  unfold f_Routers_moveAll
  refine jj_iconst C (v := (0 : Int32)) dX6_moveAll_0 (by decide) ?_
  refine jj_istore_n C [(1, .int (0 : Int32)), (0, .ref (ad 30))] dX6_moveAll_1 rfl (by decide) rfl ?_
  refine jj_sub [1, 0] rfl ?_
  refine l_Routers_moveAll_2 C hr hlocks hRm (fun σ13 x1_14 => ?_) F σ (0 : Int32)
  exact jj_vret C hr hlocks dX6_moveAll_76

set_option maxHeartbeats 4000000 in
set_option maxRecDepth 100000 in
theorem l_Routers_grantIfFree_35 {p : Program} {l : Launch} {e : Env} {R : Room} {s : State} {m : MethodId} {args : Array Value} {below : List Frame} {meth : Method} {c : Code} {D : va_G} {A : Nat → Prop} {ad : Nat → Nat} {cA : FieldType → ClassId} {n S SD F : Nat} (C : jj_C p R s m args c D vwCl A ad cA (gc n S SD) 9 0 0 cX6_grantIfFree RX6 jw_t) (hr : meth.sig.returnType = none) (hlocks : meth.locks = false) (hRm : 1 ≤ R.frames ∧ 40 ≤ R.locals) {K : jj_S → Int32 → Int32 → Int32 → Int32 → Int32 → Int32 → Option jj_S} (hK : ∀ (σ : jj_S) (x1 x2 x3 x4 x5 x6 : Int32), jj_J p l e R s m args below meth c D vwCl A ad cA (gc n S SD) 9 0 0 (jj_Qv below D vwCl A ad cA (gc n S SD) args s 0 0) (K σ x1 x2 x3 x4 x5 x6) σ 121 [(0, .ref (ad 30)), (1, .int x1), (2, .int x2), (3, .int x3), (4, .int x4), (5, .int x5), (6, .int x6)] []) : ∀ (k : Nat) (σ : jj_S) (x1 x2 x3 x4 x5 x6 : Int32), jj_J p l e R s m args below meth c D vwCl A ad cA (gc n S SD) 9 0 0 (jj_Qv below D vwCl A ad cA (gc n S SD) args s 0 0) (jj_lp6 (b_Routers_grantIfFree_35 n S SD F K) k σ x1 x2 x3 x4 x5 x6) σ 35 [(0, .ref (ad 30)), (1, .int x1), (2, .int x2), (3, .int x3), (4, .int x4), (5, .int x5), (6, .int x6)] [] := by
  refine jj_loop6 (T := fun o σ x1 x2 x3 x4 x5 x6 => jj_J p l e R s m args below meth c D vwCl A ad cA (gc n S SD) 9 0 0 (jj_Qv below D vwCl A ad cA (gc n S SD) args s 0 0) o σ 35 [(0, .ref (ad 30)), (1, .int x1), (2, .int x2), (3, .int x3), (4, .int x4), (5, .int x5), (6, .int x6)] []) (fun _ _ _ _ _ _ _ _ h => by cases h) ?_
  intro rec ih σ x1 x2 x3 x4 x5 x6
  unfold b_Routers_grantIfFree_35
  refine jj_iload C 6 dX6_grantIfFree_35 rfl ?_
  refine jj_iconst C (v := (5 : Int32)) dX6_grantIfFree_37 (by decide) ?_
  refine jj_icmp_ge C (tgt := 121) dX6_grantIfFree_38 (by decide) (fun _ => ?_) (fun _ => ?_)
  · refine jj_sub [0, 1, 2, 3, 4, 5, 6] rfl ?_
    exact hK σ x1 x2 x3 x4 x5 x6
  · refine jj_iload C 5 dX6_grantIfFree_41 rfl ?_
    refine jj_iload C 6 dX6_grantIfFree_43 rfl ?_
    refine jj_iadd C dX6_grantIfFree_45 ?_
    refine jj_iconst C (v := (5 : Int32)) dX6_grantIfFree_46 (by decide) ?_
    refine jj_irem C dX6_grantIfFree_47 ?_
    refine jj_ltn (fun v7_4 => ?_)
    refine jj_istore C [(7, .int v7_4), (0, .ref (ad 30)), (1, .int x1), (2, .int x2), (3, .int x3), (4, .int x4), (5, .int x5), (6, .int x6)] dX6_grantIfFree_48 (by decide) rfl ?_
    refine jj_aload_n C 1 dX6_grantIfFree_50 rfl rfl ?_
    refine jj_getr C 30 0 in_Routers (g_30 n S SD) k_Routers (by decide) fl_Routers_15 rfl dX6_grantIfFree_51 ?_
    refine jj_iload_n C 2 dX6_grantIfFree_54 rfl rfl ?_
    refine jj_iload C 0 dX6_grantIfFree_55 rfl ?_
    refine jj_iload_n C 4 dX6_grantIfFree_57 rfl rfl ?_
    refine jj_callVi C (As := [.int x1, .int v7_4, .int x3]) (rest := []) (fun z hz => c_Grid_slot hz) (q_Routers_73 C.2.2.2.2.1 (rm := { frames := 0, cells := 0, slots := 0, locals := 0 }) rfl rfl ⟨Nat.le_trans (by decide) hRm.1, Nat.le_trans (by decide) hRm.2⟩) (g_1 n S SD) k_Grid rfl rfl (Nat.le_of_ble_eq_true rfl) dX6_grantIfFree_58 (fun r6 σ5 _ => ?_)
    refine jj_istore C [(8, .int r6), (7, .int v7_4), (0, .ref (ad 30)), (1, .int x1), (2, .int x2), (3, .int x3), (4, .int x4), (5, .int x5), (6, .int x6)] dX6_grantIfFree_61 (by decide) rfl ?_
    refine jj_aload_n C 2 dX6_grantIfFree_63 rfl rfl ?_
    refine jj_getr C 30 3 in_Routers (g_30 n S SD) k_Routers (by decide) fl_Routers_33 rfl dX6_grantIfFree_64 ?_
    refine jj_iload C 0 dX6_grantIfFree_67 rfl ?_
    refine jj_iald C 32 (g_32 n S SD) dX6_grantIfFree_69 ?_
    refine jj_iconst C (v := (1 : Int32)) dX6_grantIfFree_70 (by decide) ?_
    refine jj_icmp_ne C (tgt := 115) dX6_grantIfFree_71 (by decide) (fun _ => ?_) (fun _ => ?_)
    · refine jj_iinc C (v := x6 + (1 : Int32)) [(6, .int (x6 + (1 : Int32))), (8, .int r6), (7, .int v7_4), (0, .ref (ad 30)), (1, .int x1), (2, .int x2), (3, .int x3), (4, .int x4), (5, .int x5)] 8 dX6_grantIfFree_115 rfl rfl (by decide) rfl ?_
      refine jj_goto C (tgt := 35) dX6_grantIfFree_118 (by decide) ?_
      refine jj_sub [3, 4, 5, 6, 7, 8, 0] rfl ?_
      exact ih σ5 x1 x2 x3 x4 x5 (x6 + (1 : Int32))
    · refine jj_aload_n C 2 dX6_grantIfFree_74 rfl rfl ?_
      refine jj_getr C 30 4 in_Routers (g_30 n S SD) k_Routers (by decide) fl_Routers_36 rfl dX6_grantIfFree_75 ?_
      refine jj_iload C 0 dX6_grantIfFree_78 rfl ?_
      refine jj_iald C 33 (g_33 n S SD) dX6_grantIfFree_80 ?_
      refine jj_iload_n C 4 dX6_grantIfFree_81 rfl rfl ?_
      refine jj_icmp_ne C (tgt := 115) dX6_grantIfFree_82 (by decide) (fun _ => ?_) (fun _ => ?_)
      · refine jj_iinc C (v := x6 + (1 : Int32)) [(6, .int (x6 + (1 : Int32))), (8, .int r6), (7, .int v7_4), (0, .ref (ad 30)), (1, .int x1), (2, .int x2), (3, .int x3), (4, .int x4), (5, .int x5)] 8 dX6_grantIfFree_115 rfl rfl (by decide) rfl ?_
        refine jj_goto C (tgt := 35) dX6_grantIfFree_118 (by decide) ?_
        refine jj_sub [3, 4, 5, 6, 7, 8, 0] rfl ?_
        exact ih σ5 x1 x2 x3 x4 x5 (x6 + (1 : Int32))
      · refine jj_aload_n C 2 dX6_grantIfFree_85 rfl rfl ?_
        refine jj_getr C 30 5 in_Routers (g_30 n S SD) k_Routers (by decide) fl_Routers_39 rfl dX6_grantIfFree_86 ?_
        refine jj_iload C 6 dX6_grantIfFree_89 rfl ?_
        refine jj_iconst C (v := (1 : Int32)) dX6_grantIfFree_91 (by decide) ?_
        refine jj_zast C 34 (g_34 n S SD) dX6_grantIfFree_92 ?_
        refine jj_stn (fun σ7 => ?_)
        refine jj_aload_n C 2 dX6_grantIfFree_93 rfl rfl ?_
        refine jj_getr C 30 3 in_Routers (g_30 n S SD) k_Routers (by decide) fl_Routers_33 rfl dX6_grantIfFree_94 ?_
        refine jj_iload C 0 dX6_grantIfFree_97 rfl ?_
        refine jj_iconst C (v := (2 : Int32)) dX6_grantIfFree_99 (by decide) ?_
        refine jj_iast C 32 (g_32 n S SD) dX6_grantIfFree_100 ?_
        refine jj_stn (fun σ8 => ?_)
        refine jj_aload_n C 2 dX6_grantIfFree_101 rfl rfl ?_
        refine jj_getr C 30 6 in_Routers (g_30 n S SD) k_Routers (by decide) fl_Routers_43 rfl dX6_grantIfFree_102 ?_
        refine jj_iload C 6 dX6_grantIfFree_105 rfl ?_
        refine jj_iload C 1 dX6_grantIfFree_107 rfl ?_
        refine jj_iconst C (v := (1 : Int32)) dX6_grantIfFree_109 (by decide) ?_
        refine jj_iadd C dX6_grantIfFree_110 ?_
        refine jj_iconst C (v := (5 : Int32)) dX6_grantIfFree_111 (by decide) ?_
        refine jj_irem C dX6_grantIfFree_112 ?_
        refine jj_iast C 35 (g_35 n S SD) dX6_grantIfFree_113 ?_
        refine jj_stn (fun σ9 => ?_)
        exact jj_vret C hr hlocks dX6_grantIfFree_114

set_option maxHeartbeats 4000000 in
set_option maxRecDepth 100000 in
theorem c_Routers_grantIfFree {l : Launch} {D : va_G} {ad : Nat → Nat} {cA : FieldType → ClassId} {n S SD F : Nat} {σ : jj_S} {a1 a2 a3 : Int32} {z : jj_S} (ho : f_Routers_grantIfFree n S SD F σ a1 a2 a3 = some z) : jj_Mv l yX6_grantIfFree (Cond.code yX6_grantIfFree cX6_grantIfFree 9 none :: jw_t) { frames := 1, cells := 0, slots := 0, locals := 40 } D vwCl ad cA (gc n S SD) [.ref (ad 30), .int a1, .int a2, .int a3] σ z := by
  refine jj_ofv (cc := cX6_grantIfFree) (nL := 9) (ret := none) rfl ho (Nat.le_of_ble_eq_true rfl) ?_
  intro p e s m below meth c C hr hlocks
  generalize hA : va_A (jj_w ad cA (gc n S SD) σ) s.heap.size = A at C ⊢
  have hRm : 1 ≤ (headSpec (Cond.code yX6_grantIfFree cX6_grantIfFree 9 none :: jw_t) { frames := 1, cells := 0, slots := 0, locals := 40 }).room.frames ∧ 40 ≤ (headSpec (Cond.code yX6_grantIfFree cX6_grantIfFree 9 none :: jw_t) { frames := 1, cells := 0, slots := 0, locals := 40 }).room.locals := ⟨Nat.le_refl _, Nat.le_refl _⟩
  generalize (headSpec (Cond.code yX6_grantIfFree cX6_grantIfFree 9 none :: jw_t) { frames := 1, cells := 0, slots := 0, locals := 40 }).room = R at C hRm ⊢
  generalize List.toArray ([.ref (ad 30), .int a1, .int a2, .int a3] : List Value) = args at C ⊢
  refine jj_sub (lv' := [(0, .ref (ad 30)), (1, .int a1), (2, .int a2), (3, .int a3)]) [0, 1, 2, 3] rfl ?_
  unfold f_Routers_grantIfFree
  refine jj_aload_n C 0 dX6_grantIfFree_0 rfl rfl ?_
  refine jj_getr C 30 0 in_Routers (g_30 n S SD) k_Routers (by decide) fl_Routers_15 rfl dX6_grantIfFree_1 ?_
  refine jj_iload_n C 1 dX6_grantIfFree_4 rfl rfl ?_
  refine jj_iload_n C 2 dX6_grantIfFree_5 rfl rfl ?_
  refine jj_iload_n C 3 dX6_grantIfFree_6 rfl rfl ?_
  refine jj_callVi C (As := [.int a1, .int a2, .int a3]) (rest := []) (fun z hz => c_Grid_slot hz) (q_Routers_73 C.2.2.2.2.1 (rm := { frames := 0, cells := 0, slots := 0, locals := 0 }) rfl rfl ⟨Nat.le_trans (by decide) hRm.1, Nat.le_trans (by decide) hRm.2⟩) (g_1 n S SD) k_Grid rfl rfl (Nat.le_of_ble_eq_true rfl) dX6_grantIfFree_7 (fun r2 σ1 _ => ?_)
  refine jj_istore C [(4, .int r2), (0, .ref (ad 30)), (1, .int a1), (2, .int a2), (3, .int a3)] dX6_grantIfFree_10 (by decide) rfl ?_
  refine jj_aload_n C 1 dX6_grantIfFree_12 rfl rfl ?_
  refine jj_getr C 30 5 in_Routers (g_30 n S SD) k_Routers (by decide) fl_Routers_39 rfl dX6_grantIfFree_13 ?_
  refine jj_iload C 0 dX6_grantIfFree_16 rfl ?_
  refine jj_zald C 34 (g_34 n S SD) dX6_grantIfFree_18 ?_
  refine jj_if_eq C (tgt := 23) dX6_grantIfFree_19 (by decide) (fun _ => ?_) (fun _ => ?_)
  · refine jj_aload_n C 1 dX6_grantIfFree_23 rfl rfl ?_
    refine jj_getr C 30 6 in_Routers (g_30 n S SD) k_Routers (by decide) fl_Routers_43 rfl dX6_grantIfFree_24 ?_
    refine jj_iload C 0 dX6_grantIfFree_27 rfl ?_
    refine jj_iald C 35 (g_35 n S SD) dX6_grantIfFree_29 ?_
    refine jj_ltn (fun v5_3 => ?_)
    refine jj_istore C [(5, .int v5_3), (4, .int r2), (0, .ref (ad 30)), (1, .int a1), (2, .int a2), (3, .int a3)] dX6_grantIfFree_30 (by decide) rfl ?_
    refine jj_iconst C (v := (0 : Int32)) dX6_grantIfFree_32 (by decide) ?_
    refine jj_istore C [(6, .int (0 : Int32)), (5, .int v5_3), (4, .int r2), (0, .ref (ad 30)), (1, .int a1), (2, .int a2), (3, .int a3)] dX6_grantIfFree_33 (by decide) rfl ?_
    refine jj_sub [3, 4, 5, 6, 2, 1, 0] rfl ?_
    refine l_Routers_grantIfFree_35 C hr hlocks hRm (fun σ10 x1_11 x2_12 x3_13 x4_14 x5_15 x6_16 => ?_) F σ1 a1 a2 a3 r2 v5_3 (0 : Int32)
    exact jj_vret C hr hlocks dX6_grantIfFree_121
  · exact jj_vret C hr hlocks dX6_grantIfFree_22

set_option maxHeartbeats 4000000 in
set_option maxRecDepth 100000 in
theorem l_Routers_grantAll_22 {p : Program} {l : Launch} {e : Env} {R : Room} {s : State} {m : MethodId} {args : Array Value} {below : List Frame} {meth : Method} {c : Code} {D : va_G} {A : Nat → Prop} {ad : Nat → Nat} {cA : FieldType → ClassId} {n S SD F : Nat} (C : jj_C p R s m args c D vwCl A ad cA (gc n S SD) 5 0 0 cX6_grantAll RX6 jw_t) (hr : meth.sig.returnType = none) (hlocks : meth.locks = false) (hRm : 2 ≤ R.frames ∧ 80 ≤ R.locals) {K : jj_S → Int32 → Int32 → Int32 → Option jj_S} (hK : ∀ (σ : jj_S) (x1 x2 x3 : Int32), jj_J p l e R s m args below meth c D vwCl A ad cA (gc n S SD) 5 0 0 (jj_Qv below D vwCl A ad cA (gc n S SD) args s 0 0) (K σ x1 x2 x3) σ 75 [(0, .ref (ad 30)), (1, .int x1), (2, .int x2), (3, .int x3)] []) : ∀ (k : Nat) (σ : jj_S) (x1 x2 x3 : Int32), jj_J p l e R s m args below meth c D vwCl A ad cA (gc n S SD) 5 0 0 (jj_Qv below D vwCl A ad cA (gc n S SD) args s 0 0) (jj_lp3 (b_Routers_grantAll_22 n S SD F K) k σ x1 x2 x3) σ 22 [(0, .ref (ad 30)), (1, .int x1), (2, .int x2), (3, .int x3)] [] := by
  refine jj_loop3 (T := fun o σ x1 x2 x3 => jj_J p l e R s m args below meth c D vwCl A ad cA (gc n S SD) 5 0 0 (jj_Qv below D vwCl A ad cA (gc n S SD) args s 0 0) o σ 22 [(0, .ref (ad 30)), (1, .int x1), (2, .int x2), (3, .int x3)] []) (fun _ _ _ _ _ h => by cases h) ?_
  intro rec ih σ x1 x2 x3
  unfold b_Routers_grantAll_22
  refine jj_iload_n C 3 dX6_grantAll_22 rfl rfl ?_
  refine jj_aload_n C 0 dX6_grantAll_23 rfl rfl ?_
  refine jj_getr C 30 0 in_Routers (g_30 n S SD) k_Routers (by decide) fl_Routers_15 rfl dX6_grantAll_24 ?_
  refine jj_geti C 1 4 in_Grid (g_1 n S SD) k_Grid (by decide) fl_Routers_66 rfl dX6_grantAll_27 ?_
  refine jj_icmp_ge C (tgt := 75) dX6_grantAll_30 (by decide) (fun _ => ?_) (fun _ => ?_)
  · refine jj_sub [0, 1, 2, 3] rfl ?_
    exact hK σ x1 x2 x3
  · refine jj_aload_n C 0 dX6_grantAll_33 rfl rfl ?_
    refine jj_getr C 30 0 in_Routers (g_30 n S SD) k_Routers (by decide) fl_Routers_15 rfl dX6_grantAll_34 ?_
    refine jj_iload_n C 1 dX6_grantAll_37 rfl rfl ?_
    refine jj_iload_n C 2 dX6_grantAll_38 rfl rfl ?_
    refine jj_iload_n C 3 dX6_grantAll_39 rfl rfl ?_
    refine jj_callVi C (As := [.int x1, .int x2, .int x3]) (rest := []) (fun z hz => c_Grid_slot hz) (q_Routers_73 C.2.2.2.2.1 (rm := { frames := 0, cells := 0, slots := 0, locals := 0 }) rfl rfl ⟨Nat.le_trans (by decide) hRm.1, Nat.le_trans (by decide) hRm.2⟩) (g_1 n S SD) k_Grid rfl rfl (Nat.le_of_ble_eq_true rfl) dX6_grantAll_40 (fun r2 σ1 _ => ?_)
    refine jj_istore C [(4, .int r2), (0, .ref (ad 30)), (1, .int x1), (2, .int x2), (3, .int x3)] dX6_grantAll_43 (by decide) rfl ?_
    refine jj_aload_n C 1 dX6_grantAll_45 rfl rfl ?_
    refine jj_getr C 30 3 in_Routers (g_30 n S SD) k_Routers (by decide) fl_Routers_33 rfl dX6_grantAll_46 ?_
    refine jj_iload C 0 dX6_grantAll_49 rfl ?_
    refine jj_iald C 32 (g_32 n S SD) dX6_grantAll_51 ?_
    refine jj_iconst C (v := (1 : Int32)) dX6_grantAll_52 (by decide) ?_
    refine jj_icmp_ne C (tgt := 69) dX6_grantAll_53 (by decide) (fun _ => ?_) (fun _ => ?_)
    · refine jj_iinc C (v := x3 + (1 : Int32)) [(3, .int (x3 + (1 : Int32))), (4, .int r2), (0, .ref (ad 30)), (1, .int x1), (2, .int x2)] 4 dX6_grantAll_69 rfl rfl (by decide) rfl ?_
      refine jj_goto C (tgt := 22) dX6_grantAll_72 (by decide) ?_
      refine jj_sub [2, 3, 4, 0] rfl ?_
      exact ih σ1 x1 x2 (x3 + (1 : Int32))
    · refine jj_aload_n C 1 dX6_grantAll_56 rfl rfl ?_
      refine jj_iload_n C 2 dX6_grantAll_57 rfl rfl ?_
      refine jj_aload_n C 1 dX6_grantAll_58 rfl rfl ?_
      refine jj_getr C 30 4 in_Routers (g_30 n S SD) k_Routers (by decide) fl_Routers_36 rfl dX6_grantAll_59 ?_
      refine jj_iload C 0 dX6_grantAll_62 rfl ?_
      refine jj_iald C 33 (g_33 n S SD) dX6_grantAll_64 ?_
      refine jj_iload_n C 4 dX6_grantAll_65 rfl rfl ?_
      refine jj_callVv C (As := [.int x1, .int (σ1 33 r2.toNatClampNeg), .int x3]) (rest := []) (fun z hz => c_Routers_grantIfFree hz) (q_Routers_99 C.2.2.2.2.1 (rm := { frames := 1, cells := 0, slots := 0, locals := 40 }) rfl rfl ⟨Nat.le_trans (by decide) hRm.1, Nat.le_trans (by decide) hRm.2⟩) (g_30 n S SD) k_Routers rfl rfl (Nat.le_of_ble_eq_true rfl) dX6_grantAll_66 (fun σ3 _ => ?_)
      refine jj_iinc C (v := x3 + (1 : Int32)) [(3, .int (x3 + (1 : Int32))), (4, .int r2), (0, .ref (ad 30)), (1, .int x1), (2, .int x2)] 4 dX6_grantAll_69 rfl rfl (by decide) rfl ?_
      refine jj_goto C (tgt := 22) dX6_grantAll_72 (by decide) ?_
      refine jj_sub [2, 3, 4, 0] rfl ?_
      exact ih σ3 x1 x2 (x3 + (1 : Int32))
