set_option maxHeartbeats 4000000 in
set_option maxRecDepth 100000 in
theorem l_Queues_removeFirstp_9 {p : Program} {l : Launch} {e : Env} {R : Room} {s : State} {m : MethodId} {args : Array Value} {below : List Frame} {meth : Method} {c : Code} {D : va_G} {A : Nat → Prop} {ad : Nat → Nat} {cA : FieldType → ClassId} {n S SD F : Nat} (C : jj_C p R s m args c D vwCl A ad cA (gc n S SD) 4 0 0 cX5_removeFirst RX5 jw_t) (hr : meth.sig.returnType = none) (hlocks : meth.locks = false) (hRm : 0 ≤ R.frames ∧ 0 ≤ R.locals) {K : jj_S → Int32 → Int32 → Int32 → Option jj_S} (hK : ∀ (σ : jj_S) (x1 x2 x3 : Int32), jj_J p l e R s m args below meth c D vwCl A ad cA (gc n S SD) 4 0 0 (jj_Qv below D vwCl A ad cA (gc n S SD) args s 0 0) (K σ x1 x2 x3) σ 43 [(0, .ref (ad 24)), (1, .int x1), (2, .int x2), (3, .int x3)] []) : ∀ (k : Nat) (σ : jj_S) (x1 x2 x3 : Int32), jj_J p l e R s m args below meth c D vwCl A ad cA (gc n S SD) 4 0 0 (jj_Qv below D vwCl A ad cA (gc n S SD) args s 0 0) (jj_lp3 (b_Queues_removeFirstp_9 n S SD F K) k σ x1 x2 x3) σ 9 [(0, .ref (ad 24)), (1, .int x1), (2, .int x2), (3, .int x3)] [] := by
  refine jj_loop3 (T := fun o σ x1 x2 x3 => jj_J p l e R s m args below meth c D vwCl A ad cA (gc n S SD) 4 0 0 (jj_Qv below D vwCl A ad cA (gc n S SD) args s 0 0) o σ 9 [(0, .ref (ad 24)), (1, .int x1), (2, .int x2), (3, .int x3)] []) (fun _ _ _ _ _ h => by cases h) ?_
  intro rec ih σ x1 x2 x3
  unfold b_Queues_removeFirstp_9
  refine jj_iload_n C 3 dX5_removeFirst_9 rfl rfl ?_
  refine jj_aload_n C 0 dX5_removeFirst_10 rfl rfl ?_
  refine jj_getr C 24 3 in_Queues (g_24 n S SD) k_Queues (by decide) fl_Queues_21 rfl dX5_removeFirst_11 ?_
  refine jj_iload_n C 1 dX5_removeFirst_14 rfl rfl ?_
  refine jj_iald C 26 (g_26 n S SD) dX5_removeFirst_15 ?_
  refine jj_icmp_ge C (tgt := 43) dX5_removeFirst_16 (by decide) (fun _ => ?_) (fun _ => ?_)
  · refine jj_sub [0, 1, 2, 3] rfl ?_
    exact hK σ x1 x2 x3
  · refine jj_aload_n C 0 dX5_removeFirst_19 rfl rfl ?_
    refine jj_getr C 24 2 in_Queues (g_24 n S SD) k_Queues (by decide) fl_Queues_17 rfl dX5_removeFirst_20 ?_
    refine jj_iload_n C 2 dX5_removeFirst_23 rfl rfl ?_
    refine jj_iload_n C 3 dX5_removeFirst_24 rfl rfl ?_
    refine jj_iadd C dX5_removeFirst_25 ?_
    refine jj_iconst C (v := (1 : Int32)) dX5_removeFirst_26 (by decide) ?_
    refine jj_isub C dX5_removeFirst_27 ?_
    refine jj_aload_n C 0 dX5_removeFirst_28 rfl rfl ?_
    refine jj_getr C 24 2 in_Queues (g_24 n S SD) k_Queues (by decide) fl_Queues_17 rfl dX5_removeFirst_29 ?_
    refine jj_iload_n C 2 dX5_removeFirst_32 rfl rfl ?_
    refine jj_iload_n C 3 dX5_removeFirst_33 rfl rfl ?_
    refine jj_iadd C dX5_removeFirst_34 ?_
    refine jj_iald C 25 (g_25 n S SD) dX5_removeFirst_35 ?_
    refine jj_iast C 25 (g_25 n S SD) dX5_removeFirst_36 ?_
    refine jj_stn (fun σ2 => ?_)
    refine jj_iinc C (v := x3 + (1 : Int32)) [(3, .int (x3 + (1 : Int32))), (0, .ref (ad 24)), (1, .int x1), (2, .int x2)] 3 dX5_removeFirst_37 rfl rfl (by decide) rfl ?_
    refine jj_goto C (tgt := 9) dX5_removeFirst_40 (by decide) ?_
    refine jj_sub [1, 2, 3, 0] rfl ?_
    exact ih σ2 x1 x2 (x3 + (1 : Int32))

set_option maxHeartbeats 4000000 in
set_option maxRecDepth 100000 in
theorem c_Queues_removeFirstp {l : Launch} {D : va_G} {ad : Nat → Nat} {cA : FieldType → ClassId} {n S SD F : Nat} {σ : jj_S} {a1 : Int32} {z : jj_S} (ho : f_Queues_removeFirstp n S SD F σ a1 = some z) : jj_Mv l yX5_removeFirst (Cond.code yX5_removeFirst cX5_removeFirst 4 none :: jw_t) { frames := 0, cells := 0, slots := 0, locals := 0 } D vwCl ad cA (gc n S SD) [.ref (ad 24), .int a1] σ z := by
  refine jj_ofv (cc := cX5_removeFirst) (nL := 4) (ret := none) rfl ho (Nat.le_of_ble_eq_true rfl) ?_
  intro p e s m below meth c C hr hlocks
  generalize hA : va_A (jj_w ad cA (gc n S SD) σ) s.heap.size = A at C ⊢
  have hRm : 0 ≤ (headSpec (Cond.code yX5_removeFirst cX5_removeFirst 4 none :: jw_t) { frames := 0, cells := 0, slots := 0, locals := 0 }).room.frames ∧ 0 ≤ (headSpec (Cond.code yX5_removeFirst cX5_removeFirst 4 none :: jw_t) { frames := 0, cells := 0, slots := 0, locals := 0 }).room.locals := ⟨Nat.le_refl _, Nat.le_refl _⟩
  generalize (headSpec (Cond.code yX5_removeFirst cX5_removeFirst 4 none :: jw_t) { frames := 0, cells := 0, slots := 0, locals := 0 }).room = R at C hRm ⊢
  generalize List.toArray ([.ref (ad 24), .int a1] : List Value) = args at C ⊢
  refine jj_sub (lv' := [(0, .ref (ad 24)), (1, .int a1)]) [0, 1] rfl ?_
  unfold f_Queues_removeFirstp
  refine jj_iload_n C 1 dX5_removeFirst_0 rfl rfl ?_
  refine jj_aload_n C 0 dX5_removeFirst_1 rfl rfl ?_
  refine jj_geti C 24 1 in_Queues (g_24 n S SD) k_Queues (by decide) fl_Queues_13 rfl dX5_removeFirst_2 ?_
  refine jj_imul C dX5_removeFirst_5 ?_
  refine jj_ltn (fun v2_1 => ?_)
  refine jj_istore_n C [(2, .int v2_1), (0, .ref (ad 24)), (1, .int a1)] dX5_removeFirst_6 rfl (by decide) rfl ?_
  refine jj_iconst C (v := (1 : Int32)) dX5_removeFirst_7 (by decide) ?_
  refine jj_istore_n C [(3, .int (1 : Int32)), (2, .int v2_1), (0, .ref (ad 24)), (1, .int a1)] dX5_removeFirst_8 rfl (by decide) rfl ?_
  refine jj_sub [2, 3, 1, 0] rfl ?_
  refine l_Queues_removeFirstp_9 C hr hlocks hRm (fun σ3 x1_4 x2_5 x3_6 => ?_) F σ a1 v2_1 (1 : Int32)
  refine jj_aload_n C 0 dX5_removeFirst_43 rfl rfl ?_
  refine jj_getr C 24 3 in_Queues (g_24 n S SD) k_Queues (by decide) fl_Queues_21 rfl dX5_removeFirst_44 ?_
  refine jj_iload_n C 1 dX5_removeFirst_47 rfl rfl ?_
  refine jj_dup2 C dX5_removeFirst_48 rfl rfl ?_
  refine jj_iald C 26 (g_26 n S SD) dX5_removeFirst_49 ?_
  refine jj_iconst C (v := (1 : Int32)) dX5_removeFirst_50 (by decide) ?_
  refine jj_isub C dX5_removeFirst_51 ?_
  refine jj_iast C 26 (g_26 n S SD) dX5_removeFirst_52 ?_
  refine jj_stn (fun σ7 => ?_)
  refine jj_aload_n C 0 dX5_removeFirst_53 rfl rfl ?_
  refine jj_getr C 24 4 in_Queues (g_24 n S SD) k_Queues (by decide) fl_Queues_24 rfl dX5_removeFirst_54 ?_
  refine jj_iload_n C 1 dX5_removeFirst_57 rfl rfl ?_
  refine jj_iconst C (v := (0 : Int32)) dX5_removeFirst_58 (by decide) ?_
  refine jj_iast C 27 (g_27 n S SD) dX5_removeFirst_59 ?_
  refine jj_stn (fun σ8 => ?_)
  exact jj_vret C hr hlocks dX5_removeFirst_60

set_option maxHeartbeats 4000000 in
set_option maxRecDepth 100000 in
theorem c_Ifs_sendFirstp {l : Launch} {D : va_G} {ad : Nat → Nat} {cA : FieldType → ClassId} {n S SD F : Nat} {σ : jj_S} {a1 : Int32} {z : (Int32 × jj_S)} (ho : f_Ifs_sendFirstp n S SD F σ a1 = some z) : jj_Mi l yX2_sendFirst (Cond.code yX2_sendFirst cX2_sendFirst 7 (some .boolean) :: jw_t) { frames := 1, cells := 0, slots := 0, locals := 40 } D vwCl ad cA (gc n S SD) [.ref (ad 16), .int a1, .ref (ad 24)] σ z := by
  refine jj_ofi (cc := cX2_sendFirst) (nL := 7) (ret := (some .boolean)) rfl ho (Nat.le_of_ble_eq_true rfl) ?_
  intro p e s m below meth c C hr hlocks
  generalize hA : va_A (jj_w ad cA (gc n S SD) σ) s.heap.size = A at C ⊢
  have hRm : 1 ≤ (headSpec (Cond.code yX2_sendFirst cX2_sendFirst 7 (some .boolean) :: jw_t) { frames := 1, cells := 0, slots := 0, locals := 40 }).room.frames ∧ 40 ≤ (headSpec (Cond.code yX2_sendFirst cX2_sendFirst 7 (some .boolean) :: jw_t) { frames := 1, cells := 0, slots := 0, locals := 40 }).room.locals := ⟨Nat.le_refl _, Nat.le_refl _⟩
  generalize (headSpec (Cond.code yX2_sendFirst cX2_sendFirst 7 (some .boolean) :: jw_t) { frames := 1, cells := 0, slots := 0, locals := 40 }).room = R at C hRm ⊢
  generalize List.toArray ([.ref (ad 16), .int a1, .ref (ad 24)] : List Value) = args at C ⊢
  refine jj_sub (lv' := [(0, .ref (ad 16)), (1, .int a1), (2, .ref (ad 24))]) [0, 1, 2] rfl ?_
  unfold f_Ifs_sendFirstp
  refine jj_aload_n C 2 dX2_sendFirst_0 rfl rfl ?_
  refine jj_getr C 24 3 in_Queues (g_24 n S SD) k_Queues (by decide) fl_Ifs_119 rfl dX2_sendFirst_1 ?_
  refine jj_iload_n C 1 dX2_sendFirst_4 rfl rfl ?_
  refine jj_iald C 26 (g_26 n S SD) dX2_sendFirst_5 ?_
  refine jj_if_ne C (tgt := 11) dX2_sendFirst_6 (by decide) (fun _ => ?_) (fun _ => ?_)
  · refine jj_aload_n C 2 dX2_sendFirst_11 rfl rfl ?_
    refine jj_iload_n C 1 dX2_sendFirst_12 rfl rfl ?_
    refine jj_callVi C (As := [.int a1]) (rest := []) (fun z hz => c_Queues_firstNumberp hz) (q_Ifs_120 C.2.2.2.2.1 (rm := { frames := 0, cells := 0, slots := 0, locals := 0 }) rfl rfl ⟨Nat.le_trans (by decide) hRm.1, Nat.le_trans (by decide) hRm.2⟩) (g_24 n S SD) k_Queues rfl rfl (Nat.le_of_ble_eq_true rfl) dX2_sendFirst_13 (fun r2 σ1 _ => ?_)
    refine jj_istore_n C [(3, .int r2), (0, .ref (ad 16)), (1, .int a1), (2, .ref (ad 24))] dX2_sendFirst_16 rfl (by decide) rfl ?_
    refine jj_aload_n C 1 dX2_sendFirst_17 rfl rfl ?_
    refine jj_getr C 16 2 in_Ifs (g_16 n S SD) k_Ifs (by decide) fl_Ifs_26 rfl dX2_sendFirst_18 ?_
    refine jj_iload_n C 0 dX2_sendFirst_21 rfl rfl ?_
    refine jj_aload_n C 3 dX2_sendFirst_22 rfl rfl ?_
    refine jj_geti C 24 0 in_Queues (g_24 n S SD) k_Queues (by decide) fl_Ifs_123 rfl dX2_sendFirst_23 ?_
    refine jj_callVi C (As := [.int r2, .int (σ1 24 0)]) (rest := []) (fun z hz => c_Packets_channel hz) (q_Ifs_127 C.2.2.2.2.1 (rm := { frames := 0, cells := 0, slots := 0, locals := 0 }) rfl rfl ⟨Nat.le_trans (by decide) hRm.1, Nat.le_trans (by decide) hRm.2⟩) (g_10 n S SD) k_Packets rfl rfl (Nat.le_of_ble_eq_true rfl) dX2_sendFirst_26 (fun r4 σ3 _ => ?_)
    refine jj_istore C [(4, .int r4), (3, .int r2), (0, .ref (ad 16)), (1, .int a1), (2, .ref (ad 24))] dX2_sendFirst_29 (by decide) rfl ?_
    refine jj_aload_n C 2 dX2_sendFirst_31 rfl rfl ?_
    refine jj_getr C 16 0 in_Ifs (g_16 n S SD) k_Ifs (by decide) fl_Ifs_18 rfl dX2_sendFirst_32 ?_
    refine jj_iload_n C 3 dX2_sendFirst_35 rfl rfl ?_
    refine jj_iconst C (v := (5 : Int32)) dX2_sendFirst_36 (by decide) ?_
    refine jj_iload C 0 dX2_sendFirst_37 rfl ?_
    refine jj_callVi C (As := [.int a1, .int (5 : Int32), .int r4]) (rest := []) (fun z hz => c_Grid_slot hz) (q_Ifs_59 C.2.2.2.2.1 (rm := { frames := 0, cells := 0, slots := 0, locals := 0 }) rfl rfl ⟨Nat.le_trans (by decide) hRm.1, Nat.le_trans (by decide) hRm.2⟩) (g_1 n S SD) k_Grid rfl rfl (Nat.le_of_ble_eq_true rfl) dX2_sendFirst_39 (fun r6 σ5 _ => ?_)
    refine jj_istore C [(5, .int r6), (4, .int r4), (3, .int r2), (0, .ref (ad 16)), (1, .int a1), (2, .ref (ad 24))] dX2_sendFirst_42 (by decide) rfl ?_
    refine jj_aload_n C 3 dX2_sendFirst_44 rfl rfl ?_
    refine jj_getr C 16 1 in_Ifs (g_16 n S SD) k_Ifs (by decide) fl_Ifs_22 rfl dX2_sendFirst_45 ?_
    refine jj_getr C 2 5 in_Links (g_2 n S SD) k_Links (by decide) fl_Ifs_131 rfl dX2_sendFirst_48 ?_
    refine jj_iload C 0 dX2_sendFirst_51 rfl ?_
    refine jj_iald C 7 (g_7 n S SD) dX2_sendFirst_53 ?_
    refine jj_if_ne C (tgt := 59) dX2_sendFirst_54 (by decide) (fun _ => ?_) (fun _ => ?_)
    · refine jj_aload_n C 5 dX2_sendFirst_59 rfl rfl ?_
      refine jj_getr C 24 4 in_Queues (g_24 n S SD) k_Queues (by decide) fl_Ifs_134 rfl dX2_sendFirst_60 ?_
      refine jj_iload_n C 4 dX2_sendFirst_63 rfl rfl ?_
      refine jj_dup2 C dX2_sendFirst_64 rfl rfl ?_
      refine jj_iald C 27 (g_27 n S SD) dX2_sendFirst_65 ?_
      refine jj_iconst C (v := (1 : Int32)) dX2_sendFirst_66 (by decide) ?_
      refine jj_iadd C dX2_sendFirst_67 ?_
      refine jj_iast C 27 (g_27 n S SD) dX2_sendFirst_68 ?_
      refine jj_stn (fun σ7 => ?_)
      refine jj_aload_n C 5 dX2_sendFirst_69 rfl rfl ?_
      refine jj_getr C 24 4 in_Queues (g_24 n S SD) k_Queues (by decide) fl_Ifs_134 rfl dX2_sendFirst_70 ?_
      refine jj_iload_n C 4 dX2_sendFirst_73 rfl rfl ?_
      refine jj_iald C 27 (g_27 n S SD) dX2_sendFirst_74 ?_
      refine jj_aload_n C 3 dX2_sendFirst_75 rfl rfl ?_
      refine jj_getr C 16 2 in_Ifs (g_16 n S SD) k_Ifs (by decide) fl_Ifs_26 rfl dX2_sendFirst_76 ?_
      refine jj_iload_n C 2 dX2_sendFirst_79 rfl rfl ?_
      refine jj_aload_n C 5 dX2_sendFirst_80 rfl rfl ?_
      refine jj_geti C 24 0 in_Queues (g_24 n S SD) k_Queues (by decide) fl_Ifs_123 rfl dX2_sendFirst_81 ?_
      refine jj_callVi C (As := [.int r2, .int (σ7 24 0)]) (rest := [.int (σ7 27 a1.toNatClampNeg)]) (fun z hz => c_Packets_length hz) (q_Ifs_137 C.2.2.2.2.1 (rm := { frames := 0, cells := 0, slots := 0, locals := 0 }) rfl rfl ⟨Nat.le_trans (by decide) hRm.1, Nat.le_trans (by decide) hRm.2⟩) (g_10 n S SD) k_Packets rfl rfl (Nat.le_of_ble_eq_true rfl) dX2_sendFirst_84 (fun r9 σ8 _ => ?_)
      refine jj_icmp_ne C (tgt := 94) dX2_sendFirst_87 (by decide) (fun _ => ?_) (fun _ => ?_)
      · refine jj_iconst C (v := (0 : Int32)) dX2_sendFirst_94 (by decide) ?_
        refine jj_istore C [(6, .int (0 : Int32)), (5, .int r6), (4, .int r4), (3, .int r2), (0, .ref (ad 16)), (1, .int a1), (2, .ref (ad 24))] dX2_sendFirst_95 (by decide) rfl ?_
        refine jj_aload_n C 4 dX2_sendFirst_97 rfl rfl ?_
        refine jj_getr C 16 1 in_Ifs (g_16 n S SD) k_Ifs (by decide) fl_Ifs_22 rfl dX2_sendFirst_98 ?_
        refine jj_iload C 1 dX2_sendFirst_101 rfl ?_
        refine jj_iload_n C 3 dX2_sendFirst_103 rfl rfl ?_
        refine jj_aload_n C 6 dX2_sendFirst_104 rfl rfl ?_
        refine jj_geti C 24 0 in_Queues (g_24 n S SD) k_Queues (by decide) fl_Ifs_123 rfl dX2_sendFirst_105 ?_
        refine jj_iload C 0 dX2_sendFirst_108 rfl ?_
        refine jj_callSi C (As := [.int r2, .int (σ8 24 0), .int (0 : Int32)]) (rest := [.int r6, .ref (ad 2)]) (fun z hz => c_Packets_flit hz) (q_Ifs_140 C.2.2.2.2.1 (rm := { frames := 0, cells := 0, slots := 0, locals := 0 }) rfl rfl ⟨Nat.le_trans (by decide) hRm.1, Nat.le_trans (by decide) hRm.2⟩) rfl rfl (Nat.le_of_ble_eq_true rfl) dX2_sendFirst_110 (fun r11 σ10 _ => ?_)
        refine jj_callVv C (As := [.int r6, .int r11]) (rest := []) (fun z hz => c_Links_send hz) (q_Ifs_144 C.2.2.2.2.1 (rm := { frames := 0, cells := 0, slots := 0, locals := 0 }) rfl rfl ⟨Nat.le_trans (by decide) hRm.1, Nat.le_trans (by decide) hRm.2⟩) (g_2 n S SD) k_Links rfl rfl (Nat.le_of_ble_eq_true rfl) dX2_sendFirst_113 (fun σ12 _ => ?_)
        refine jj_iload C 0 dX2_sendFirst_116 rfl ?_
        refine jj_if_eq_t C (tgt := 126) dX2_sendFirst_118 (by decide) (by decide) ?_
        refine jj_iconst C (v := (1 : Int32)) dX2_sendFirst_126 (by decide) ?_
        exact jj_zret C hr hlocks (by first | rfl | decide +kernel) dX2_sendFirst_127
      · refine jj_iconst C (v := (1 : Int32)) dX2_sendFirst_90 (by decide) ?_
        refine jj_goto C (tgt := 95) dX2_sendFirst_91 (by decide) ?_
        refine jj_istore C [(6, .int (1 : Int32)), (5, .int r6), (4, .int r4), (3, .int r2), (0, .ref (ad 16)), (1, .int a1), (2, .ref (ad 24))] dX2_sendFirst_95 (by decide) rfl ?_
        refine jj_aload_n C 4 dX2_sendFirst_97 rfl rfl ?_
        refine jj_getr C 16 1 in_Ifs (g_16 n S SD) k_Ifs (by decide) fl_Ifs_22 rfl dX2_sendFirst_98 ?_
        refine jj_iload C 1 dX2_sendFirst_101 rfl ?_
        refine jj_iload_n C 3 dX2_sendFirst_103 rfl rfl ?_
        refine jj_aload_n C 6 dX2_sendFirst_104 rfl rfl ?_
        refine jj_geti C 24 0 in_Queues (g_24 n S SD) k_Queues (by decide) fl_Ifs_123 rfl dX2_sendFirst_105 ?_
        refine jj_iload C 0 dX2_sendFirst_108 rfl ?_
        refine jj_callSi C (As := [.int r2, .int (σ8 24 0), .int (1 : Int32)]) (rest := [.int r6, .ref (ad 2)]) (fun z hz => c_Packets_flit hz) (q_Ifs_140 C.2.2.2.2.1 (rm := { frames := 0, cells := 0, slots := 0, locals := 0 }) rfl rfl ⟨Nat.le_trans (by decide) hRm.1, Nat.le_trans (by decide) hRm.2⟩) rfl rfl (Nat.le_of_ble_eq_true rfl) dX2_sendFirst_110 (fun r14 σ13 _ => ?_)
        refine jj_callVv C (As := [.int r6, .int r14]) (rest := []) (fun z hz => c_Links_send hz) (q_Ifs_144 C.2.2.2.2.1 (rm := { frames := 0, cells := 0, slots := 0, locals := 0 }) rfl rfl ⟨Nat.le_trans (by decide) hRm.1, Nat.le_trans (by decide) hRm.2⟩) (g_2 n S SD) k_Links rfl rfl (Nat.le_of_ble_eq_true rfl) dX2_sendFirst_113 (fun σ15 _ => ?_)
        refine jj_iload C 0 dX2_sendFirst_116 rfl ?_
        refine jj_if_eq_f C (tgt := 126) dX2_sendFirst_118 (by decide) (by decide) ?_
        refine jj_aload_n C 6 dX2_sendFirst_121 rfl rfl ?_
        refine jj_iload_n C 5 dX2_sendFirst_122 rfl rfl ?_
        refine jj_callVv C (As := [.int a1]) (rest := []) (fun z hz => c_Queues_removeFirstp hz) (q_Ifs_147 C.2.2.2.2.1 (rm := { frames := 0, cells := 0, slots := 0, locals := 0 }) rfl rfl ⟨Nat.le_trans (by decide) hRm.1, Nat.le_trans (by decide) hRm.2⟩) (g_24 n S SD) k_Queues rfl rfl (Nat.le_of_ble_eq_true rfl) dX2_sendFirst_123 (fun σ16 _ => ?_)
        refine jj_iconst C (v := (1 : Int32)) dX2_sendFirst_126 (by decide) ?_
        exact jj_zret C hr hlocks (by first | rfl | decide +kernel) dX2_sendFirst_127
    · refine jj_iconst C (v := (0 : Int32)) dX2_sendFirst_57 (by decide) ?_
      exact jj_zret C hr hlocks (by first | rfl | decide +kernel) dX2_sendFirst_58
  · refine jj_iconst C (v := (0 : Int32)) dX2_sendFirst_9 (by decide) ?_
    exact jj_zret C hr hlocks (by first | rfl | decide +kernel) dX2_sendFirst_10

set_option maxHeartbeats 4000000 in
set_option maxRecDepth 100000 in
theorem c_Queues_firstNumberq {l : Launch} {D : va_G} {ad : Nat → Nat} {cA : FieldType → ClassId} {n S SD F : Nat} {σ : jj_S} {a1 : Int32} {z : (Int32 × jj_S)} (ho : f_Queues_firstNumberq n S SD F σ a1 = some z) : jj_Mi l yX5_firstNumber (Cond.code yX5_firstNumber cX5_firstNumber 2 (some .int) :: jw_t) { frames := 0, cells := 0, slots := 0, locals := 0 } D vwCl ad cA (gc n S SD) [.ref (ad 20), .int a1] σ z := by
  refine jj_ofi (cc := cX5_firstNumber) (nL := 2) (ret := (some .int)) rfl ho (Nat.le_of_ble_eq_true rfl) ?_
  intro p e s m below meth c C hr hlocks
  generalize hA : va_A (jj_w ad cA (gc n S SD) σ) s.heap.size = A at C ⊢
  have hRm : 0 ≤ (headSpec (Cond.code yX5_firstNumber cX5_firstNumber 2 (some .int) :: jw_t) { frames := 0, cells := 0, slots := 0, locals := 0 }).room.frames ∧ 0 ≤ (headSpec (Cond.code yX5_firstNumber cX5_firstNumber 2 (some .int) :: jw_t) { frames := 0, cells := 0, slots := 0, locals := 0 }).room.locals := ⟨Nat.le_refl _, Nat.le_refl _⟩
  generalize (headSpec (Cond.code yX5_firstNumber cX5_firstNumber 2 (some .int) :: jw_t) { frames := 0, cells := 0, slots := 0, locals := 0 }).room = R at C hRm ⊢
  generalize List.toArray ([.ref (ad 20), .int a1] : List Value) = args at C ⊢
  refine jj_sub (lv' := [(0, .ref (ad 20)), (1, .int a1)]) [0, 1] rfl ?_
  unfold f_Queues_firstNumberq
  refine jj_aload_n C 0 dX5_firstNumber_0 rfl rfl ?_
  refine jj_getr C 20 2 in_Queues (g_20 n S SD) k_Queues (by decide) fl_Queues_17 rfl dX5_firstNumber_1 ?_
  refine jj_iload_n C 1 dX5_firstNumber_4 rfl rfl ?_
  refine jj_aload_n C 0 dX5_firstNumber_5 rfl rfl ?_
  refine jj_geti C 20 1 in_Queues (g_20 n S SD) k_Queues (by decide) fl_Queues_13 rfl dX5_firstNumber_6 ?_
  refine jj_imul C dX5_firstNumber_9 ?_
  refine jj_iald C 21 (g_21 n S SD) dX5_firstNumber_10 ?_
  exact jj_iret C hr hlocks dX5_firstNumber_11

set_option maxHeartbeats 4000000 in
set_option maxRecDepth 100000 in
theorem l_Queues_removeFirstq_9 {p : Program} {l : Launch} {e : Env} {R : Room} {s : State} {m : MethodId} {args : Array Value} {below : List Frame} {meth : Method} {c : Code} {D : va_G} {A : Nat → Prop} {ad : Nat → Nat} {cA : FieldType → ClassId} {n S SD F : Nat} (C : jj_C p R s m args c D vwCl A ad cA (gc n S SD) 4 0 0 cX5_removeFirst RX5 jw_t) (hr : meth.sig.returnType = none) (hlocks : meth.locks = false) (hRm : 0 ≤ R.frames ∧ 0 ≤ R.locals) {K : jj_S → Int32 → Int32 → Int32 → Option jj_S} (hK : ∀ (σ : jj_S) (x1 x2 x3 : Int32), jj_J p l e R s m args below meth c D vwCl A ad cA (gc n S SD) 4 0 0 (jj_Qv below D vwCl A ad cA (gc n S SD) args s 0 0) (K σ x1 x2 x3) σ 43 [(0, .ref (ad 20)), (1, .int x1), (2, .int x2), (3, .int x3)] []) : ∀ (k : Nat) (σ : jj_S) (x1 x2 x3 : Int32), jj_J p l e R s m args below meth c D vwCl A ad cA (gc n S SD) 4 0 0 (jj_Qv below D vwCl A ad cA (gc n S SD) args s 0 0) (jj_lp3 (b_Queues_removeFirstq_9 n S SD F K) k σ x1 x2 x3) σ 9 [(0, .ref (ad 20)), (1, .int x1), (2, .int x2), (3, .int x3)] [] := by
  refine jj_loop3 (T := fun o σ x1 x2 x3 => jj_J p l e R s m args below meth c D vwCl A ad cA (gc n S SD) 4 0 0 (jj_Qv below D vwCl A ad cA (gc n S SD) args s 0 0) o σ 9 [(0, .ref (ad 20)), (1, .int x1), (2, .int x2), (3, .int x3)] []) (fun _ _ _ _ _ h => by cases h) ?_
  intro rec ih σ x1 x2 x3
  unfold b_Queues_removeFirstq_9
  refine jj_iload_n C 3 dX5_removeFirst_9 rfl rfl ?_
  refine jj_aload_n C 0 dX5_removeFirst_10 rfl rfl ?_
  refine jj_getr C 20 3 in_Queues (g_20 n S SD) k_Queues (by decide) fl_Queues_21 rfl dX5_removeFirst_11 ?_
  refine jj_iload_n C 1 dX5_removeFirst_14 rfl rfl ?_
  refine jj_iald C 22 (g_22 n S SD) dX5_removeFirst_15 ?_
  refine jj_icmp_ge C (tgt := 43) dX5_removeFirst_16 (by decide) (fun _ => ?_) (fun _ => ?_)
  · refine jj_sub [0, 1, 2, 3] rfl ?_
    exact hK σ x1 x2 x3
  · refine jj_aload_n C 0 dX5_removeFirst_19 rfl rfl ?_
    refine jj_getr C 20 2 in_Queues (g_20 n S SD) k_Queues (by decide) fl_Queues_17 rfl dX5_removeFirst_20 ?_
    refine jj_iload_n C 2 dX5_removeFirst_23 rfl rfl ?_
    refine jj_iload_n C 3 dX5_removeFirst_24 rfl rfl ?_
    refine jj_iadd C dX5_removeFirst_25 ?_
    refine jj_iconst C (v := (1 : Int32)) dX5_removeFirst_26 (by decide) ?_
    refine jj_isub C dX5_removeFirst_27 ?_
    refine jj_aload_n C 0 dX5_removeFirst_28 rfl rfl ?_
    refine jj_getr C 20 2 in_Queues (g_20 n S SD) k_Queues (by decide) fl_Queues_17 rfl dX5_removeFirst_29 ?_
    refine jj_iload_n C 2 dX5_removeFirst_32 rfl rfl ?_
    refine jj_iload_n C 3 dX5_removeFirst_33 rfl rfl ?_
    refine jj_iadd C dX5_removeFirst_34 ?_
    refine jj_iald C 21 (g_21 n S SD) dX5_removeFirst_35 ?_
    refine jj_iast C 21 (g_21 n S SD) dX5_removeFirst_36 ?_
    refine jj_stn (fun σ2 => ?_)
    refine jj_iinc C (v := x3 + (1 : Int32)) [(3, .int (x3 + (1 : Int32))), (0, .ref (ad 20)), (1, .int x1), (2, .int x2)] 3 dX5_removeFirst_37 rfl rfl (by decide) rfl ?_
    refine jj_goto C (tgt := 9) dX5_removeFirst_40 (by decide) ?_
    refine jj_sub [1, 2, 3, 0] rfl ?_
    exact ih σ2 x1 x2 (x3 + (1 : Int32))

set_option maxHeartbeats 4000000 in
set_option maxRecDepth 100000 in
theorem c_Queues_removeFirstq {l : Launch} {D : va_G} {ad : Nat → Nat} {cA : FieldType → ClassId} {n S SD F : Nat} {σ : jj_S} {a1 : Int32} {z : jj_S} (ho : f_Queues_removeFirstq n S SD F σ a1 = some z) : jj_Mv l yX5_removeFirst (Cond.code yX5_removeFirst cX5_removeFirst 4 none :: jw_t) { frames := 0, cells := 0, slots := 0, locals := 0 } D vwCl ad cA (gc n S SD) [.ref (ad 20), .int a1] σ z := by
  refine jj_ofv (cc := cX5_removeFirst) (nL := 4) (ret := none) rfl ho (Nat.le_of_ble_eq_true rfl) ?_
  intro p e s m below meth c C hr hlocks
  generalize hA : va_A (jj_w ad cA (gc n S SD) σ) s.heap.size = A at C ⊢
  have hRm : 0 ≤ (headSpec (Cond.code yX5_removeFirst cX5_removeFirst 4 none :: jw_t) { frames := 0, cells := 0, slots := 0, locals := 0 }).room.frames ∧ 0 ≤ (headSpec (Cond.code yX5_removeFirst cX5_removeFirst 4 none :: jw_t) { frames := 0, cells := 0, slots := 0, locals := 0 }).room.locals := ⟨Nat.le_refl _, Nat.le_refl _⟩
  generalize (headSpec (Cond.code yX5_removeFirst cX5_removeFirst 4 none :: jw_t) { frames := 0, cells := 0, slots := 0, locals := 0 }).room = R at C hRm ⊢
  generalize List.toArray ([.ref (ad 20), .int a1] : List Value) = args at C ⊢
  refine jj_sub (lv' := [(0, .ref (ad 20)), (1, .int a1)]) [0, 1] rfl ?_
  unfold f_Queues_removeFirstq
  refine jj_iload_n C 1 dX5_removeFirst_0 rfl rfl ?_
  refine jj_aload_n C 0 dX5_removeFirst_1 rfl rfl ?_
  refine jj_geti C 20 1 in_Queues (g_20 n S SD) k_Queues (by decide) fl_Queues_13 rfl dX5_removeFirst_2 ?_
  refine jj_imul C dX5_removeFirst_5 ?_
  refine jj_ltn (fun v2_1 => ?_)
  refine jj_istore_n C [(2, .int v2_1), (0, .ref (ad 20)), (1, .int a1)] dX5_removeFirst_6 rfl (by decide) rfl ?_
  refine jj_iconst C (v := (1 : Int32)) dX5_removeFirst_7 (by decide) ?_
  refine jj_istore_n C [(3, .int (1 : Int32)), (2, .int v2_1), (0, .ref (ad 20)), (1, .int a1)] dX5_removeFirst_8 rfl (by decide) rfl ?_
  refine jj_sub [2, 3, 1, 0] rfl ?_
  refine l_Queues_removeFirstq_9 C hr hlocks hRm (fun σ3 x1_4 x2_5 x3_6 => ?_) F σ a1 v2_1 (1 : Int32)
  refine jj_aload_n C 0 dX5_removeFirst_43 rfl rfl ?_
  refine jj_getr C 20 3 in_Queues (g_20 n S SD) k_Queues (by decide) fl_Queues_21 rfl dX5_removeFirst_44 ?_
  refine jj_iload_n C 1 dX5_removeFirst_47 rfl rfl ?_
  refine jj_dup2 C dX5_removeFirst_48 rfl rfl ?_
  refine jj_iald C 22 (g_22 n S SD) dX5_removeFirst_49 ?_
  refine jj_iconst C (v := (1 : Int32)) dX5_removeFirst_50 (by decide) ?_
  refine jj_isub C dX5_removeFirst_51 ?_
  refine jj_iast C 22 (g_22 n S SD) dX5_removeFirst_52 ?_
  refine jj_stn (fun σ7 => ?_)
  refine jj_aload_n C 0 dX5_removeFirst_53 rfl rfl ?_
  refine jj_getr C 20 4 in_Queues (g_20 n S SD) k_Queues (by decide) fl_Queues_24 rfl dX5_removeFirst_54 ?_
  refine jj_iload_n C 1 dX5_removeFirst_57 rfl rfl ?_
  refine jj_iconst C (v := (0 : Int32)) dX5_removeFirst_58 (by decide) ?_
  refine jj_iast C 23 (g_23 n S SD) dX5_removeFirst_59 ?_
  refine jj_stn (fun σ8 => ?_)
  exact jj_vret C hr hlocks dX5_removeFirst_60

set_option maxHeartbeats 4000000 in
set_option maxRecDepth 100000 in
theorem c_Ifs_sendFirstq {l : Launch} {D : va_G} {ad : Nat → Nat} {cA : FieldType → ClassId} {n S SD F : Nat} {σ : jj_S} {a1 : Int32} {z : (Int32 × jj_S)} (ho : f_Ifs_sendFirstq n S SD F σ a1 = some z) : jj_Mi l yX2_sendFirst (Cond.code yX2_sendFirst cX2_sendFirst 7 (some .boolean) :: jw_t) { frames := 1, cells := 0, slots := 0, locals := 40 } D vwCl ad cA (gc n S SD) [.ref (ad 16), .int a1, .ref (ad 20)] σ z := by
  refine jj_ofi (cc := cX2_sendFirst) (nL := 7) (ret := (some .boolean)) rfl ho (Nat.le_of_ble_eq_true rfl) ?_
  intro p e s m below meth c C hr hlocks
  generalize hA : va_A (jj_w ad cA (gc n S SD) σ) s.heap.size = A at C ⊢
  have hRm : 1 ≤ (headSpec (Cond.code yX2_sendFirst cX2_sendFirst 7 (some .boolean) :: jw_t) { frames := 1, cells := 0, slots := 0, locals := 40 }).room.frames ∧ 40 ≤ (headSpec (Cond.code yX2_sendFirst cX2_sendFirst 7 (some .boolean) :: jw_t) { frames := 1, cells := 0, slots := 0, locals := 40 }).room.locals := ⟨Nat.le_refl _, Nat.le_refl _⟩
  generalize (headSpec (Cond.code yX2_sendFirst cX2_sendFirst 7 (some .boolean) :: jw_t) { frames := 1, cells := 0, slots := 0, locals := 40 }).room = R at C hRm ⊢
  generalize List.toArray ([.ref (ad 16), .int a1, .ref (ad 20)] : List Value) = args at C ⊢
  refine jj_sub (lv' := [(0, .ref (ad 16)), (1, .int a1), (2, .ref (ad 20))]) [0, 1, 2] rfl ?_
  unfold f_Ifs_sendFirstq
  refine jj_aload_n C 2 dX2_sendFirst_0 rfl rfl ?_
  refine jj_getr C 20 3 in_Queues (g_20 n S SD) k_Queues (by decide) fl_Ifs_119 rfl dX2_sendFirst_1 ?_
  refine jj_iload_n C 1 dX2_sendFirst_4 rfl rfl ?_
  refine jj_iald C 22 (g_22 n S SD) dX2_sendFirst_5 ?_
  refine jj_if_ne C (tgt := 11) dX2_sendFirst_6 (by decide) (fun _ => ?_) (fun _ => ?_)
  · refine jj_aload_n C 2 dX2_sendFirst_11 rfl rfl ?_
    refine jj_iload_n C 1 dX2_sendFirst_12 rfl rfl ?_
    refine jj_callVi C (As := [.int a1]) (rest := []) (fun z hz => c_Queues_firstNumberq hz) (q_Ifs_120 C.2.2.2.2.1 (rm := { frames := 0, cells := 0, slots := 0, locals := 0 }) rfl rfl ⟨Nat.le_trans (by decide) hRm.1, Nat.le_trans (by decide) hRm.2⟩) (g_20 n S SD) k_Queues rfl rfl (Nat.le_of_ble_eq_true rfl) dX2_sendFirst_13 (fun r2 σ1 _ => ?_)
    refine jj_istore_n C [(3, .int r2), (0, .ref (ad 16)), (1, .int a1), (2, .ref (ad 20))] dX2_sendFirst_16 rfl (by decide) rfl ?_
    refine jj_aload_n C 1 dX2_sendFirst_17 rfl rfl ?_
    refine jj_getr C 16 2 in_Ifs (g_16 n S SD) k_Ifs (by decide) fl_Ifs_26 rfl dX2_sendFirst_18 ?_
    refine jj_iload_n C 0 dX2_sendFirst_21 rfl rfl ?_
    refine jj_aload_n C 3 dX2_sendFirst_22 rfl rfl ?_
    refine jj_geti C 20 0 in_Queues (g_20 n S SD) k_Queues (by decide) fl_Ifs_123 rfl dX2_sendFirst_23 ?_
    refine jj_callVi C (As := [.int r2, .int (σ1 20 0)]) (rest := []) (fun z hz => c_Packets_channel hz) (q_Ifs_127 C.2.2.2.2.1 (rm := { frames := 0, cells := 0, slots := 0, locals := 0 }) rfl rfl ⟨Nat.le_trans (by decide) hRm.1, Nat.le_trans (by decide) hRm.2⟩) (g_10 n S SD) k_Packets rfl rfl (Nat.le_of_ble_eq_true rfl) dX2_sendFirst_26 (fun r4 σ3 _ => ?_)
    refine jj_istore C [(4, .int r4), (3, .int r2), (0, .ref (ad 16)), (1, .int a1), (2, .ref (ad 20))] dX2_sendFirst_29 (by decide) rfl ?_
    refine jj_aload_n C 2 dX2_sendFirst_31 rfl rfl ?_
    refine jj_getr C 16 0 in_Ifs (g_16 n S SD) k_Ifs (by decide) fl_Ifs_18 rfl dX2_sendFirst_32 ?_
    refine jj_iload_n C 3 dX2_sendFirst_35 rfl rfl ?_
    refine jj_iconst C (v := (5 : Int32)) dX2_sendFirst_36 (by decide) ?_
    refine jj_iload C 0 dX2_sendFirst_37 rfl ?_
    refine jj_callVi C (As := [.int a1, .int (5 : Int32), .int r4]) (rest := []) (fun z hz => c_Grid_slot hz) (q_Ifs_59 C.2.2.2.2.1 (rm := { frames := 0, cells := 0, slots := 0, locals := 0 }) rfl rfl ⟨Nat.le_trans (by decide) hRm.1, Nat.le_trans (by decide) hRm.2⟩) (g_1 n S SD) k_Grid rfl rfl (Nat.le_of_ble_eq_true rfl) dX2_sendFirst_39 (fun r6 σ5 _ => ?_)
    refine jj_istore C [(5, .int r6), (4, .int r4), (3, .int r2), (0, .ref (ad 16)), (1, .int a1), (2, .ref (ad 20))] dX2_sendFirst_42 (by decide) rfl ?_
    refine jj_aload_n C 3 dX2_sendFirst_44 rfl rfl ?_
    refine jj_getr C 16 1 in_Ifs (g_16 n S SD) k_Ifs (by decide) fl_Ifs_22 rfl dX2_sendFirst_45 ?_
    refine jj_getr C 2 5 in_Links (g_2 n S SD) k_Links (by decide) fl_Ifs_131 rfl dX2_sendFirst_48 ?_
    refine jj_iload C 0 dX2_sendFirst_51 rfl ?_
    refine jj_iald C 7 (g_7 n S SD) dX2_sendFirst_53 ?_
    refine jj_if_ne C (tgt := 59) dX2_sendFirst_54 (by decide) (fun _ => ?_) (fun _ => ?_)
    · refine jj_aload_n C 5 dX2_sendFirst_59 rfl rfl ?_
      refine jj_getr C 20 4 in_Queues (g_20 n S SD) k_Queues (by decide) fl_Ifs_134 rfl dX2_sendFirst_60 ?_
      refine jj_iload_n C 4 dX2_sendFirst_63 rfl rfl ?_
      refine jj_dup2 C dX2_sendFirst_64 rfl rfl ?_
      refine jj_iald C 23 (g_23 n S SD) dX2_sendFirst_65 ?_
      refine jj_iconst C (v := (1 : Int32)) dX2_sendFirst_66 (by decide) ?_
      refine jj_iadd C dX2_sendFirst_67 ?_
      refine jj_iast C 23 (g_23 n S SD) dX2_sendFirst_68 ?_
      refine jj_stn (fun σ7 => ?_)
      refine jj_aload_n C 5 dX2_sendFirst_69 rfl rfl ?_
      refine jj_getr C 20 4 in_Queues (g_20 n S SD) k_Queues (by decide) fl_Ifs_134 rfl dX2_sendFirst_70 ?_
      refine jj_iload_n C 4 dX2_sendFirst_73 rfl rfl ?_
      refine jj_iald C 23 (g_23 n S SD) dX2_sendFirst_74 ?_
      refine jj_aload_n C 3 dX2_sendFirst_75 rfl rfl ?_
      refine jj_getr C 16 2 in_Ifs (g_16 n S SD) k_Ifs (by decide) fl_Ifs_26 rfl dX2_sendFirst_76 ?_
      refine jj_iload_n C 2 dX2_sendFirst_79 rfl rfl ?_
      refine jj_aload_n C 5 dX2_sendFirst_80 rfl rfl ?_
      refine jj_geti C 20 0 in_Queues (g_20 n S SD) k_Queues (by decide) fl_Ifs_123 rfl dX2_sendFirst_81 ?_
      refine jj_callVi C (As := [.int r2, .int (σ7 20 0)]) (rest := [.int (σ7 23 a1.toNatClampNeg)]) (fun z hz => c_Packets_length hz) (q_Ifs_137 C.2.2.2.2.1 (rm := { frames := 0, cells := 0, slots := 0, locals := 0 }) rfl rfl ⟨Nat.le_trans (by decide) hRm.1, Nat.le_trans (by decide) hRm.2⟩) (g_10 n S SD) k_Packets rfl rfl (Nat.le_of_ble_eq_true rfl) dX2_sendFirst_84 (fun r9 σ8 _ => ?_)
      refine jj_icmp_ne C (tgt := 94) dX2_sendFirst_87 (by decide) (fun _ => ?_) (fun _ => ?_)
      · refine jj_iconst C (v := (0 : Int32)) dX2_sendFirst_94 (by decide) ?_
        refine jj_istore C [(6, .int (0 : Int32)), (5, .int r6), (4, .int r4), (3, .int r2), (0, .ref (ad 16)), (1, .int a1), (2, .ref (ad 20))] dX2_sendFirst_95 (by decide) rfl ?_
        refine jj_aload_n C 4 dX2_sendFirst_97 rfl rfl ?_
        refine jj_getr C 16 1 in_Ifs (g_16 n S SD) k_Ifs (by decide) fl_Ifs_22 rfl dX2_sendFirst_98 ?_
        refine jj_iload C 1 dX2_sendFirst_101 rfl ?_
        refine jj_iload_n C 3 dX2_sendFirst_103 rfl rfl ?_
        refine jj_aload_n C 6 dX2_sendFirst_104 rfl rfl ?_
        refine jj_geti C 20 0 in_Queues (g_20 n S SD) k_Queues (by decide) fl_Ifs_123 rfl dX2_sendFirst_105 ?_
        refine jj_iload C 0 dX2_sendFirst_108 rfl ?_
        refine jj_callSi C (As := [.int r2, .int (σ8 20 0), .int (0 : Int32)]) (rest := [.int r6, .ref (ad 2)]) (fun z hz => c_Packets_flit hz) (q_Ifs_140 C.2.2.2.2.1 (rm := { frames := 0, cells := 0, slots := 0, locals := 0 }) rfl rfl ⟨Nat.le_trans (by decide) hRm.1, Nat.le_trans (by decide) hRm.2⟩) rfl rfl (Nat.le_of_ble_eq_true rfl) dX2_sendFirst_110 (fun r11 σ10 _ => ?_)
        refine jj_callVv C (As := [.int r6, .int r11]) (rest := []) (fun z hz => c_Links_send hz) (q_Ifs_144 C.2.2.2.2.1 (rm := { frames := 0, cells := 0, slots := 0, locals := 0 }) rfl rfl ⟨Nat.le_trans (by decide) hRm.1, Nat.le_trans (by decide) hRm.2⟩) (g_2 n S SD) k_Links rfl rfl (Nat.le_of_ble_eq_true rfl) dX2_sendFirst_113 (fun σ12 _ => ?_)
        refine jj_iload C 0 dX2_sendFirst_116 rfl ?_
        refine jj_if_eq_t C (tgt := 126) dX2_sendFirst_118 (by decide) (by decide) ?_
        refine jj_iconst C (v := (1 : Int32)) dX2_sendFirst_126 (by decide) ?_
        exact jj_zret C hr hlocks (by first | rfl | decide +kernel) dX2_sendFirst_127
      · refine jj_iconst C (v := (1 : Int32)) dX2_sendFirst_90 (by decide) ?_
        refine jj_goto C (tgt := 95) dX2_sendFirst_91 (by decide) ?_
        refine jj_istore C [(6, .int (1 : Int32)), (5, .int r6), (4, .int r4), (3, .int r2), (0, .ref (ad 16)), (1, .int a1), (2, .ref (ad 20))] dX2_sendFirst_95 (by decide) rfl ?_
        refine jj_aload_n C 4 dX2_sendFirst_97 rfl rfl ?_
        refine jj_getr C 16 1 in_Ifs (g_16 n S SD) k_Ifs (by decide) fl_Ifs_22 rfl dX2_sendFirst_98 ?_
        refine jj_iload C 1 dX2_sendFirst_101 rfl ?_
        refine jj_iload_n C 3 dX2_sendFirst_103 rfl rfl ?_
        refine jj_aload_n C 6 dX2_sendFirst_104 rfl rfl ?_
        refine jj_geti C 20 0 in_Queues (g_20 n S SD) k_Queues (by decide) fl_Ifs_123 rfl dX2_sendFirst_105 ?_
        refine jj_iload C 0 dX2_sendFirst_108 rfl ?_
        refine jj_callSi C (As := [.int r2, .int (σ8 20 0), .int (1 : Int32)]) (rest := [.int r6, .ref (ad 2)]) (fun z hz => c_Packets_flit hz) (q_Ifs_140 C.2.2.2.2.1 (rm := { frames := 0, cells := 0, slots := 0, locals := 0 }) rfl rfl ⟨Nat.le_trans (by decide) hRm.1, Nat.le_trans (by decide) hRm.2⟩) rfl rfl (Nat.le_of_ble_eq_true rfl) dX2_sendFirst_110 (fun r14 σ13 _ => ?_)
        refine jj_callVv C (As := [.int r6, .int r14]) (rest := []) (fun z hz => c_Links_send hz) (q_Ifs_144 C.2.2.2.2.1 (rm := { frames := 0, cells := 0, slots := 0, locals := 0 }) rfl rfl ⟨Nat.le_trans (by decide) hRm.1, Nat.le_trans (by decide) hRm.2⟩) (g_2 n S SD) k_Links rfl rfl (Nat.le_of_ble_eq_true rfl) dX2_sendFirst_113 (fun σ15 _ => ?_)
        refine jj_iload C 0 dX2_sendFirst_116 rfl ?_
        refine jj_if_eq_f C (tgt := 126) dX2_sendFirst_118 (by decide) (by decide) ?_
        refine jj_aload_n C 6 dX2_sendFirst_121 rfl rfl ?_
        refine jj_iload_n C 5 dX2_sendFirst_122 rfl rfl ?_
        refine jj_callVv C (As := [.int a1]) (rest := []) (fun z hz => c_Queues_removeFirstq hz) (q_Ifs_147 C.2.2.2.2.1 (rm := { frames := 0, cells := 0, slots := 0, locals := 0 }) rfl rfl ⟨Nat.le_trans (by decide) hRm.1, Nat.le_trans (by decide) hRm.2⟩) (g_20 n S SD) k_Queues rfl rfl (Nat.le_of_ble_eq_true rfl) dX2_sendFirst_123 (fun σ16 _ => ?_)
        refine jj_iconst C (v := (1 : Int32)) dX2_sendFirst_126 (by decide) ?_
        exact jj_zret C hr hlocks (by first | rfl | decide +kernel) dX2_sendFirst_127
    · refine jj_iconst C (v := (0 : Int32)) dX2_sendFirst_57 (by decide) ?_
      exact jj_zret C hr hlocks (by first | rfl | decide +kernel) dX2_sendFirst_58
  · refine jj_iconst C (v := (0 : Int32)) dX2_sendFirst_9 (by decide) ?_
    exact jj_zret C hr hlocks (by first | rfl | decide +kernel) dX2_sendFirst_10

set_option maxHeartbeats 4000000 in
set_option maxRecDepth 100000 in
theorem l_Ifs_sendAll_2 {p : Program} {l : Launch} {e : Env} {R : Room} {s : State} {m : MethodId} {args : Array Value} {below : List Frame} {meth : Method} {c : Code} {D : va_G} {A : Nat → Prop} {ad : Nat → Nat} {cA : FieldType → ClassId} {n S SD F : Nat} (C : jj_C p R s m args c D vwCl A ad cA (gc n S SD) 2 0 0 cX2_sendAll RX2 jw_t) (hr : meth.sig.returnType = none) (hlocks : meth.locks = false) (hRm : 2 ≤ R.frames ∧ 80 ≤ R.locals) {K : jj_S → Int32 → Option jj_S} (hK : ∀ (σ : jj_S) (x1 : Int32), jj_J p l e R s m args below meth c D vwCl A ad cA (gc n S SD) 2 0 0 (jj_Qv below D vwCl A ad cA (gc n S SD) args s 0 0) (K σ x1) σ 41 [(0, .ref (ad 16)), (1, .int x1)] []) : ∀ (k : Nat) (σ : jj_S) (x1 : Int32), jj_J p l e R s m args below meth c D vwCl A ad cA (gc n S SD) 2 0 0 (jj_Qv below D vwCl A ad cA (gc n S SD) args s 0 0) (jj_lp1 (b_Ifs_sendAll_2 n S SD F K) k σ x1) σ 2 [(0, .ref (ad 16)), (1, .int x1)] [] := by
  refine jj_loop1 (T := fun o σ x1 => jj_J p l e R s m args below meth c D vwCl A ad cA (gc n S SD) 2 0 0 (jj_Qv below D vwCl A ad cA (gc n S SD) args s 0 0) o σ 2 [(0, .ref (ad 16)), (1, .int x1)] []) (fun _ _ _ h => by cases h) ?_
  intro rec ih σ x1
  unfold b_Ifs_sendAll_2
  refine jj_iload_n C 1 dX2_sendAll_2 rfl rfl ?_
  refine jj_aload_n C 0 dX2_sendAll_3 rfl rfl ?_
  refine jj_getr C 16 0 in_Ifs (g_16 n S SD) k_Ifs (by decide) fl_Ifs_18 rfl dX2_sendAll_4 ?_
  refine jj_geti C 1 5 in_Grid (g_1 n S SD) k_Grid (by decide) fl_Ifs_32 rfl dX2_sendAll_7 ?_
  refine jj_icmp_ge C (tgt := 41) dX2_sendAll_10 (by decide) (fun _ => ?_) (fun _ => ?_)
  · refine jj_sub [0, 1] rfl ?_
    exact hK σ x1
  · refine jj_aload_n C 0 dX2_sendAll_13 rfl rfl ?_
    refine jj_iload_n C 1 dX2_sendAll_14 rfl rfl ?_
    refine jj_aload_n C 0 dX2_sendAll_15 rfl rfl ?_
    refine jj_getr C 16 4 in_Ifs (g_16 n S SD) k_Ifs (by decide) fl_Ifs_45 rfl dX2_sendAll_16 ?_
    refine jj_callVi C (As := [.int x1, .ref (ad 24)]) (rest := []) (fun z hz => c_Ifs_sendFirstp hz) (q_Ifs_115 C.2.2.2.2.1 (rm := { frames := 1, cells := 0, slots := 0, locals := 40 }) rfl rfl ⟨Nat.le_trans (by decide) hRm.1, Nat.le_trans (by decide) hRm.2⟩) (g_16 n S SD) k_Ifs rfl rfl (Nat.le_of_ble_eq_true rfl) dX2_sendAll_19 (fun r2 σ1 _ => ?_)
    refine jj_if_ne C (tgt := 35) dX2_sendAll_22 (by decide) (fun _ => ?_) (fun _ => ?_)
    · refine jj_iinc C (v := x1 + (1 : Int32)) [(1, .int (x1 + (1 : Int32))), (0, .ref (ad 16))] 1 dX2_sendAll_35 rfl rfl (by decide) rfl ?_
      refine jj_goto C (tgt := 2) dX2_sendAll_38 (by decide) ?_
      refine jj_sub [1, 0] rfl ?_
      exact ih σ1 (x1 + (1 : Int32))
    · refine jj_aload_n C 0 dX2_sendAll_25 rfl rfl ?_
      refine jj_iload_n C 1 dX2_sendAll_26 rfl rfl ?_
      refine jj_aload_n C 0 dX2_sendAll_27 rfl rfl ?_
      refine jj_getr C 16 3 in_Ifs (g_16 n S SD) k_Ifs (by decide) fl_Ifs_41 rfl dX2_sendAll_28 ?_
      refine jj_callVi C (As := [.int x1, .ref (ad 20)]) (rest := []) (fun z hz => c_Ifs_sendFirstq hz) (q_Ifs_115 C.2.2.2.2.1 (rm := { frames := 1, cells := 0, slots := 0, locals := 40 }) rfl rfl ⟨Nat.le_trans (by decide) hRm.1, Nat.le_trans (by decide) hRm.2⟩) (g_16 n S SD) k_Ifs rfl rfl (Nat.le_of_ble_eq_true rfl) dX2_sendAll_31 (fun r4 σ3 _ => ?_)
      refine jj_pop C dX2_sendAll_34 rfl ?_
      refine jj_iinc C (v := x1 + (1 : Int32)) [(1, .int (x1 + (1 : Int32))), (0, .ref (ad 16))] 1 dX2_sendAll_35 rfl rfl (by decide) rfl ?_
      refine jj_goto C (tgt := 2) dX2_sendAll_38 (by decide) ?_
      refine jj_sub [1, 0] rfl ?_
      exact ih σ3 (x1 + (1 : Int32))

set_option maxHeartbeats 4000000 in
set_option maxRecDepth 100000 in
theorem c_Ifs_sendAll {l : Launch} {D : va_G} {ad : Nat → Nat} {cA : FieldType → ClassId} {n S SD F : Nat} {σ : jj_S} {z : jj_S} (ho : f_Ifs_sendAll n S SD F σ = some z) : jj_Mv l yX2_sendAll (Cond.code yX2_sendAll cX2_sendAll 2 none :: jw_t) { frames := 2, cells := 0, slots := 0, locals := 80 } D vwCl ad cA (gc n S SD) [.ref (ad 16)] σ z := by
  refine jj_ofv (cc := cX2_sendAll) (nL := 2) (ret := none) rfl ho (Nat.le_of_ble_eq_true rfl) ?_
  intro p e s m below meth c C hr hlocks
  generalize hA : va_A (jj_w ad cA (gc n S SD) σ) s.heap.size = A at C ⊢
  have hRm : 2 ≤ (headSpec (Cond.code yX2_sendAll cX2_sendAll 2 none :: jw_t) { frames := 2, cells := 0, slots := 0, locals := 80 }).room.frames ∧ 80 ≤ (headSpec (Cond.code yX2_sendAll cX2_sendAll 2 none :: jw_t) { frames := 2, cells := 0, slots := 0, locals := 80 }).room.locals := ⟨Nat.le_refl _, Nat.le_refl _⟩
  generalize (headSpec (Cond.code yX2_sendAll cX2_sendAll 2 none :: jw_t) { frames := 2, cells := 0, slots := 0, locals := 80 }).room = R at C hRm ⊢
  generalize List.toArray ([.ref (ad 16)] : List Value) = args at C ⊢
  refine jj_sub (lv' := [(0, .ref (ad 16))]) [0] rfl ?_
  unfold f_Ifs_sendAll
  refine jj_iconst C (v := (0 : Int32)) dX2_sendAll_0 (by decide) ?_
  refine jj_istore_n C [(1, .int (0 : Int32)), (0, .ref (ad 16))] dX2_sendAll_1 rfl (by decide) rfl ?_
  refine jj_sub [1, 0] rfl ?_
  refine l_Ifs_sendAll_2 C hr hlocks hRm (fun σ5 x1_6 => ?_) F σ (0 : Int32)
  exact jj_vret C hr hlocks dX2_sendAll_41

set_option maxHeartbeats 4000000 in
set_option maxRecDepth 100000 in
theorem c_Routers_isReady {l : Launch} {D : va_G} {ad : Nat → Nat} {cA : FieldType → ClassId} {n S SD F : Nat} {σ : jj_S} {a1 a2 a3 : Int32} {z : (Int32 × jj_S)} (ho : f_Routers_isReady n S SD F σ a1 a2 a3 = some z) : jj_Mi l yX6_isReady (Cond.code yX6_isReady cX6_isReady 5 (some .boolean) :: jw_t) { frames := 1, cells := 0, slots := 0, locals := 40 } D vwCl ad cA (gc n S SD) [.ref (ad 30), .int a1, .int a2, .int a3] σ z := by
  refine jj_ofi (cc := cX6_isReady) (nL := 5) (ret := (some .boolean)) rfl ho (Nat.le_of_ble_eq_true rfl) ?_
  intro p e s m below meth c C hr hlocks
  generalize hA : va_A (jj_w ad cA (gc n S SD) σ) s.heap.size = A at C ⊢
  have hRm : 1 ≤ (headSpec (Cond.code yX6_isReady cX6_isReady 5 (some .boolean) :: jw_t) { frames := 1, cells := 0, slots := 0, locals := 40 }).room.frames ∧ 40 ≤ (headSpec (Cond.code yX6_isReady cX6_isReady 5 (some .boolean) :: jw_t) { frames := 1, cells := 0, slots := 0, locals := 40 }).room.locals := ⟨Nat.le_refl _, Nat.le_refl _⟩
  generalize (headSpec (Cond.code yX6_isReady cX6_isReady 5 (some .boolean) :: jw_t) { frames := 1, cells := 0, slots := 0, locals := 40 }).room = R at C hRm ⊢
  generalize List.toArray ([.ref (ad 30), .int a1, .int a2, .int a3] : List Value) = args at C ⊢
  refine jj_sub (lv' := [(0, .ref (ad 30)), (1, .int a1), (2, .int a2), (3, .int a3)]) [0, 1, 2, 3] rfl ?_
  unfold f_Routers_isReady
  refine jj_aload_n C 0 dX6_isReady_0 rfl rfl ?_
  refine jj_getr C 30 0 in_Routers (g_30 n S SD) k_Routers (by decide) fl_Routers_15 rfl dX6_isReady_1 ?_
  refine jj_iload_n C 1 dX6_isReady_4 rfl rfl ?_
  refine jj_iload_n C 2 dX6_isReady_5 rfl rfl ?_
  refine jj_iload_n C 3 dX6_isReady_6 rfl rfl ?_
  refine jj_callVi C (As := [.int a1, .int a2, .int a3]) (rest := []) (fun z hz => c_Grid_slot hz) (q_Routers_73 C.2.2.2.2.1 (rm := { frames := 0, cells := 0, slots := 0, locals := 0 }) rfl rfl ⟨Nat.le_trans (by decide) hRm.1, Nat.le_trans (by decide) hRm.2⟩) (g_1 n S SD) k_Grid rfl rfl (Nat.le_of_ble_eq_true rfl) dX6_isReady_7 (fun r2 σ1 _ => ?_)
  refine jj_istore C [(4, .int r2), (0, .ref (ad 30)), (1, .int a1), (2, .int a2), (3, .int a3)] dX6_isReady_10 (by decide) rfl ?_
  refine jj_aload_n C 1 dX6_isReady_12 rfl rfl ?_
  refine jj_getr C 30 1 in_Routers (g_30 n S SD) k_Routers (by decide) fl_Routers_19 rfl dX6_isReady_13 ?_
  refine jj_getr C 2 4 in_Links (g_2 n S SD) k_Links (by decide) fl_Routers_77 rfl dX6_isReady_16 ?_
  refine jj_iload C 0 dX6_isReady_19 rfl ?_
  refine jj_iald C 6 (g_6 n S SD) dX6_isReady_21 ?_
  refine jj_if_le C (tgt := 67) dX6_isReady_22 (by decide) (fun _ => ?_) (fun _ => ?_)
  · refine jj_iconst C (v := (0 : Int32)) dX6_isReady_67 (by decide) ?_
    exact jj_zret C hr hlocks (by first | rfl | decide +kernel) dX6_isReady_68
  · refine jj_aload_n C 1 dX6_isReady_25 rfl rfl ?_
    refine jj_getr C 30 3 in_Routers (g_30 n S SD) k_Routers (by decide) fl_Routers_33 rfl dX6_isReady_26 ?_
    refine jj_iload C 0 dX6_isReady_29 rfl ?_
    refine jj_iald C 32 (g_32 n S SD) dX6_isReady_31 ?_
    refine jj_iconst C (v := (2 : Int32)) dX6_isReady_32 (by decide) ?_
    refine jj_icmp_ne C (tgt := 67) dX6_isReady_33 (by decide) (fun _ => ?_) (fun _ => ?_)
    · refine jj_iconst C (v := (0 : Int32)) dX6_isReady_67 (by decide) ?_
      exact jj_zret C hr hlocks (by first | rfl | decide +kernel) dX6_isReady_68
    · refine jj_aload_n C 1 dX6_isReady_36 rfl rfl ?_
      refine jj_getr C 30 1 in_Routers (g_30 n S SD) k_Routers (by decide) fl_Routers_19 rfl dX6_isReady_37 ?_
      refine jj_getr C 2 5 in_Links (g_2 n S SD) k_Links (by decide) fl_Routers_82 rfl dX6_isReady_40 ?_
      refine jj_aload_n C 1 dX6_isReady_43 rfl rfl ?_
      refine jj_getr C 30 0 in_Routers (g_30 n S SD) k_Routers (by decide) fl_Routers_15 rfl dX6_isReady_44 ?_
      refine jj_iload_n C 2 dX6_isReady_47 rfl rfl ?_
      refine jj_aload_n C 1 dX6_isReady_48 rfl rfl ?_
      refine jj_getr C 30 4 in_Routers (g_30 n S SD) k_Routers (by decide) fl_Routers_36 rfl dX6_isReady_49 ?_
      refine jj_iload C 0 dX6_isReady_52 rfl ?_
      refine jj_iald C 33 (g_33 n S SD) dX6_isReady_54 ?_
      refine jj_iload_n C 4 dX6_isReady_55 rfl rfl ?_
      refine jj_callVi C (As := [.int a1, .int (σ1 33 r2.toNatClampNeg), .int a3]) (rest := [.ref (ad 7)]) (fun z hz => c_Grid_slot hz) (q_Routers_73 C.2.2.2.2.1 (rm := { frames := 0, cells := 0, slots := 0, locals := 0 }) rfl rfl ⟨Nat.le_trans (by decide) hRm.1, Nat.le_trans (by decide) hRm.2⟩) (g_1 n S SD) k_Grid rfl rfl (Nat.le_of_ble_eq_true rfl) dX6_isReady_56 (fun r4 σ3 _ => ?_)
      refine jj_iald C 7 (g_7 n S SD) dX6_isReady_59 ?_
      refine jj_if_le C (tgt := 67) dX6_isReady_60 (by decide) (fun _ => ?_) (fun _ => ?_)
      · refine jj_iconst C (v := (0 : Int32)) dX6_isReady_67 (by decide) ?_
        exact jj_zret C hr hlocks (by first | rfl | decide +kernel) dX6_isReady_68
      · refine jj_iconst C (v := (1 : Int32)) dX6_isReady_63 (by decide) ?_
        refine jj_goto C (tgt := 68) dX6_isReady_64 (by decide) ?_
        exact jj_zret C hr hlocks (by first | rfl | decide +kernel) dX6_isReady_68
