set_option maxHeartbeats 4000000 in
set_option maxRecDepth 100000 in
theorem c_rRef_nodes {l : Launch} {D : va_G} {ad : Nat → Nat} {cA : FieldType → ClassId} { F : Nat} {σ : jj_S} {z : (Int32 × jj_S)} (ho : f_rRef_nodes  F σ = some z) : jj_Mi l yX8_nodes (Cond.code yX8_nodes cX8_nodes 1 (some .int) :: jw_t) { frames := 0, cells := 0, slots := 0, locals := 0 } D vwCl ad cA (gm) [.ref (ad 0)] σ z := by
  refine jj_ofi (cc := cX8_nodes) (nL := 1) (ret := (some .int)) rfl ho (Nat.le_of_ble_eq_true rfl) ?_
  intro p e s m below meth c C hr hlocks
  generalize hA : va_A (jj_w ad cA (gm) σ) s.heap.size = A at C ⊢
  have hRm : 0 ≤ (headSpec (Cond.code yX8_nodes cX8_nodes 1 (some .int) :: jw_t) { frames := 0, cells := 0, slots := 0, locals := 0 }).room.frames ∧ 0 ≤ (headSpec (Cond.code yX8_nodes cX8_nodes 1 (some .int) :: jw_t) { frames := 0, cells := 0, slots := 0, locals := 0 }).room.locals := ⟨Nat.le_refl _, Nat.le_refl _⟩
  generalize (headSpec (Cond.code yX8_nodes cX8_nodes 1 (some .int) :: jw_t) { frames := 0, cells := 0, slots := 0, locals := 0 }).room = R at C hRm ⊢
  generalize List.toArray ([.ref (ad 0)] : List Value) = args at C ⊢
  refine jj_sub (lv' := [(0, .ref (ad 0))]) [0] rfl ?_
  unfold f_rRef_nodes
  refine jj_aload_n C 0 dX8_nodes_0 rfl rfl ?_
  refine jj_geti C 0 0 in_Ref (rg_0 ) k_Ref (by decide) fl_Ref_95 rfl dX8_nodes_1 ?_
  refine jj_aload_n C 0 dX8_nodes_4 rfl rfl ?_
  refine jj_geti C 0 1 in_Ref (rg_0 ) k_Ref (by decide) fl_Ref_99 rfl dX8_nodes_5 ?_
  refine jj_imul C dX8_nodes_8 ?_
  exact jj_iret C hr hlocks dX8_nodes_9

set_option maxHeartbeats 4000000 in
set_option maxRecDepth 100000 in
theorem c_rRef_isNode {l : Launch} {D : va_G} {ad : Nat → Nat} {cA : FieldType → ClassId} { F : Nat} {σ : jj_S} {a1 : Int32} {z : (Int32 × jj_S)} (ho : f_rRef_isNode  F σ a1 = some z) : jj_Mi l yX8_isNode (Cond.code yX8_isNode cX8_isNode 2 (some .boolean) :: jw_t) { frames := 0, cells := 0, slots := 0, locals := 0 } D vwCl ad cA (gm) [.ref (ad 0), .int a1] σ z := by
  refine jj_ofi (cc := cX8_isNode) (nL := 2) (ret := (some .boolean)) rfl ho (Nat.le_of_ble_eq_true rfl) ?_
  intro p e s m below meth c C hr hlocks
  generalize hA : va_A (jj_w ad cA (gm) σ) s.heap.size = A at C ⊢
  have hRm : 0 ≤ (headSpec (Cond.code yX8_isNode cX8_isNode 2 (some .boolean) :: jw_t) { frames := 0, cells := 0, slots := 0, locals := 0 }).room.frames ∧ 0 ≤ (headSpec (Cond.code yX8_isNode cX8_isNode 2 (some .boolean) :: jw_t) { frames := 0, cells := 0, slots := 0, locals := 0 }).room.locals := ⟨Nat.le_refl _, Nat.le_refl _⟩
  generalize (headSpec (Cond.code yX8_isNode cX8_isNode 2 (some .boolean) :: jw_t) { frames := 0, cells := 0, slots := 0, locals := 0 }).room = R at C hRm ⊢
  generalize List.toArray ([.ref (ad 0), .int a1] : List Value) = args at C ⊢
  refine jj_sub (lv' := [(0, .ref (ad 0)), (1, .int a1)]) [0, 1] rfl ?_
  unfold f_rRef_isNode
  refine jj_iload_n C 1 dX8_isNode_0 rfl rfl ?_
  refine jj_if_lt C (tgt := 21) dX8_isNode_1 (by decide) (fun _ => ?_) (fun _ => ?_)
  · refine jj_iconst C (v := (0 : Int32)) dX8_isNode_21 (by decide) ?_
    exact jj_zret C hr hlocks (by first | rfl | decide +kernel) dX8_isNode_22
  · refine jj_iload_n C 1 dX8_isNode_4 rfl rfl ?_
    refine jj_aload_n C 0 dX8_isNode_5 rfl rfl ?_
    refine jj_geti C 0 0 in_Ref (rg_0 ) k_Ref (by decide) fl_Ref_95 rfl dX8_isNode_6 ?_
    refine jj_aload_n C 0 dX8_isNode_9 rfl rfl ?_
    refine jj_geti C 0 1 in_Ref (rg_0 ) k_Ref (by decide) fl_Ref_99 rfl dX8_isNode_10 ?_
    refine jj_imul C dX8_isNode_13 ?_
    refine jj_icmp_ge C (tgt := 21) dX8_isNode_14 (by decide) (fun _ => ?_) (fun _ => ?_)
    · refine jj_iconst C (v := (0 : Int32)) dX8_isNode_21 (by decide) ?_
      exact jj_zret C hr hlocks (by first | rfl | decide +kernel) dX8_isNode_22
    · refine jj_iconst C (v := (1 : Int32)) dX8_isNode_17 (by decide) ?_
      refine jj_goto C (tgt := 22) dX8_isNode_18 (by decide) ?_
      exact jj_zret C hr hlocks (by first | rfl | decide +kernel) dX8_isNode_22

set_option maxHeartbeats 4000000 in
set_option maxRecDepth 100000 in
theorem c_rRef_request {l : Launch} {D : va_G} {ad : Nat → Nat} {cA : FieldType → ClassId} { F : Nat} {σ : jj_S} {a1 a2 a3 a4 a5 : Int32} {z : (Int32 × jj_S)} (ho : f_rRef_request  F σ a1 a2 a3 a4 a5 = some z) : jj_Mi l yX8_request (Cond.code yX8_request cX8_request 6 (some .int) :: jw_t) { frames := 1, cells := 0, slots := 0, locals := 40 } D vwCl ad cA (gm) [.ref (ad 0), .int a1, .int a2, .int a3, .int a4, .int a5] σ z := by
  refine jj_ofi (cc := cX8_request) (nL := 6) (ret := (some .int)) rfl ho (Nat.le_of_ble_eq_true rfl) ?_
  intro p e s m below meth c C hr hlocks
  generalize hA : va_A (jj_w ad cA (gm) σ) s.heap.size = A at C ⊢
  have hRm : 1 ≤ (headSpec (Cond.code yX8_request cX8_request 6 (some .int) :: jw_t) { frames := 1, cells := 0, slots := 0, locals := 40 }).room.frames ∧ 40 ≤ (headSpec (Cond.code yX8_request cX8_request 6 (some .int) :: jw_t) { frames := 1, cells := 0, slots := 0, locals := 40 }).room.locals := ⟨Nat.le_refl _, Nat.le_refl _⟩
  generalize (headSpec (Cond.code yX8_request cX8_request 6 (some .int) :: jw_t) { frames := 1, cells := 0, slots := 0, locals := 40 }).room = R at C hRm ⊢
  generalize List.toArray ([.ref (ad 0), .int a1, .int a2, .int a3, .int a4, .int a5] : List Value) = args at C ⊢
  refine jj_sub (lv' := [(0, .ref (ad 0)), (1, .int a1), (2, .int a2), (3, .int a3), (4, .int a4), (5, .int a5)]) [0, 1, 2, 3, 4, 5] rfl ?_
  unfold f_rRef_request
  refine jj_aload_n C 0 dX8_request_0 rfl rfl ?_
  refine jj_iload_n C 1 dX8_request_1 rfl rfl ?_
  refine jj_callVi C (As := [.int a1]) (rest := []) (fun z hz => c_rRef_isNode hz) (q_Ref_111 C.2.2.2.2.1 (rm := { frames := 0, cells := 0, slots := 0, locals := 0 }) rfl rfl ⟨Nat.le_trans (by decide) hRm.1, Nat.le_trans (by decide) hRm.2⟩) (rg_0 ) k_Ref rfl rfl (Nat.le_of_ble_eq_true rfl) dX8_request_2 (fun r2 σ1 _ => ?_)
  refine jj_if_eq C (tgt := 28) dX8_request_5 (by decide) (fun _ => ?_) (fun _ => ?_)
  · refine jj_iconst C (v := (-1 : Int32)) dX8_request_28 (by decide) ?_
    exact jj_iret C hr hlocks dX8_request_29
  · refine jj_aload_n C 0 dX8_request_8 rfl rfl ?_
    refine jj_iload_n C 2 dX8_request_9 rfl rfl ?_
    refine jj_callVi C (As := [.int a2]) (rest := []) (fun z hz => c_rRef_isNode hz) (q_Ref_111 C.2.2.2.2.1 (rm := { frames := 0, cells := 0, slots := 0, locals := 0 }) rfl rfl ⟨Nat.le_trans (by decide) hRm.1, Nat.le_trans (by decide) hRm.2⟩) (rg_0 ) k_Ref rfl rfl (Nat.le_of_ble_eq_true rfl) dX8_request_10 (fun r4 σ3 _ => ?_)
    refine jj_if_eq C (tgt := 28) dX8_request_13 (by decide) (fun _ => ?_) (fun _ => ?_)
    · refine jj_iconst C (v := (-1 : Int32)) dX8_request_28 (by decide) ?_
      exact jj_iret C hr hlocks dX8_request_29
    · refine jj_iload C 4 dX8_request_16 rfl ?_
      refine jj_if_lt C (tgt := 28) dX8_request_18 (by decide) (fun _ => ?_) (fun _ => ?_)
      · refine jj_iconst C (v := (-1 : Int32)) dX8_request_28 (by decide) ?_
        exact jj_iret C hr hlocks dX8_request_29
      · refine jj_iload C 4 dX8_request_21 rfl ?_
        refine jj_bipush C (v := (7 : Int32)) dX8_request_23 (by decide) ?_
        refine jj_icmp_le C (tgt := 30) dX8_request_25 (by decide) (fun _ => ?_) (fun _ => ?_)
        · refine jj_aload_n C 0 dX8_request_30 rfl rfl ?_
          refine jj_getr C 0 19 in_Ref (rg_0 ) k_Ref (by decide) fl_Ref_41 rfl dX8_request_31 ?_
          refine jj_iload_n C 1 dX8_request_34 rfl rfl ?_
          refine jj_iald C 11 (rg_11 ) dX8_request_35 ?_
          refine jj_iconst C (v := (4 : Int32)) dX8_request_36 (by decide) ?_
          refine jj_icmp_eq C (tgt := 50) dX8_request_37 (by decide) (fun _ => ?_) (fun _ => ?_)
          · refine jj_bipush C (v := (-2 : Int32)) dX8_request_50 (by decide) ?_
            exact jj_iret C hr hlocks dX8_request_52
          · refine jj_aload_n C 0 dX8_request_40 rfl rfl ?_
            refine jj_geti C 0 5 in_Ref (rg_0 ) k_Ref (by decide) fl_Ref_119 rfl dX8_request_41 ?_
            refine jj_sipush C (v := (400 : Int32)) dX8_request_44 (by decide) ?_
            refine jj_icmp_ne C (tgt := 53) dX8_request_47 (by decide) (fun _ => ?_) (fun _ => ?_)
            · refine jj_aload_n C 0 dX8_request_53 rfl rfl ?_
              refine jj_getr C 0 6 in_Ref (rg_0 ) k_Ref (by decide) fl_Ref_7 rfl dX8_request_54 ?_
              refine jj_aload_n C 0 dX8_request_57 rfl rfl ?_
              refine jj_geti C 0 5 in_Ref (rg_0 ) k_Ref (by decide) fl_Ref_119 rfl dX8_request_58 ?_
              refine jj_iload_n C 1 dX8_request_61 rfl rfl ?_
              refine jj_iast C 1 (rg_1 ) dX8_request_62 ?_
              refine jj_stn (fun σ5 => ?_)
              refine jj_aload_n C 0 dX8_request_63 rfl rfl ?_
              refine jj_getr C 0 7 in_Ref (rg_0 ) k_Ref (by decide) fl_Ref_13 rfl dX8_request_64 ?_
              refine jj_aload_n C 0 dX8_request_67 rfl rfl ?_
              refine jj_geti C 0 5 in_Ref (rg_0 ) k_Ref (by decide) fl_Ref_119 rfl dX8_request_68 ?_
              refine jj_iload_n C 2 dX8_request_71 rfl rfl ?_
              refine jj_iast C 2 (rg_2 ) dX8_request_72 ?_
              refine jj_stn (fun σ6 => ?_)
              refine jj_aload_n C 0 dX8_request_73 rfl rfl ?_
              refine jj_getr C 0 8 in_Ref (rg_0 ) k_Ref (by decide) fl_Ref_16 rfl dX8_request_74 ?_
              refine jj_aload_n C 0 dX8_request_77 rfl rfl ?_
              refine jj_geti C 0 5 in_Ref (rg_0 ) k_Ref (by decide) fl_Ref_119 rfl dX8_request_78 ?_
              refine jj_iload_n C 3 dX8_request_81 rfl rfl ?_
              refine jj_zast C 3 (rg_3 ) dX8_request_82 ?_
              refine jj_stn (fun σ7 => ?_)
              refine jj_aload_n C 0 dX8_request_83 rfl rfl ?_
              refine jj_getr C 0 9 in_Ref (rg_0 ) k_Ref (by decide) fl_Ref_20 rfl dX8_request_84 ?_
              refine jj_aload_n C 0 dX8_request_87 rfl rfl ?_
              refine jj_geti C 0 5 in_Ref (rg_0 ) k_Ref (by decide) fl_Ref_119 rfl dX8_request_88 ?_
              refine jj_iload C 4 dX8_request_91 rfl ?_
              refine jj_iast C 4 (rg_4 ) dX8_request_93 ?_
              refine jj_stn (fun σ8 => ?_)
              refine jj_aload_n C 0 dX8_request_94 rfl rfl ?_
              refine jj_getr C 0 10 in_Ref (rg_0 ) k_Ref (by decide) fl_Ref_23 rfl dX8_request_95 ?_
              refine jj_aload_n C 0 dX8_request_98 rfl rfl ?_
              refine jj_geti C 0 5 in_Ref (rg_0 ) k_Ref (by decide) fl_Ref_119 rfl dX8_request_99 ?_
              refine jj_iload C 5 dX8_request_102 rfl ?_
              refine jj_iast C 5 (rg_5 ) dX8_request_104 ?_
              refine jj_stn (fun σ9 => ?_)
              refine jj_aload_n C 0 dX8_request_105 rfl rfl ?_
              refine jj_getr C 0 20 in_Ref (rg_0 ) k_Ref (by decide) fl_Ref_44 rfl dX8_request_106 ?_
              refine jj_iconst C (v := (4 : Int32)) dX8_request_109 (by decide) ?_
              refine jj_iload_n C 1 dX8_request_110 rfl rfl ?_
              refine jj_imul C dX8_request_111 ?_
              refine jj_aload_n C 0 dX8_request_112 rfl rfl ?_
              refine jj_getr C 0 19 in_Ref (rg_0 ) k_Ref (by decide) fl_Ref_41 rfl dX8_request_113 ?_
              refine jj_iload_n C 1 dX8_request_116 rfl rfl ?_
              refine jj_iald C 11 (rg_11 ) dX8_request_117 ?_
              refine jj_iadd C dX8_request_118 ?_
              refine jj_iconst C (v := (2 : Int32)) dX8_request_119 (by decide) ?_
              refine jj_aload_n C 0 dX8_request_120 rfl rfl ?_
              refine jj_geti C 0 5 in_Ref (rg_0 ) k_Ref (by decide) fl_Ref_119 rfl dX8_request_121 ?_
              refine jj_imul C dX8_request_124 ?_
              refine jj_iast C 12 (rg_12 ) dX8_request_125 ?_
              refine jj_stn (fun σ10 => ?_)
              refine jj_aload_n C 0 dX8_request_126 rfl rfl ?_
              refine jj_getr C 0 19 in_Ref (rg_0 ) k_Ref (by decide) fl_Ref_41 rfl dX8_request_127 ?_
              refine jj_iload_n C 1 dX8_request_130 rfl rfl ?_
              refine jj_dup2 C dX8_request_131 rfl rfl ?_
              refine jj_iald C 11 (rg_11 ) dX8_request_132 ?_
              refine jj_iconst C (v := (1 : Int32)) dX8_request_133 (by decide) ?_
              refine jj_iadd C dX8_request_134 ?_
              refine jj_iast C 11 (rg_11 ) dX8_request_135 ?_
              refine jj_stn (fun σ11 => ?_)
              refine jj_aload_n C 0 dX8_request_136 rfl rfl ?_
              refine jj_dup C dX8_request_137 rfl ?_
              refine jj_geti C 0 5 in_Ref (rg_0 ) k_Ref (by decide) fl_Ref_119 rfl dX8_request_138 ?_
              refine jj_iconst C (v := (1 : Int32)) dX8_request_141 (by decide) ?_
              refine jj_iadd C dX8_request_142 ?_
              refine jj_puti C 0 5 in_Ref (rg_0 ) k_Ref (by decide) fl_Ref_119 tyX8 tyX8_ok nmX8 rfl (by decide +kernel) rfl dX8_request_143 ?_
              refine jj_stn (fun σ12 => ?_)
              refine jj_aload_n C 0 dX8_request_146 rfl rfl ?_
              refine jj_geti C 0 5 in_Ref (rg_0 ) k_Ref (by decide) fl_Ref_119 rfl dX8_request_147 ?_
              refine jj_iconst C (v := (1 : Int32)) dX8_request_150 (by decide) ?_
              refine jj_isub C dX8_request_151 ?_
              exact jj_iret C hr hlocks dX8_request_152
            · refine jj_bipush C (v := (-2 : Int32)) dX8_request_50 (by decide) ?_
              exact jj_iret C hr hlocks dX8_request_52
        · refine jj_iconst C (v := (-1 : Int32)) dX8_request_28 (by decide) ?_
          exact jj_iret C hr hlocks dX8_request_29

set_option maxHeartbeats 4000000 in
set_option maxRecDepth 100000 in
theorem c_rRef_hold {l : Launch} {D : va_G} {ad : Nat → Nat} {cA : FieldType → ClassId} { F : Nat} {σ : jj_S} {a1 a2 : Int32} {z : (Int32 × jj_S)} (ho : f_rRef_hold  F σ a1 a2 = some z) : jj_Mi l yX8_hold (Cond.code yX8_hold cX8_hold 3 (some .boolean) :: jw_t) { frames := 1, cells := 0, slots := 0, locals := 40 } D vwCl ad cA (gm) [.ref (ad 0), .int a1, .int a2] σ z := by
  refine jj_ofi (cc := cX8_hold) (nL := 3) (ret := (some .boolean)) rfl ho (Nat.le_of_ble_eq_true rfl) ?_
  intro p e s m below meth c C hr hlocks
  generalize hA : va_A (jj_w ad cA (gm) σ) s.heap.size = A at C ⊢
  have hRm : 1 ≤ (headSpec (Cond.code yX8_hold cX8_hold 3 (some .boolean) :: jw_t) { frames := 1, cells := 0, slots := 0, locals := 40 }).room.frames ∧ 40 ≤ (headSpec (Cond.code yX8_hold cX8_hold 3 (some .boolean) :: jw_t) { frames := 1, cells := 0, slots := 0, locals := 40 }).room.locals := ⟨Nat.le_refl _, Nat.le_refl _⟩
  generalize (headSpec (Cond.code yX8_hold cX8_hold 3 (some .boolean) :: jw_t) { frames := 1, cells := 0, slots := 0, locals := 40 }).room = R at C hRm ⊢
  generalize List.toArray ([.ref (ad 0), .int a1, .int a2] : List Value) = args at C ⊢
  refine jj_sub (lv' := [(0, .ref (ad 0)), (1, .int a1), (2, .int a2)]) [0, 1, 2] rfl ?_
  unfold f_rRef_hold
  refine jj_aload_n C 0 dX8_hold_0 rfl rfl ?_
  refine jj_iload_n C 1 dX8_hold_1 rfl rfl ?_
  refine jj_callVi C (As := [.int a1]) (rest := []) (fun z hz => c_rRef_isNode hz) (q_Ref_111 C.2.2.2.2.1 (rm := { frames := 0, cells := 0, slots := 0, locals := 0 }) rfl rfl ⟨Nat.le_trans (by decide) hRm.1, Nat.le_trans (by decide) hRm.2⟩) (rg_0 ) k_Ref rfl rfl (Nat.le_of_ble_eq_true rfl) dX8_hold_2 (fun r2 σ1 _ => ?_)
  refine jj_if_ne C (tgt := 10) dX8_hold_5 (by decide) (fun _ => ?_) (fun _ => ?_)
  · refine jj_aload_n C 0 dX8_hold_10 rfl rfl ?_
    refine jj_getr C 0 18 in_Ref (rg_0 ) k_Ref (by decide) fl_Ref_38 rfl dX8_hold_11 ?_
    refine jj_iload_n C 1 dX8_hold_14 rfl rfl ?_
    refine jj_iload_n C 2 dX8_hold_15 rfl rfl ?_
    refine jj_zast C 10 (rg_10 ) dX8_hold_16 ?_
    refine jj_stn (fun σ3 => ?_)
    refine jj_iconst C (v := (1 : Int32)) dX8_hold_17 (by decide) ?_
    exact jj_zret C hr hlocks (by first | rfl | decide +kernel) dX8_hold_18
  · refine jj_iconst C (v := (0 : Int32)) dX8_hold_8 (by decide) ?_
    exact jj_zret C hr hlocks (by first | rfl | decide +kernel) dX8_hold_9

set_option maxHeartbeats 4000000 in
set_option maxRecDepth 100000 in
theorem l_rRef_arrive_2 {p : Program} {l : Launch} {e : Env} {R : Room} {s : State} {m : MethodId} {args : Array Value} {below : List Frame} {meth : Method} {c : Code} {D : va_G} {A : Nat → Prop} {ad : Nat → Nat} {cA : FieldType → ClassId} { F : Nat} (C : jj_C p R s m args c D vwCl A ad cA (gm) 2 0 0 cX8_arrive RX8 jw_t) (hr : meth.sig.returnType = none) (hlocks : meth.locks = false) (hRm : 0 ≤ R.frames ∧ 0 ≤ R.locals) {K : jj_S → Int32 → Option jj_S} (hK : ∀ (σ : jj_S) (x1 : Int32), jj_J p l e R s m args below meth c D vwCl A ad cA (gm) 2 0 0 (jj_Qv below D vwCl A ad cA (gm) args s 0 0) (K σ x1) σ 88 [(0, .ref (ad 0)), (1, .int x1)] []) : ∀ (k : Nat) (σ : jj_S) (x1 : Int32), jj_J p l e R s m args below meth c D vwCl A ad cA (gm) 2 0 0 (jj_Qv below D vwCl A ad cA (gm) args s 0 0) (jj_lp1 (b_rRef_arrive_2  F K) k σ x1) σ 2 [(0, .ref (ad 0)), (1, .int x1)] [] := by
  refine jj_loop1 (T := fun o σ x1 => jj_J p l e R s m args below meth c D vwCl A ad cA (gm) 2 0 0 (jj_Qv below D vwCl A ad cA (gm) args s 0 0) o σ 2 [(0, .ref (ad 0)), (1, .int x1)] []) (fun _ _ _ h => by cases h) ?_
  intro rec ih σ x1
  unfold b_rRef_arrive_2
  refine jj_iload_n C 1 dX8_arrive_2 rfl rfl ?_
  refine jj_sipush C (v := (216 : Int32)) dX8_arrive_3 (by decide) ?_
  refine jj_icmp_ge C (tgt := 88) dX8_arrive_6 (by decide) (fun _ => ?_) (fun _ => ?_)
  · refine jj_sub [0, 1] rfl ?_
    exact hK σ x1
  · refine jj_aload_n C 0 dX8_arrive_9 rfl rfl ?_
    refine jj_getr C 0 27 in_Ref (rg_0 ) k_Ref (by decide) fl_Ref_65 rfl dX8_arrive_10 ?_
    refine jj_iload_n C 1 dX8_arrive_13 rfl rfl ?_
    refine jj_iald C 19 (rg_19 ) dX8_arrive_14 ?_
    refine jj_if_lt C (tgt := 56) dX8_arrive_15 (by decide) (fun _ => ?_) (fun _ => ?_)
    · refine jj_aload_n C 0 dX8_arrive_56 rfl rfl ?_
      refine jj_getr C 0 28 in_Ref (rg_0 ) k_Ref (by decide) fl_Ref_68 rfl dX8_arrive_57 ?_
      refine jj_iload_n C 1 dX8_arrive_60 rfl rfl ?_
      refine jj_aload_n C 0 dX8_arrive_61 rfl rfl ?_
      refine jj_getr C 0 28 in_Ref (rg_0 ) k_Ref (by decide) fl_Ref_68 rfl dX8_arrive_62 ?_
      refine jj_iload_n C 1 dX8_arrive_65 rfl rfl ?_
      refine jj_iald C 20 (rg_20 ) dX8_arrive_66 ?_
      refine jj_aload_n C 0 dX8_arrive_67 rfl rfl ?_
      refine jj_getr C 0 29 in_Ref (rg_0 ) k_Ref (by decide) fl_Ref_71 rfl dX8_arrive_68 ?_
      refine jj_iload_n C 1 dX8_arrive_71 rfl rfl ?_
      refine jj_iald C 21 (rg_21 ) dX8_arrive_72 ?_
      refine jj_iadd C dX8_arrive_73 ?_
      refine jj_iast C 20 (rg_20 ) dX8_arrive_74 ?_
      refine jj_stn (fun σ1 => ?_)
      refine jj_aload_n C 0 dX8_arrive_75 rfl rfl ?_
      refine jj_getr C 0 29 in_Ref (rg_0 ) k_Ref (by decide) fl_Ref_71 rfl dX8_arrive_76 ?_
      refine jj_iload_n C 1 dX8_arrive_79 rfl rfl ?_
      refine jj_iconst C (v := (0 : Int32)) dX8_arrive_80 (by decide) ?_
      refine jj_iast C 21 (rg_21 ) dX8_arrive_81 ?_
      refine jj_stn (fun σ2 => ?_)
      refine jj_iinc C (v := x1 + (1 : Int32)) [(1, .int (x1 + (1 : Int32))), (0, .ref (ad 0))] 1 dX8_arrive_82 rfl rfl (by decide) rfl ?_
      refine jj_goto C (tgt := 2) dX8_arrive_85 (by decide) ?_
      refine jj_sub [1, 0] rfl ?_
      exact ih σ2 (x1 + (1 : Int32))
    · refine jj_aload_n C 0 dX8_arrive_18 rfl rfl ?_
      refine jj_getr C 0 26 in_Ref (rg_0 ) k_Ref (by decide) fl_Ref_62 rfl dX8_arrive_19 ?_
      refine jj_iconst C (v := (4 : Int32)) dX8_arrive_22 (by decide) ?_
      refine jj_iload_n C 1 dX8_arrive_23 rfl rfl ?_
      refine jj_imul C dX8_arrive_24 ?_
      refine jj_aload_n C 0 dX8_arrive_25 rfl rfl ?_
      refine jj_getr C 0 25 in_Ref (rg_0 ) k_Ref (by decide) fl_Ref_59 rfl dX8_arrive_26 ?_
      refine jj_iload_n C 1 dX8_arrive_29 rfl rfl ?_
      refine jj_iald C 17 (rg_17 ) dX8_arrive_30 ?_
      refine jj_iadd C dX8_arrive_31 ?_
      refine jj_aload_n C 0 dX8_arrive_32 rfl rfl ?_
      refine jj_getr C 0 27 in_Ref (rg_0 ) k_Ref (by decide) fl_Ref_65 rfl dX8_arrive_33 ?_
      refine jj_iload_n C 1 dX8_arrive_36 rfl rfl ?_
      refine jj_iald C 19 (rg_19 ) dX8_arrive_37 ?_
      refine jj_iast C 18 (rg_18 ) dX8_arrive_38 ?_
      refine jj_stn (fun σ3 => ?_)
      refine jj_aload_n C 0 dX8_arrive_39 rfl rfl ?_
      refine jj_getr C 0 25 in_Ref (rg_0 ) k_Ref (by decide) fl_Ref_59 rfl dX8_arrive_40 ?_
      refine jj_iload_n C 1 dX8_arrive_43 rfl rfl ?_
      refine jj_dup2 C dX8_arrive_44 rfl rfl ?_
      refine jj_iald C 17 (rg_17 ) dX8_arrive_45 ?_
      refine jj_iconst C (v := (1 : Int32)) dX8_arrive_46 (by decide) ?_
      refine jj_iadd C dX8_arrive_47 ?_
      refine jj_iast C 17 (rg_17 ) dX8_arrive_48 ?_
      refine jj_stn (fun σ4 => ?_)
      refine jj_aload_n C 0 dX8_arrive_49 rfl rfl ?_
      refine jj_getr C 0 27 in_Ref (rg_0 ) k_Ref (by decide) fl_Ref_65 rfl dX8_arrive_50 ?_
      refine jj_iload_n C 1 dX8_arrive_53 rfl rfl ?_
      refine jj_iconst C (v := (-1 : Int32)) dX8_arrive_54 (by decide) ?_
      refine jj_iast C 19 (rg_19 ) dX8_arrive_55 ?_
      refine jj_stn (fun σ5 => ?_)
      refine jj_aload_n C 0 dX8_arrive_56 rfl rfl ?_
      refine jj_getr C 0 28 in_Ref (rg_0 ) k_Ref (by decide) fl_Ref_68 rfl dX8_arrive_57 ?_
      refine jj_iload_n C 1 dX8_arrive_60 rfl rfl ?_
      refine jj_aload_n C 0 dX8_arrive_61 rfl rfl ?_
      refine jj_getr C 0 28 in_Ref (rg_0 ) k_Ref (by decide) fl_Ref_68 rfl dX8_arrive_62 ?_
      refine jj_iload_n C 1 dX8_arrive_65 rfl rfl ?_
      refine jj_iald C 20 (rg_20 ) dX8_arrive_66 ?_
      refine jj_aload_n C 0 dX8_arrive_67 rfl rfl ?_
      refine jj_getr C 0 29 in_Ref (rg_0 ) k_Ref (by decide) fl_Ref_71 rfl dX8_arrive_68 ?_
      refine jj_iload_n C 1 dX8_arrive_71 rfl rfl ?_
      refine jj_iald C 21 (rg_21 ) dX8_arrive_72 ?_
      refine jj_iadd C dX8_arrive_73 ?_
      refine jj_iast C 20 (rg_20 ) dX8_arrive_74 ?_
      refine jj_stn (fun σ6 => ?_)
      refine jj_aload_n C 0 dX8_arrive_75 rfl rfl ?_
      refine jj_getr C 0 29 in_Ref (rg_0 ) k_Ref (by decide) fl_Ref_71 rfl dX8_arrive_76 ?_
      refine jj_iload_n C 1 dX8_arrive_79 rfl rfl ?_
      refine jj_iconst C (v := (0 : Int32)) dX8_arrive_80 (by decide) ?_
      refine jj_iast C 21 (rg_21 ) dX8_arrive_81 ?_
      refine jj_stn (fun σ7 => ?_)
      refine jj_iinc C (v := x1 + (1 : Int32)) [(1, .int (x1 + (1 : Int32))), (0, .ref (ad 0))] 1 dX8_arrive_82 rfl rfl (by decide) rfl ?_
      refine jj_goto C (tgt := 2) dX8_arrive_85 (by decide) ?_
      refine jj_sub [1, 0] rfl ?_
      exact ih σ7 (x1 + (1 : Int32))

set_option maxHeartbeats 4000000 in
set_option maxRecDepth 100000 in
theorem c_rRef_arrive {l : Launch} {D : va_G} {ad : Nat → Nat} {cA : FieldType → ClassId} { F : Nat} {σ : jj_S} {z : jj_S} (ho : f_rRef_arrive  F σ = some z) : jj_Mv l yX8_arrive (Cond.code yX8_arrive cX8_arrive 2 none :: jw_t) { frames := 0, cells := 0, slots := 0, locals := 0 } D vwCl ad cA (gm) [.ref (ad 0)] σ z := by
  refine jj_ofv (cc := cX8_arrive) (nL := 2) (ret := none) rfl ho (Nat.le_of_ble_eq_true rfl) ?_
  intro p e s m below meth c C hr hlocks
  generalize hA : va_A (jj_w ad cA (gm) σ) s.heap.size = A at C ⊢
  have hRm : 0 ≤ (headSpec (Cond.code yX8_arrive cX8_arrive 2 none :: jw_t) { frames := 0, cells := 0, slots := 0, locals := 0 }).room.frames ∧ 0 ≤ (headSpec (Cond.code yX8_arrive cX8_arrive 2 none :: jw_t) { frames := 0, cells := 0, slots := 0, locals := 0 }).room.locals := ⟨Nat.le_refl _, Nat.le_refl _⟩
  generalize (headSpec (Cond.code yX8_arrive cX8_arrive 2 none :: jw_t) { frames := 0, cells := 0, slots := 0, locals := 0 }).room = R at C hRm ⊢
  generalize List.toArray ([.ref (ad 0)] : List Value) = args at C ⊢
  refine jj_sub (lv' := [(0, .ref (ad 0))]) [0] rfl ?_
  unfold f_rRef_arrive
  refine jj_iconst C (v := (0 : Int32)) dX8_arrive_0 (by decide) ?_
  refine jj_istore_n C [(1, .int (0 : Int32)), (0, .ref (ad 0))] dX8_arrive_1 rfl (by decide) rfl ?_
  refine jj_sub [1, 0] rfl ?_
  refine l_rRef_arrive_2 C hr hlocks hRm (fun σ8 x1_9 => ?_) F σ (0 : Int32)
  exact jj_vret C hr hlocks dX8_arrive_88

set_option maxHeartbeats 4000000 in
set_option maxRecDepth 100000 in
theorem c_rRef_length {l : Launch} {D : va_G} {ad : Nat → Nat} {cA : FieldType → ClassId} { F : Nat} {σ : jj_S} {a1 : Int32} {z : (Int32 × jj_S)} (ho : f_rRef_length  F σ a1 = some z) : jj_Mi l yX8_length (Cond.code yX8_length cX8_length 3 (some .int) :: jw_t) { frames := 0, cells := 0, slots := 0, locals := 0 } D vwCl ad cA (gm) [.ref (ad 0), .int a1] σ z := by
  refine jj_ofi (cc := cX8_length) (nL := 3) (ret := (some .int)) rfl ho (Nat.le_of_ble_eq_true rfl) ?_
  intro p e s m below meth c C hr hlocks
  generalize hA : va_A (jj_w ad cA (gm) σ) s.heap.size = A at C ⊢
  have hRm : 0 ≤ (headSpec (Cond.code yX8_length cX8_length 3 (some .int) :: jw_t) { frames := 0, cells := 0, slots := 0, locals := 0 }).room.frames ∧ 0 ≤ (headSpec (Cond.code yX8_length cX8_length 3 (some .int) :: jw_t) { frames := 0, cells := 0, slots := 0, locals := 0 }).room.locals := ⟨Nat.le_refl _, Nat.le_refl _⟩
  generalize (headSpec (Cond.code yX8_length cX8_length 3 (some .int) :: jw_t) { frames := 0, cells := 0, slots := 0, locals := 0 }).room = R at C hRm ⊢
  generalize List.toArray ([.ref (ad 0), .int a1] : List Value) = args at C ⊢
  refine jj_sub (lv' := [(0, .ref (ad 0)), (1, .int a1)]) [0, 1] rfl ?_
  unfold f_rRef_length
  refine jj_aload_n C 0 dX8_length_0 rfl rfl ?_
  refine jj_getr C 0 8 in_Ref (rg_0 ) k_Ref (by decide) fl_Ref_16 rfl dX8_length_1 ?_
  refine jj_iload_n C 1 dX8_length_4 rfl rfl ?_
  refine jj_iconst C (v := (2 : Int32)) dX8_length_5 (by decide) ?_
  refine jj_idiv C dX8_length_6 ?_
  refine jj_zald C 3 (rg_3 ) dX8_length_7 ?_
  refine jj_ltn (fun v2_1 => ?_)
  refine jj_istore_n C [(2, .int v2_1), (0, .ref (ad 0)), (1, .int a1)] dX8_length_8 rfl (by decide) rfl ?_
  refine jj_iload_n C 2 dX8_length_9 rfl rfl ?_
  refine jj_iconst C (v := (2 : Int32)) dX8_length_10 (by decide) ?_
  refine jj_irem C dX8_length_11 ?_
  refine jj_if_ne C (tgt := 27) dX8_length_12 (by decide) (fun _ => ?_) (fun _ => ?_)
  · refine jj_iload_n C 0 dX8_length_27 rfl rfl ?_
    refine jj_if_eq C (tgt := 35) dX8_length_28 (by decide) (fun _ => ?_) (fun _ => ?_)
    · refine jj_iconst C (v := (2 : Int32)) dX8_length_35 (by decide) ?_
      exact jj_iret C hr hlocks dX8_length_36
    · refine jj_iconst C (v := (1 : Int32)) dX8_length_31 (by decide) ?_
      refine jj_goto C (tgt := 36) dX8_length_32 (by decide) ?_
      exact jj_iret C hr hlocks dX8_length_36
  · refine jj_iload_n C 0 dX8_length_15 rfl rfl ?_
    refine jj_if_eq C (tgt := 23) dX8_length_16 (by decide) (fun _ => ?_) (fun _ => ?_)
    · refine jj_iconst C (v := (2 : Int32)) dX8_length_23 (by decide) ?_
      refine jj_goto C (tgt := 36) dX8_length_24 (by decide) ?_
      exact jj_iret C hr hlocks dX8_length_36
    · refine jj_iconst C (v := (3 : Int32)) dX8_length_19 (by decide) ?_
      refine jj_goto C (tgt := 36) dX8_length_20 (by decide) ?_
      exact jj_iret C hr hlocks dX8_length_36

set_option maxHeartbeats 4000000 in
set_option maxRecDepth 100000 in
theorem c_rRef_isLast {l : Launch} {D : va_G} {ad : Nat → Nat} {cA : FieldType → ClassId} { F : Nat} {σ : jj_S} {a1 : Int32} {z : (Int32 × jj_S)} (ho : f_rRef_isLast  F σ a1 = some z) : jj_Mi l yX8_isLast (Cond.code yX8_isLast cX8_isLast 2 (some .boolean) :: jw_t) { frames := 1, cells := 0, slots := 0, locals := 40 } D vwCl ad cA (gm) [.ref (ad 0), .int a1] σ z := by
  refine jj_ofi (cc := cX8_isLast) (nL := 2) (ret := (some .boolean)) rfl ho (Nat.le_of_ble_eq_true rfl) ?_
  intro p e s m below meth c C hr hlocks
  generalize hA : va_A (jj_w ad cA (gm) σ) s.heap.size = A at C ⊢
  have hRm : 1 ≤ (headSpec (Cond.code yX8_isLast cX8_isLast 2 (some .boolean) :: jw_t) { frames := 1, cells := 0, slots := 0, locals := 40 }).room.frames ∧ 40 ≤ (headSpec (Cond.code yX8_isLast cX8_isLast 2 (some .boolean) :: jw_t) { frames := 1, cells := 0, slots := 0, locals := 40 }).room.locals := ⟨Nat.le_refl _, Nat.le_refl _⟩
  generalize (headSpec (Cond.code yX8_isLast cX8_isLast 2 (some .boolean) :: jw_t) { frames := 1, cells := 0, slots := 0, locals := 40 }).room = R at C hRm ⊢
  generalize List.toArray ([.ref (ad 0), .int a1] : List Value) = args at C ⊢
  refine jj_sub (lv' := [(0, .ref (ad 0)), (1, .int a1)]) [0, 1] rfl ?_
  unfold f_rRef_isLast
  refine jj_iload_n C 1 dX8_isLast_0 rfl rfl ?_
  refine jj_iconst C (v := (4 : Int32)) dX8_isLast_1 (by decide) ?_
  refine jj_irem C dX8_isLast_2 ?_
  refine jj_aload_n C 0 dX8_isLast_3 rfl rfl ?_
  refine jj_iload_n C 1 dX8_isLast_4 rfl rfl ?_
  refine jj_iconst C (v := (4 : Int32)) dX8_isLast_5 (by decide) ?_
  refine jj_idiv C dX8_isLast_6 ?_
  refine jj_callVi C (As := [.int (a1 / (4 : Int32))]) (rest := [.int (a1 - a1 / (4 : Int32) * (4 : Int32))]) (fun z hz => c_rRef_length hz) (q_Ref_115 C.2.2.2.2.1 (rm := { frames := 0, cells := 0, slots := 0, locals := 0 }) rfl rfl ⟨Nat.le_trans (by decide) hRm.1, Nat.le_trans (by decide) hRm.2⟩) (rg_0 ) k_Ref rfl rfl (Nat.le_of_ble_eq_true rfl) dX8_isLast_7 (fun r2 σ1 _ => ?_)
  refine jj_iconst C (v := (1 : Int32)) dX8_isLast_10 (by decide) ?_
  refine jj_isub C dX8_isLast_11 ?_
  refine jj_icmp_ne C (tgt := 19) dX8_isLast_12 (by decide) (fun _ => ?_) (fun _ => ?_)
  · refine jj_iconst C (v := (0 : Int32)) dX8_isLast_19 (by decide) ?_
    exact jj_zret C hr hlocks (by first | rfl | decide +kernel) dX8_isLast_20
  · refine jj_iconst C (v := (1 : Int32)) dX8_isLast_15 (by decide) ?_
    refine jj_goto C (tgt := 20) dX8_isLast_16 (by decide) ?_
    exact jj_zret C hr hlocks (by first | rfl | decide +kernel) dX8_isLast_20

set_option maxHeartbeats 4000000 in
set_option maxRecDepth 100000 in
theorem l_rRef_take_21 {p : Program} {l : Launch} {e : Env} {R : Room} {s : State} {m : MethodId} {args : Array Value} {below : List Frame} {meth : Method} {c : Code} {D : va_G} {A : Nat → Prop} {ad : Nat → Nat} {cA : FieldType → ClassId} { F : Nat} (C : jj_C p R s m args c D vwCl A ad cA (gm) 4 0 0 cX8_take RX8 jw_t) (hr : meth.sig.returnType = (some .int)) (hlocks : meth.locks = false) (hRm : 0 ≤ R.frames ∧ 0 ≤ R.locals) {K : jj_S → Int32 → Int32 → Int32 → Option (Int32 × jj_S)} (hK : ∀ (σ : jj_S) (x1 x2 x3 : Int32), jj_J p l e R s m args below meth c D vwCl A ad cA (gm) 4 0 0 (jj_Qi below D vwCl A ad cA (gm) args s 0 0) (K σ x1 x2 x3) σ 59 [(0, .ref (ad 0)), (1, .int x1), (2, .int x2), (3, .int x3)] []) : ∀ (k : Nat) (σ : jj_S) (x1 x2 x3 : Int32), jj_J p l e R s m args below meth c D vwCl A ad cA (gm) 4 0 0 (jj_Qi below D vwCl A ad cA (gm) args s 0 0) (jj_lp3 (b_rRef_take_21  F K) k σ x1 x2 x3) σ 21 [(0, .ref (ad 0)), (1, .int x1), (2, .int x2), (3, .int x3)] [] := by
  refine jj_loop3 (T := fun o σ x1 x2 x3 => jj_J p l e R s m args below meth c D vwCl A ad cA (gm) 4 0 0 (jj_Qi below D vwCl A ad cA (gm) args s 0 0) o σ 21 [(0, .ref (ad 0)), (1, .int x1), (2, .int x2), (3, .int x3)] []) (fun _ _ _ _ _ h => by cases h) ?_
  intro rec ih σ x1 x2 x3
  unfold b_rRef_take_21
  refine jj_iload_n C 3 dX8_take_21 rfl rfl ?_
  refine jj_aload_n C 0 dX8_take_22 rfl rfl ?_
  refine jj_getr C 0 25 in_Ref (rg_0 ) k_Ref (by decide) fl_Ref_59 rfl dX8_take_23 ?_
  refine jj_iload_n C 1 dX8_take_26 rfl rfl ?_
  refine jj_iald C 17 (rg_17 ) dX8_take_27 ?_
  refine jj_icmp_ge C (tgt := 59) dX8_take_28 (by decide) (fun _ => ?_) (fun _ => ?_)
  · refine jj_sub [0, 1, 2, 3] rfl ?_
    exact hK σ x1 x2 x3
  · refine jj_aload_n C 0 dX8_take_31 rfl rfl ?_
    refine jj_getr C 0 26 in_Ref (rg_0 ) k_Ref (by decide) fl_Ref_62 rfl dX8_take_32 ?_
    refine jj_iconst C (v := (4 : Int32)) dX8_take_35 (by decide) ?_
    refine jj_iload_n C 1 dX8_take_36 rfl rfl ?_
    refine jj_imul C dX8_take_37 ?_
    refine jj_iload_n C 3 dX8_take_38 rfl rfl ?_
    refine jj_iadd C dX8_take_39 ?_
    refine jj_aload_n C 0 dX8_take_40 rfl rfl ?_
    refine jj_getr C 0 26 in_Ref (rg_0 ) k_Ref (by decide) fl_Ref_62 rfl dX8_take_41 ?_
    refine jj_iconst C (v := (4 : Int32)) dX8_take_44 (by decide) ?_
    refine jj_iload_n C 1 dX8_take_45 rfl rfl ?_
    refine jj_imul C dX8_take_46 ?_
    refine jj_iload_n C 3 dX8_take_47 rfl rfl ?_
    refine jj_iadd C dX8_take_48 ?_
    refine jj_iconst C (v := (1 : Int32)) dX8_take_49 (by decide) ?_
    refine jj_iadd C dX8_take_50 ?_
    refine jj_iald C 18 (rg_18 ) dX8_take_51 ?_
    refine jj_iast C 18 (rg_18 ) dX8_take_52 ?_
    refine jj_stn (fun σ3 => ?_)
    refine jj_iinc C (v := x3 + (1 : Int32)) [(3, .int (x3 + (1 : Int32))), (0, .ref (ad 0)), (1, .int x1), (2, .int x2)] 3 dX8_take_53 rfl rfl (by decide) rfl ?_
    refine jj_goto C (tgt := 21) dX8_take_56 (by decide) ?_
    refine jj_sub [1, 2, 3, 0] rfl ?_
    exact ih σ3 x1 x2 (x3 + (1 : Int32))

set_option maxHeartbeats 4000000 in
set_option maxRecDepth 100000 in
theorem c_rRef_take {l : Launch} {D : va_G} {ad : Nat → Nat} {cA : FieldType → ClassId} { F : Nat} {σ : jj_S} {a1 : Int32} {z : (Int32 × jj_S)} (ho : f_rRef_take  F σ a1 = some z) : jj_Mi l yX8_take (Cond.code yX8_take cX8_take 4 (some .int) :: jw_t) { frames := 0, cells := 0, slots := 0, locals := 0 } D vwCl ad cA (gm) [.ref (ad 0), .int a1] σ z := by
  refine jj_ofi (cc := cX8_take) (nL := 4) (ret := (some .int)) rfl ho (Nat.le_of_ble_eq_true rfl) ?_
  intro p e s m below meth c C hr hlocks
  generalize hA : va_A (jj_w ad cA (gm) σ) s.heap.size = A at C ⊢
  have hRm : 0 ≤ (headSpec (Cond.code yX8_take cX8_take 4 (some .int) :: jw_t) { frames := 0, cells := 0, slots := 0, locals := 0 }).room.frames ∧ 0 ≤ (headSpec (Cond.code yX8_take cX8_take 4 (some .int) :: jw_t) { frames := 0, cells := 0, slots := 0, locals := 0 }).room.locals := ⟨Nat.le_refl _, Nat.le_refl _⟩
  generalize (headSpec (Cond.code yX8_take cX8_take 4 (some .int) :: jw_t) { frames := 0, cells := 0, slots := 0, locals := 0 }).room = R at C hRm ⊢
  generalize List.toArray ([.ref (ad 0), .int a1] : List Value) = args at C ⊢
  refine jj_sub (lv' := [(0, .ref (ad 0)), (1, .int a1)]) [0, 1] rfl ?_
  unfold f_rRef_take
  refine jj_aload_n C 0 dX8_take_0 rfl rfl ?_
  refine jj_getr C 0 26 in_Ref (rg_0 ) k_Ref (by decide) fl_Ref_62 rfl dX8_take_1 ?_
  refine jj_iconst C (v := (4 : Int32)) dX8_take_4 (by decide) ?_
  refine jj_iload_n C 1 dX8_take_5 rfl rfl ?_
  refine jj_imul C dX8_take_6 ?_
  refine jj_iald C 18 (rg_18 ) dX8_take_7 ?_
  refine jj_ltn (fun v2_1 => ?_)
  refine jj_istore_n C [(2, .int v2_1), (0, .ref (ad 0)), (1, .int a1)] dX8_take_8 rfl (by decide) rfl ?_
  refine jj_aload_n C 1 dX8_take_9 rfl rfl ?_
  refine jj_getr C 0 25 in_Ref (rg_0 ) k_Ref (by decide) fl_Ref_59 rfl dX8_take_10 ?_
  refine jj_iload_n C 2 dX8_take_13 rfl rfl ?_
  refine jj_dup2 C dX8_take_14 rfl rfl ?_
  refine jj_iald C 17 (rg_17 ) dX8_take_15 ?_
  refine jj_iconst C (v := (1 : Int32)) dX8_take_16 (by decide) ?_
  refine jj_isub C dX8_take_17 ?_
  refine jj_iast C 17 (rg_17 ) dX8_take_18 ?_
  refine jj_stn (fun σ2 => ?_)
  refine jj_iconst C (v := (0 : Int32)) dX8_take_19 (by decide) ?_
  refine jj_istore_n C [(3, .int (0 : Int32)), (2, .int v2_1), (0, .ref (ad 0)), (1, .int a1)] dX8_take_20 rfl (by decide) rfl ?_
  refine jj_sub [2, 3, 1, 0] rfl ?_
  refine l_rRef_take_21 C hr hlocks hRm (fun σ4 x1_5 x2_6 x3_7 => ?_) F σ2 a1 v2_1 (0 : Int32)
  refine jj_aload_n C 0 dX8_take_59 rfl rfl ?_
  refine jj_getr C 0 29 in_Ref (rg_0 ) k_Ref (by decide) fl_Ref_71 rfl dX8_take_60 ?_
  refine jj_iload_n C 1 dX8_take_63 rfl rfl ?_
  refine jj_dup2 C dX8_take_64 rfl rfl ?_
  refine jj_iald C 21 (rg_21 ) dX8_take_65 ?_
  refine jj_iconst C (v := (1 : Int32)) dX8_take_66 (by decide) ?_
  refine jj_iadd C dX8_take_67 ?_
  refine jj_iast C 21 (rg_21 ) dX8_take_68 ?_
  refine jj_stn (fun σ8 => ?_)
  refine jj_iload_n C 2 dX8_take_69 rfl rfl ?_
  exact jj_iret C hr hlocks dX8_take_70

set_option maxHeartbeats 4000000 in
set_option maxRecDepth 100000 in
theorem c_rRef_takeAt {l : Launch} {D : va_G} {ad : Nat → Nat} {cA : FieldType → ClassId} { F : Nat} {σ : jj_S} {a1 a2 : Int32} {z : jj_S} (ho : f_rRef_takeAt  F σ a1 a2 = some z) : jj_Mv l yX8_takeAt (Cond.code yX8_takeAt cX8_takeAt 10 none :: jw_t) { frames := 2, cells := 0, slots := 0, locals := 80 } D vwCl ad cA (gm) [.ref (ad 0), .int a1, .int a2] σ z := by
  refine jj_ofv (cc := cX8_takeAt) (nL := 10) (ret := none) rfl ho (Nat.le_of_ble_eq_true rfl) ?_
  intro p e s m below meth c C hr hlocks
  generalize hA : va_A (jj_w ad cA (gm) σ) s.heap.size = A at C ⊢
  have hRm : 2 ≤ (headSpec (Cond.code yX8_takeAt cX8_takeAt 10 none :: jw_t) { frames := 2, cells := 0, slots := 0, locals := 80 }).room.frames ∧ 80 ≤ (headSpec (Cond.code yX8_takeAt cX8_takeAt 10 none :: jw_t) { frames := 2, cells := 0, slots := 0, locals := 80 }).room.locals := ⟨Nat.le_refl _, Nat.le_refl _⟩
  generalize (headSpec (Cond.code yX8_takeAt cX8_takeAt 10 none :: jw_t) { frames := 2, cells := 0, slots := 0, locals := 80 }).room = R at C hRm ⊢
  generalize List.toArray ([.ref (ad 0), .int a1, .int a2] : List Value) = args at C ⊢
  refine jj_sub (lv' := [(0, .ref (ad 0)), (1, .int a1), (2, .int a2)]) [0, 1, 2] rfl ?_
  unfold f_rRef_takeAt
  refine jj_sipush C (v := (180 : Int32)) dX8_takeAt_0 (by decide) ?_
  refine jj_iconst C (v := (4 : Int32)) dX8_takeAt_3 (by decide) ?_
  refine jj_iload_n C 1 dX8_takeAt_4 rfl rfl ?_
  refine jj_imul C dX8_takeAt_5 ?_
  refine jj_iadd C dX8_takeAt_6 ?_
  refine jj_iload_n C 2 dX8_takeAt_7 rfl rfl ?_
  refine jj_iadd C dX8_takeAt_8 ?_
  refine jj_ltn (fun v3_1 => ?_)
  refine jj_istore_n C [(3, .int v3_1), (0, .ref (ad 0)), (1, .int a1), (2, .int a2)] dX8_takeAt_9 rfl (by decide) rfl ?_
  refine jj_aload_n C 1 dX8_takeAt_10 rfl rfl ?_
  refine jj_getr C 0 25 in_Ref (rg_0 ) k_Ref (by decide) fl_Ref_59 rfl dX8_takeAt_11 ?_
  refine jj_iload_n C 0 dX8_takeAt_14 rfl rfl ?_
  refine jj_iald C 17 (rg_17 ) dX8_takeAt_15 ?_
  refine jj_if_ne C (tgt := 20) dX8_takeAt_16 (by decide) (fun _ => ?_) (fun _ => ?_)
  · refine jj_aload_n C 1 dX8_takeAt_20 rfl rfl ?_
    refine jj_getr C 0 26 in_Ref (rg_0 ) k_Ref (by decide) fl_Ref_62 rfl dX8_takeAt_21 ?_
    refine jj_iconst C (v := (4 : Int32)) dX8_takeAt_24 (by decide) ?_
    refine jj_iload_n C 0 dX8_takeAt_25 rfl rfl ?_
    refine jj_imul C dX8_takeAt_26 ?_
    refine jj_iald C 18 (rg_18 ) dX8_takeAt_27 ?_
    refine jj_ltn (fun v4_2 => ?_)
    refine jj_istore C [(4, .int v4_2), (3, .int v3_1), (0, .ref (ad 0)), (1, .int a1), (2, .int a2)] dX8_takeAt_28 (by decide) rfl ?_
    refine jj_iload C 0 dX8_takeAt_30 rfl ?_
    refine jj_iconst C (v := (4 : Int32)) dX8_takeAt_32 (by decide) ?_
    refine jj_idiv C dX8_takeAt_33 ?_
    refine jj_ltn (fun v5_3 => ?_)
    refine jj_istore C [(5, .int v5_3), (4, .int v4_2), (3, .int v3_1), (0, .ref (ad 0)), (1, .int a1), (2, .int a2)] dX8_takeAt_34 (by decide) rfl ?_
    refine jj_aload_n C 3 dX8_takeAt_36 rfl rfl ?_
    refine jj_iload C 1 dX8_takeAt_37 rfl ?_
    refine jj_callVi C (As := [.int v4_2]) (rest := []) (fun z hz => c_rRef_isLast hz) (q_Ref_125 C.2.2.2.2.1 (rm := { frames := 1, cells := 0, slots := 0, locals := 40 }) rfl rfl ⟨Nat.le_trans (by decide) hRm.1, Nat.le_trans (by decide) hRm.2⟩) (rg_0 ) k_Ref rfl rfl (Nat.le_of_ble_eq_true rfl) dX8_takeAt_39 (fun r5 σ4 _ => ?_)
    refine jj_istore C [(6, .int r5), (5, .int v5_3), (4, .int v4_2), (3, .int v3_1), (0, .ref (ad 0)), (1, .int a1), (2, .int a2)] dX8_takeAt_42 (by decide) rfl ?_
    refine jj_iload C 0 dX8_takeAt_44 rfl ?_
    refine jj_if_eq C (tgt := 76) dX8_takeAt_46 (by decide) (fun _ => ?_) (fun _ => ?_)
    · refine jj_aload_n C 4 dX8_takeAt_76 rfl rfl ?_
      refine jj_iload_n C 3 dX8_takeAt_77 rfl rfl ?_
      refine jj_callVi C (As := [.int v3_1]) (rest := []) (fun z hz => c_rRef_take hz) (q_Ref_128 C.2.2.2.2.1 (rm := { frames := 0, cells := 0, slots := 0, locals := 0 }) rfl rfl ⟨Nat.le_trans (by decide) hRm.1, Nat.le_trans (by decide) hRm.2⟩) (rg_0 ) k_Ref rfl rfl (Nat.le_of_ble_eq_true rfl) dX8_takeAt_78 (fun r7 σ6 _ => ?_)
      refine jj_istore C [(7, .int r7), (6, .int r5), (5, .int v5_3), (4, .int v4_2), (3, .int v3_1), (0, .ref (ad 0)), (1, .int a1), (2, .int a2)] dX8_takeAt_81 (by decide) rfl ?_
      refine jj_iload C 2 dX8_takeAt_83 rfl ?_
      refine jj_iconst C (v := (2 : Int32)) dX8_takeAt_85 (by decide) ?_
      refine jj_idiv C dX8_takeAt_86 ?_
      refine jj_ltn (fun v8_8 => ?_)
      refine jj_istore C [(8, .int v8_8), (7, .int r7), (6, .int r5), (5, .int v5_3), (4, .int v4_2), (3, .int v3_1), (0, .ref (ad 0)), (1, .int a1), (2, .int a2)] dX8_takeAt_87 (by decide) rfl ?_
      refine jj_iload C 2 dX8_takeAt_89 rfl ?_
      refine jj_if_eq C (tgt := 139) dX8_takeAt_91 (by decide) (fun _ => ?_) (fun _ => ?_)
      · refine jj_iload C 2 dX8_takeAt_139 rfl ?_
        refine jj_if_eq C (tgt := 235) dX8_takeAt_141 (by decide) (fun _ => ?_) (fun _ => ?_)
        · exact jj_vret C hr hlocks dX8_takeAt_235
        · refine jj_bipush C (v := (8 : Int32)) dX8_takeAt_144 (by decide) ?_
          refine jj_iload_n C 7 dX8_takeAt_146 rfl rfl ?_
          refine jj_imul C dX8_takeAt_147 ?_
          refine jj_aload_n C 6 dX8_takeAt_148 rfl rfl ?_
          refine jj_getr C 0 9 in_Ref (rg_0 ) k_Ref (by decide) fl_Ref_20 rfl dX8_takeAt_149 ?_
          refine jj_iload C 0 dX8_takeAt_152 rfl ?_
          refine jj_iald C 4 (rg_4 ) dX8_takeAt_154 ?_
          refine jj_iadd C dX8_takeAt_155 ?_
          refine jj_ltn (fun v9_9 => ?_)
          refine jj_istore C [(9, .int v9_9), (8, .int v8_8), (7, .int r7), (6, .int r5), (5, .int v5_3), (4, .int v4_2), (3, .int v3_1), (0, .ref (ad 0)), (1, .int a1), (2, .int a2)] dX8_takeAt_156 (by decide) rfl ?_
          refine jj_aload_n C 7 dX8_takeAt_158 rfl rfl ?_
          refine jj_getr C 0 11 in_Ref (rg_0 ) k_Ref (by decide) fl_Ref_26 rfl dX8_takeAt_159 ?_
          refine jj_iload C 1 dX8_takeAt_162 rfl ?_
          refine jj_aload_n C 7 dX8_takeAt_164 rfl rfl ?_
          refine jj_getr C 0 17 in_Ref (rg_0 ) k_Ref (by decide) fl_Ref_35 rfl dX8_takeAt_165 ?_
          refine jj_iload C 0 dX8_takeAt_168 rfl ?_
          refine jj_iald C 9 (rg_9 ) dX8_takeAt_170 ?_
          refine jj_iast C 6 (rg_6 ) dX8_takeAt_171 ?_
          refine jj_stn (fun σ10 => ?_)
          refine jj_aload_n C 7 dX8_takeAt_172 rfl rfl ?_
          refine jj_getr C 0 17 in_Ref (rg_0 ) k_Ref (by decide) fl_Ref_35 rfl dX8_takeAt_173 ?_
          refine jj_iload C 0 dX8_takeAt_176 rfl ?_
          refine jj_aload_n C 7 dX8_takeAt_178 rfl rfl ?_
          refine jj_getr C 0 8 in_Ref (rg_0 ) k_Ref (by decide) fl_Ref_16 rfl dX8_takeAt_179 ?_
          refine jj_iload C 1 dX8_takeAt_182 rfl ?_
          refine jj_zald C 3 (rg_3 ) dX8_takeAt_184 ?_
          refine jj_if_eq C (tgt := 198) dX8_takeAt_185 (by decide) (fun _ => ?_) (fun _ => ?_)
          · refine jj_aload_n C 7 dX8_takeAt_198 rfl rfl ?_
            refine jj_getr C 0 17 in_Ref (rg_0 ) k_Ref (by decide) fl_Ref_35 rfl dX8_takeAt_199 ?_
            refine jj_iload C 0 dX8_takeAt_202 rfl ?_
            refine jj_iald C 9 (rg_9 ) dX8_takeAt_204 ?_
            refine jj_iast C 9 (rg_9 ) dX8_takeAt_205 ?_
            refine jj_stn (fun σ11 => ?_)
            refine jj_aload_n C 7 dX8_takeAt_206 rfl rfl ?_
            refine jj_getr C 0 23 in_Ref (rg_0 ) k_Ref (by decide) fl_Ref_53 rfl dX8_takeAt_207 ?_
            refine jj_iconst C (v := (2 : Int32)) dX8_takeAt_210 (by decide) ?_
            refine jj_iload_n C 8 dX8_takeAt_211 rfl rfl ?_
            refine jj_imul C dX8_takeAt_212 ?_
            refine jj_aload_n C 7 dX8_takeAt_213 rfl rfl ?_
            refine jj_getr C 0 22 in_Ref (rg_0 ) k_Ref (by decide) fl_Ref_50 rfl dX8_takeAt_214 ?_
            refine jj_iload_n C 8 dX8_takeAt_217 rfl rfl ?_
            refine jj_iald C 14 (rg_14 ) dX8_takeAt_218 ?_
            refine jj_iadd C dX8_takeAt_219 ?_
            refine jj_iload C 4 dX8_takeAt_220 rfl ?_
            refine jj_iconst C (v := (1 : Int32)) dX8_takeAt_222 (by decide) ?_
            refine jj_iadd C dX8_takeAt_223 ?_
            refine jj_iast C 15 (rg_15 ) dX8_takeAt_224 ?_
            refine jj_stn (fun σ12 => ?_)
            refine jj_aload_n C 7 dX8_takeAt_225 rfl rfl ?_
            refine jj_getr C 0 22 in_Ref (rg_0 ) k_Ref (by decide) fl_Ref_50 rfl dX8_takeAt_226 ?_
            refine jj_iload_n C 8 dX8_takeAt_229 rfl rfl ?_
            refine jj_dup2 C dX8_takeAt_230 rfl rfl ?_
            refine jj_iald C 14 (rg_14 ) dX8_takeAt_231 ?_
            refine jj_iconst C (v := (1 : Int32)) dX8_takeAt_232 (by decide) ?_
            refine jj_iadd C dX8_takeAt_233 ?_
            refine jj_iast C 14 (rg_14 ) dX8_takeAt_234 ?_
            refine jj_stn (fun σ13 => ?_)
            exact jj_vret C hr hlocks dX8_takeAt_235
          · refine jj_aload_n C 7 dX8_takeAt_188 rfl rfl ?_
            refine jj_getr C 0 10 in_Ref (rg_0 ) k_Ref (by decide) fl_Ref_23 rfl dX8_takeAt_189 ?_
            refine jj_iload C 1 dX8_takeAt_192 rfl ?_
            refine jj_iald C 5 (rg_5 ) dX8_takeAt_194 ?_
            refine jj_goto C (tgt := 205) dX8_takeAt_195 (by decide) ?_
            refine jj_iast C 9 (rg_9 ) dX8_takeAt_205 ?_
            refine jj_stn (fun σ14 => ?_)
            refine jj_aload_n C 7 dX8_takeAt_206 rfl rfl ?_
            refine jj_getr C 0 23 in_Ref (rg_0 ) k_Ref (by decide) fl_Ref_53 rfl dX8_takeAt_207 ?_
            refine jj_iconst C (v := (2 : Int32)) dX8_takeAt_210 (by decide) ?_
            refine jj_iload_n C 8 dX8_takeAt_211 rfl rfl ?_
            refine jj_imul C dX8_takeAt_212 ?_
            refine jj_aload_n C 7 dX8_takeAt_213 rfl rfl ?_
            refine jj_getr C 0 22 in_Ref (rg_0 ) k_Ref (by decide) fl_Ref_50 rfl dX8_takeAt_214 ?_
            refine jj_iload_n C 8 dX8_takeAt_217 rfl rfl ?_
            refine jj_iald C 14 (rg_14 ) dX8_takeAt_218 ?_
            refine jj_iadd C dX8_takeAt_219 ?_
            refine jj_iload C 4 dX8_takeAt_220 rfl ?_
            refine jj_iconst C (v := (1 : Int32)) dX8_takeAt_222 (by decide) ?_
            refine jj_iadd C dX8_takeAt_223 ?_
            refine jj_iast C 15 (rg_15 ) dX8_takeAt_224 ?_
            refine jj_stn (fun σ15 => ?_)
            refine jj_aload_n C 7 dX8_takeAt_225 rfl rfl ?_
            refine jj_getr C 0 22 in_Ref (rg_0 ) k_Ref (by decide) fl_Ref_50 rfl dX8_takeAt_226 ?_
            refine jj_iload_n C 8 dX8_takeAt_229 rfl rfl ?_
            refine jj_dup2 C dX8_takeAt_230 rfl rfl ?_
            refine jj_iald C 14 (rg_14 ) dX8_takeAt_231 ?_
            refine jj_iconst C (v := (1 : Int32)) dX8_takeAt_232 (by decide) ?_
            refine jj_iadd C dX8_takeAt_233 ?_
            refine jj_iast C 14 (rg_14 ) dX8_takeAt_234 ?_
            refine jj_stn (fun σ16 => ?_)
            exact jj_vret C hr hlocks dX8_takeAt_235
      · refine jj_iload C 3 dX8_takeAt_94 rfl ?_
        refine jj_iconst C (v := (2 : Int32)) dX8_takeAt_96 (by decide) ?_
        refine jj_irem C dX8_takeAt_97 ?_
        refine jj_iconst C (v := (1 : Int32)) dX8_takeAt_98 (by decide) ?_
        refine jj_icmp_ne C (tgt := 139) dX8_takeAt_99 (by decide) (fun _ => ?_) (fun _ => ?_)
        · refine jj_iload C 2 dX8_takeAt_139 rfl ?_
          refine jj_if_eq C (tgt := 235) dX8_takeAt_141 (by decide) (fun _ => ?_) (fun _ => ?_)
          · exact jj_vret C hr hlocks dX8_takeAt_235
          · refine jj_bipush C (v := (8 : Int32)) dX8_takeAt_144 (by decide) ?_
            refine jj_iload_n C 7 dX8_takeAt_146 rfl rfl ?_
            refine jj_imul C dX8_takeAt_147 ?_
            refine jj_aload_n C 6 dX8_takeAt_148 rfl rfl ?_
            refine jj_getr C 0 9 in_Ref (rg_0 ) k_Ref (by decide) fl_Ref_20 rfl dX8_takeAt_149 ?_
            refine jj_iload C 0 dX8_takeAt_152 rfl ?_
            refine jj_iald C 4 (rg_4 ) dX8_takeAt_154 ?_
            refine jj_iadd C dX8_takeAt_155 ?_
            refine jj_ltn (fun v9_17 => ?_)
            refine jj_istore C [(9, .int v9_17), (8, .int v8_8), (7, .int r7), (6, .int r5), (5, .int v5_3), (4, .int v4_2), (3, .int v3_1), (0, .ref (ad 0)), (1, .int a1), (2, .int a2)] dX8_takeAt_156 (by decide) rfl ?_
            refine jj_aload_n C 7 dX8_takeAt_158 rfl rfl ?_
            refine jj_getr C 0 11 in_Ref (rg_0 ) k_Ref (by decide) fl_Ref_26 rfl dX8_takeAt_159 ?_
            refine jj_iload C 1 dX8_takeAt_162 rfl ?_
            refine jj_aload_n C 7 dX8_takeAt_164 rfl rfl ?_
            refine jj_getr C 0 17 in_Ref (rg_0 ) k_Ref (by decide) fl_Ref_35 rfl dX8_takeAt_165 ?_
            refine jj_iload C 0 dX8_takeAt_168 rfl ?_
            refine jj_iald C 9 (rg_9 ) dX8_takeAt_170 ?_
            refine jj_iast C 6 (rg_6 ) dX8_takeAt_171 ?_
            refine jj_stn (fun σ18 => ?_)
            refine jj_aload_n C 7 dX8_takeAt_172 rfl rfl ?_
            refine jj_getr C 0 17 in_Ref (rg_0 ) k_Ref (by decide) fl_Ref_35 rfl dX8_takeAt_173 ?_
            refine jj_iload C 0 dX8_takeAt_176 rfl ?_
            refine jj_aload_n C 7 dX8_takeAt_178 rfl rfl ?_
            refine jj_getr C 0 8 in_Ref (rg_0 ) k_Ref (by decide) fl_Ref_16 rfl dX8_takeAt_179 ?_
            refine jj_iload C 1 dX8_takeAt_182 rfl ?_
            refine jj_zald C 3 (rg_3 ) dX8_takeAt_184 ?_
            refine jj_if_eq C (tgt := 198) dX8_takeAt_185 (by decide) (fun _ => ?_) (fun _ => ?_)
            · refine jj_aload_n C 7 dX8_takeAt_198 rfl rfl ?_
              refine jj_getr C 0 17 in_Ref (rg_0 ) k_Ref (by decide) fl_Ref_35 rfl dX8_takeAt_199 ?_
              refine jj_iload C 0 dX8_takeAt_202 rfl ?_
              refine jj_iald C 9 (rg_9 ) dX8_takeAt_204 ?_
              refine jj_iast C 9 (rg_9 ) dX8_takeAt_205 ?_
              refine jj_stn (fun σ19 => ?_)
              refine jj_aload_n C 7 dX8_takeAt_206 rfl rfl ?_
              refine jj_getr C 0 23 in_Ref (rg_0 ) k_Ref (by decide) fl_Ref_53 rfl dX8_takeAt_207 ?_
              refine jj_iconst C (v := (2 : Int32)) dX8_takeAt_210 (by decide) ?_
              refine jj_iload_n C 8 dX8_takeAt_211 rfl rfl ?_
              refine jj_imul C dX8_takeAt_212 ?_
              refine jj_aload_n C 7 dX8_takeAt_213 rfl rfl ?_
              refine jj_getr C 0 22 in_Ref (rg_0 ) k_Ref (by decide) fl_Ref_50 rfl dX8_takeAt_214 ?_
              refine jj_iload_n C 8 dX8_takeAt_217 rfl rfl ?_
              refine jj_iald C 14 (rg_14 ) dX8_takeAt_218 ?_
              refine jj_iadd C dX8_takeAt_219 ?_
              refine jj_iload C 4 dX8_takeAt_220 rfl ?_
              refine jj_iconst C (v := (1 : Int32)) dX8_takeAt_222 (by decide) ?_
              refine jj_iadd C dX8_takeAt_223 ?_
              refine jj_iast C 15 (rg_15 ) dX8_takeAt_224 ?_
              refine jj_stn (fun σ20 => ?_)
              refine jj_aload_n C 7 dX8_takeAt_225 rfl rfl ?_
              refine jj_getr C 0 22 in_Ref (rg_0 ) k_Ref (by decide) fl_Ref_50 rfl dX8_takeAt_226 ?_
              refine jj_iload_n C 8 dX8_takeAt_229 rfl rfl ?_
              refine jj_dup2 C dX8_takeAt_230 rfl rfl ?_
              refine jj_iald C 14 (rg_14 ) dX8_takeAt_231 ?_
              refine jj_iconst C (v := (1 : Int32)) dX8_takeAt_232 (by decide) ?_
              refine jj_iadd C dX8_takeAt_233 ?_
              refine jj_iast C 14 (rg_14 ) dX8_takeAt_234 ?_
              refine jj_stn (fun σ21 => ?_)
              exact jj_vret C hr hlocks dX8_takeAt_235
            · refine jj_aload_n C 7 dX8_takeAt_188 rfl rfl ?_
              refine jj_getr C 0 10 in_Ref (rg_0 ) k_Ref (by decide) fl_Ref_23 rfl dX8_takeAt_189 ?_
              refine jj_iload C 1 dX8_takeAt_192 rfl ?_
              refine jj_iald C 5 (rg_5 ) dX8_takeAt_194 ?_
              refine jj_goto C (tgt := 205) dX8_takeAt_195 (by decide) ?_
              refine jj_iast C 9 (rg_9 ) dX8_takeAt_205 ?_
              refine jj_stn (fun σ22 => ?_)
              refine jj_aload_n C 7 dX8_takeAt_206 rfl rfl ?_
              refine jj_getr C 0 23 in_Ref (rg_0 ) k_Ref (by decide) fl_Ref_53 rfl dX8_takeAt_207 ?_
              refine jj_iconst C (v := (2 : Int32)) dX8_takeAt_210 (by decide) ?_
              refine jj_iload_n C 8 dX8_takeAt_211 rfl rfl ?_
              refine jj_imul C dX8_takeAt_212 ?_
              refine jj_aload_n C 7 dX8_takeAt_213 rfl rfl ?_
              refine jj_getr C 0 22 in_Ref (rg_0 ) k_Ref (by decide) fl_Ref_50 rfl dX8_takeAt_214 ?_
              refine jj_iload_n C 8 dX8_takeAt_217 rfl rfl ?_
              refine jj_iald C 14 (rg_14 ) dX8_takeAt_218 ?_
              refine jj_iadd C dX8_takeAt_219 ?_
              refine jj_iload C 4 dX8_takeAt_220 rfl ?_
              refine jj_iconst C (v := (1 : Int32)) dX8_takeAt_222 (by decide) ?_
              refine jj_iadd C dX8_takeAt_223 ?_
              refine jj_iast C 15 (rg_15 ) dX8_takeAt_224 ?_
              refine jj_stn (fun σ23 => ?_)
              refine jj_aload_n C 7 dX8_takeAt_225 rfl rfl ?_
              refine jj_getr C 0 22 in_Ref (rg_0 ) k_Ref (by decide) fl_Ref_50 rfl dX8_takeAt_226 ?_
              refine jj_iload_n C 8 dX8_takeAt_229 rfl rfl ?_
              refine jj_dup2 C dX8_takeAt_230 rfl rfl ?_
              refine jj_iald C 14 (rg_14 ) dX8_takeAt_231 ?_
              refine jj_iconst C (v := (1 : Int32)) dX8_takeAt_232 (by decide) ?_
              refine jj_iadd C dX8_takeAt_233 ?_
              refine jj_iast C 14 (rg_14 ) dX8_takeAt_234 ?_
              refine jj_stn (fun σ24 => ?_)
              exact jj_vret C hr hlocks dX8_takeAt_235
        · refine jj_aload_n C 6 dX8_takeAt_102 rfl rfl ?_
          refine jj_getr C 0 13 in_Ref (rg_0 ) k_Ref (by decide) fl_Ref_29 rfl dX8_takeAt_103 ?_
          refine jj_aload_n C 6 dX8_takeAt_106 rfl rfl ?_
          refine jj_geti C 0 12 in_Ref (rg_0 ) k_Ref (by decide) fl_Ref_131 rfl dX8_takeAt_107 ?_
          refine jj_iload C 0 dX8_takeAt_110 rfl ?_
          refine jj_iast C 7 (rg_7 ) dX8_takeAt_112 ?_
          refine jj_stn (fun σ25 => ?_)
          refine jj_aload_n C 6 dX8_takeAt_113 rfl rfl ?_
          refine jj_getr C 0 14 in_Ref (rg_0 ) k_Ref (by decide) fl_Ref_32 rfl dX8_takeAt_114 ?_
          refine jj_aload_n C 6 dX8_takeAt_117 rfl rfl ?_
          refine jj_geti C 0 12 in_Ref (rg_0 ) k_Ref (by decide) fl_Ref_131 rfl dX8_takeAt_118 ?_
          refine jj_aload_n C 6 dX8_takeAt_121 rfl rfl ?_
          refine jj_geti C 0 15 in_Ref (rg_0 ) k_Ref (by decide) fl_Ref_134 rfl dX8_takeAt_122 ?_
          refine jj_iast C 8 (rg_8 ) dX8_takeAt_125 ?_
          refine jj_stn (fun σ26 => ?_)
          refine jj_aload_n C 6 dX8_takeAt_126 rfl rfl ?_
          refine jj_dup C dX8_takeAt_127 rfl ?_
          refine jj_geti C 0 12 in_Ref (rg_0 ) k_Ref (by decide) fl_Ref_131 rfl dX8_takeAt_128 ?_
          refine jj_iconst C (v := (1 : Int32)) dX8_takeAt_131 (by decide) ?_
          refine jj_iadd C dX8_takeAt_132 ?_
          refine jj_puti C 0 12 in_Ref (rg_0 ) k_Ref (by decide) fl_Ref_131 tyX8 tyX8_ok nmX8 rfl (by decide +kernel) rfl dX8_takeAt_133 ?_
          refine jj_stn (fun σ27 => ?_)
          refine jj_goto C (tgt := 235) dX8_takeAt_136 (by decide) ?_
          exact jj_vret C hr hlocks dX8_takeAt_235
    · refine jj_iload C 1 dX8_takeAt_49 rfl ?_
      refine jj_iconst C (v := (2 : Int32)) dX8_takeAt_51 (by decide) ?_
      refine jj_irem C dX8_takeAt_52 ?_
      refine jj_if_ne C (tgt := 76) dX8_takeAt_53 (by decide) (fun _ => ?_) (fun _ => ?_)
      · refine jj_aload_n C 4 dX8_takeAt_76 rfl rfl ?_
        refine jj_iload_n C 3 dX8_takeAt_77 rfl rfl ?_
        refine jj_callVi C (As := [.int v3_1]) (rest := []) (fun z hz => c_rRef_take hz) (q_Ref_128 C.2.2.2.2.1 (rm := { frames := 0, cells := 0, slots := 0, locals := 0 }) rfl rfl ⟨Nat.le_trans (by decide) hRm.1, Nat.le_trans (by decide) hRm.2⟩) (rg_0 ) k_Ref rfl rfl (Nat.le_of_ble_eq_true rfl) dX8_takeAt_78 (fun r29 σ28 _ => ?_)
        refine jj_istore C [(7, .int r29), (6, .int r5), (5, .int v5_3), (4, .int v4_2), (3, .int v3_1), (0, .ref (ad 0)), (1, .int a1), (2, .int a2)] dX8_takeAt_81 (by decide) rfl ?_
        refine jj_iload C 2 dX8_takeAt_83 rfl ?_
        refine jj_iconst C (v := (2 : Int32)) dX8_takeAt_85 (by decide) ?_
        refine jj_idiv C dX8_takeAt_86 ?_
        refine jj_ltn (fun v8_30 => ?_)
        refine jj_istore C [(8, .int v8_30), (7, .int r29), (6, .int r5), (5, .int v5_3), (4, .int v4_2), (3, .int v3_1), (0, .ref (ad 0)), (1, .int a1), (2, .int a2)] dX8_takeAt_87 (by decide) rfl ?_
        refine jj_iload C 2 dX8_takeAt_89 rfl ?_
        refine jj_if_eq C (tgt := 139) dX8_takeAt_91 (by decide) (fun _ => ?_) (fun _ => ?_)
        · refine jj_iload C 2 dX8_takeAt_139 rfl ?_
          refine jj_if_eq C (tgt := 235) dX8_takeAt_141 (by decide) (fun _ => ?_) (fun _ => ?_)
          · exact jj_vret C hr hlocks dX8_takeAt_235
          · refine jj_bipush C (v := (8 : Int32)) dX8_takeAt_144 (by decide) ?_
            refine jj_iload_n C 7 dX8_takeAt_146 rfl rfl ?_
            refine jj_imul C dX8_takeAt_147 ?_
            refine jj_aload_n C 6 dX8_takeAt_148 rfl rfl ?_
            refine jj_getr C 0 9 in_Ref (rg_0 ) k_Ref (by decide) fl_Ref_20 rfl dX8_takeAt_149 ?_
            refine jj_iload C 0 dX8_takeAt_152 rfl ?_
            refine jj_iald C 4 (rg_4 ) dX8_takeAt_154 ?_
            refine jj_iadd C dX8_takeAt_155 ?_
            refine jj_ltn (fun v9_31 => ?_)
            refine jj_istore C [(9, .int v9_31), (8, .int v8_30), (7, .int r29), (6, .int r5), (5, .int v5_3), (4, .int v4_2), (3, .int v3_1), (0, .ref (ad 0)), (1, .int a1), (2, .int a2)] dX8_takeAt_156 (by decide) rfl ?_
            refine jj_aload_n C 7 dX8_takeAt_158 rfl rfl ?_
            refine jj_getr C 0 11 in_Ref (rg_0 ) k_Ref (by decide) fl_Ref_26 rfl dX8_takeAt_159 ?_
            refine jj_iload C 1 dX8_takeAt_162 rfl ?_
            refine jj_aload_n C 7 dX8_takeAt_164 rfl rfl ?_
            refine jj_getr C 0 17 in_Ref (rg_0 ) k_Ref (by decide) fl_Ref_35 rfl dX8_takeAt_165 ?_
            refine jj_iload C 0 dX8_takeAt_168 rfl ?_
            refine jj_iald C 9 (rg_9 ) dX8_takeAt_170 ?_
            refine jj_iast C 6 (rg_6 ) dX8_takeAt_171 ?_
            refine jj_stn (fun σ32 => ?_)
            refine jj_aload_n C 7 dX8_takeAt_172 rfl rfl ?_
            refine jj_getr C 0 17 in_Ref (rg_0 ) k_Ref (by decide) fl_Ref_35 rfl dX8_takeAt_173 ?_
            refine jj_iload C 0 dX8_takeAt_176 rfl ?_
            refine jj_aload_n C 7 dX8_takeAt_178 rfl rfl ?_
            refine jj_getr C 0 8 in_Ref (rg_0 ) k_Ref (by decide) fl_Ref_16 rfl dX8_takeAt_179 ?_
            refine jj_iload C 1 dX8_takeAt_182 rfl ?_
            refine jj_zald C 3 (rg_3 ) dX8_takeAt_184 ?_
            refine jj_if_eq C (tgt := 198) dX8_takeAt_185 (by decide) (fun _ => ?_) (fun _ => ?_)
            · refine jj_aload_n C 7 dX8_takeAt_198 rfl rfl ?_
              refine jj_getr C 0 17 in_Ref (rg_0 ) k_Ref (by decide) fl_Ref_35 rfl dX8_takeAt_199 ?_
              refine jj_iload C 0 dX8_takeAt_202 rfl ?_
              refine jj_iald C 9 (rg_9 ) dX8_takeAt_204 ?_
              refine jj_iast C 9 (rg_9 ) dX8_takeAt_205 ?_
              refine jj_stn (fun σ33 => ?_)
              refine jj_aload_n C 7 dX8_takeAt_206 rfl rfl ?_
              refine jj_getr C 0 23 in_Ref (rg_0 ) k_Ref (by decide) fl_Ref_53 rfl dX8_takeAt_207 ?_
              refine jj_iconst C (v := (2 : Int32)) dX8_takeAt_210 (by decide) ?_
              refine jj_iload_n C 8 dX8_takeAt_211 rfl rfl ?_
              refine jj_imul C dX8_takeAt_212 ?_
              refine jj_aload_n C 7 dX8_takeAt_213 rfl rfl ?_
              refine jj_getr C 0 22 in_Ref (rg_0 ) k_Ref (by decide) fl_Ref_50 rfl dX8_takeAt_214 ?_
              refine jj_iload_n C 8 dX8_takeAt_217 rfl rfl ?_
              refine jj_iald C 14 (rg_14 ) dX8_takeAt_218 ?_
              refine jj_iadd C dX8_takeAt_219 ?_
              refine jj_iload C 4 dX8_takeAt_220 rfl ?_
              refine jj_iconst C (v := (1 : Int32)) dX8_takeAt_222 (by decide) ?_
              refine jj_iadd C dX8_takeAt_223 ?_
              refine jj_iast C 15 (rg_15 ) dX8_takeAt_224 ?_
              refine jj_stn (fun σ34 => ?_)
              refine jj_aload_n C 7 dX8_takeAt_225 rfl rfl ?_
              refine jj_getr C 0 22 in_Ref (rg_0 ) k_Ref (by decide) fl_Ref_50 rfl dX8_takeAt_226 ?_
              refine jj_iload_n C 8 dX8_takeAt_229 rfl rfl ?_
              refine jj_dup2 C dX8_takeAt_230 rfl rfl ?_
              refine jj_iald C 14 (rg_14 ) dX8_takeAt_231 ?_
              refine jj_iconst C (v := (1 : Int32)) dX8_takeAt_232 (by decide) ?_
              refine jj_iadd C dX8_takeAt_233 ?_
              refine jj_iast C 14 (rg_14 ) dX8_takeAt_234 ?_
              refine jj_stn (fun σ35 => ?_)
              exact jj_vret C hr hlocks dX8_takeAt_235
            · refine jj_aload_n C 7 dX8_takeAt_188 rfl rfl ?_
              refine jj_getr C 0 10 in_Ref (rg_0 ) k_Ref (by decide) fl_Ref_23 rfl dX8_takeAt_189 ?_
              refine jj_iload C 1 dX8_takeAt_192 rfl ?_
              refine jj_iald C 5 (rg_5 ) dX8_takeAt_194 ?_
              refine jj_goto C (tgt := 205) dX8_takeAt_195 (by decide) ?_
              refine jj_iast C 9 (rg_9 ) dX8_takeAt_205 ?_
              refine jj_stn (fun σ36 => ?_)
              refine jj_aload_n C 7 dX8_takeAt_206 rfl rfl ?_
              refine jj_getr C 0 23 in_Ref (rg_0 ) k_Ref (by decide) fl_Ref_53 rfl dX8_takeAt_207 ?_
              refine jj_iconst C (v := (2 : Int32)) dX8_takeAt_210 (by decide) ?_
              refine jj_iload_n C 8 dX8_takeAt_211 rfl rfl ?_
              refine jj_imul C dX8_takeAt_212 ?_
              refine jj_aload_n C 7 dX8_takeAt_213 rfl rfl ?_
              refine jj_getr C 0 22 in_Ref (rg_0 ) k_Ref (by decide) fl_Ref_50 rfl dX8_takeAt_214 ?_
              refine jj_iload_n C 8 dX8_takeAt_217 rfl rfl ?_
              refine jj_iald C 14 (rg_14 ) dX8_takeAt_218 ?_
              refine jj_iadd C dX8_takeAt_219 ?_
              refine jj_iload C 4 dX8_takeAt_220 rfl ?_
              refine jj_iconst C (v := (1 : Int32)) dX8_takeAt_222 (by decide) ?_
              refine jj_iadd C dX8_takeAt_223 ?_
              refine jj_iast C 15 (rg_15 ) dX8_takeAt_224 ?_
              refine jj_stn (fun σ37 => ?_)
              refine jj_aload_n C 7 dX8_takeAt_225 rfl rfl ?_
              refine jj_getr C 0 22 in_Ref (rg_0 ) k_Ref (by decide) fl_Ref_50 rfl dX8_takeAt_226 ?_
              refine jj_iload_n C 8 dX8_takeAt_229 rfl rfl ?_
              refine jj_dup2 C dX8_takeAt_230 rfl rfl ?_
              refine jj_iald C 14 (rg_14 ) dX8_takeAt_231 ?_
              refine jj_iconst C (v := (1 : Int32)) dX8_takeAt_232 (by decide) ?_
              refine jj_iadd C dX8_takeAt_233 ?_
              refine jj_iast C 14 (rg_14 ) dX8_takeAt_234 ?_
              refine jj_stn (fun σ38 => ?_)
              exact jj_vret C hr hlocks dX8_takeAt_235
        · refine jj_iload C 3 dX8_takeAt_94 rfl ?_
          refine jj_iconst C (v := (2 : Int32)) dX8_takeAt_96 (by decide) ?_
          refine jj_irem C dX8_takeAt_97 ?_
          refine jj_iconst C (v := (1 : Int32)) dX8_takeAt_98 (by decide) ?_
          refine jj_icmp_ne C (tgt := 139) dX8_takeAt_99 (by decide) (fun _ => ?_) (fun _ => ?_)
          · refine jj_iload C 2 dX8_takeAt_139 rfl ?_
            refine jj_if_eq C (tgt := 235) dX8_takeAt_141 (by decide) (fun _ => ?_) (fun _ => ?_)
            · exact jj_vret C hr hlocks dX8_takeAt_235
            · refine jj_bipush C (v := (8 : Int32)) dX8_takeAt_144 (by decide) ?_
              refine jj_iload_n C 7 dX8_takeAt_146 rfl rfl ?_
              refine jj_imul C dX8_takeAt_147 ?_
              refine jj_aload_n C 6 dX8_takeAt_148 rfl rfl ?_
              refine jj_getr C 0 9 in_Ref (rg_0 ) k_Ref (by decide) fl_Ref_20 rfl dX8_takeAt_149 ?_
              refine jj_iload C 0 dX8_takeAt_152 rfl ?_
              refine jj_iald C 4 (rg_4 ) dX8_takeAt_154 ?_
              refine jj_iadd C dX8_takeAt_155 ?_
              refine jj_ltn (fun v9_39 => ?_)
              refine jj_istore C [(9, .int v9_39), (8, .int v8_30), (7, .int r29), (6, .int r5), (5, .int v5_3), (4, .int v4_2), (3, .int v3_1), (0, .ref (ad 0)), (1, .int a1), (2, .int a2)] dX8_takeAt_156 (by decide) rfl ?_
              refine jj_aload_n C 7 dX8_takeAt_158 rfl rfl ?_
              refine jj_getr C 0 11 in_Ref (rg_0 ) k_Ref (by decide) fl_Ref_26 rfl dX8_takeAt_159 ?_
              refine jj_iload C 1 dX8_takeAt_162 rfl ?_
              refine jj_aload_n C 7 dX8_takeAt_164 rfl rfl ?_
              refine jj_getr C 0 17 in_Ref (rg_0 ) k_Ref (by decide) fl_Ref_35 rfl dX8_takeAt_165 ?_
              refine jj_iload C 0 dX8_takeAt_168 rfl ?_
              refine jj_iald C 9 (rg_9 ) dX8_takeAt_170 ?_
              refine jj_iast C 6 (rg_6 ) dX8_takeAt_171 ?_
              refine jj_stn (fun σ40 => ?_)
              refine jj_aload_n C 7 dX8_takeAt_172 rfl rfl ?_
              refine jj_getr C 0 17 in_Ref (rg_0 ) k_Ref (by decide) fl_Ref_35 rfl dX8_takeAt_173 ?_
              refine jj_iload C 0 dX8_takeAt_176 rfl ?_
              refine jj_aload_n C 7 dX8_takeAt_178 rfl rfl ?_
              refine jj_getr C 0 8 in_Ref (rg_0 ) k_Ref (by decide) fl_Ref_16 rfl dX8_takeAt_179 ?_
              refine jj_iload C 1 dX8_takeAt_182 rfl ?_
              refine jj_zald C 3 (rg_3 ) dX8_takeAt_184 ?_
              refine jj_if_eq C (tgt := 198) dX8_takeAt_185 (by decide) (fun _ => ?_) (fun _ => ?_)
              · refine jj_aload_n C 7 dX8_takeAt_198 rfl rfl ?_
                refine jj_getr C 0 17 in_Ref (rg_0 ) k_Ref (by decide) fl_Ref_35 rfl dX8_takeAt_199 ?_
                refine jj_iload C 0 dX8_takeAt_202 rfl ?_
                refine jj_iald C 9 (rg_9 ) dX8_takeAt_204 ?_
                refine jj_iast C 9 (rg_9 ) dX8_takeAt_205 ?_
                refine jj_stn (fun σ41 => ?_)
                refine jj_aload_n C 7 dX8_takeAt_206 rfl rfl ?_
                refine jj_getr C 0 23 in_Ref (rg_0 ) k_Ref (by decide) fl_Ref_53 rfl dX8_takeAt_207 ?_
                refine jj_iconst C (v := (2 : Int32)) dX8_takeAt_210 (by decide) ?_
                refine jj_iload_n C 8 dX8_takeAt_211 rfl rfl ?_
                refine jj_imul C dX8_takeAt_212 ?_
                refine jj_aload_n C 7 dX8_takeAt_213 rfl rfl ?_
                refine jj_getr C 0 22 in_Ref (rg_0 ) k_Ref (by decide) fl_Ref_50 rfl dX8_takeAt_214 ?_
                refine jj_iload_n C 8 dX8_takeAt_217 rfl rfl ?_
                refine jj_iald C 14 (rg_14 ) dX8_takeAt_218 ?_
                refine jj_iadd C dX8_takeAt_219 ?_
                refine jj_iload C 4 dX8_takeAt_220 rfl ?_
                refine jj_iconst C (v := (1 : Int32)) dX8_takeAt_222 (by decide) ?_
                refine jj_iadd C dX8_takeAt_223 ?_
                refine jj_iast C 15 (rg_15 ) dX8_takeAt_224 ?_
                refine jj_stn (fun σ42 => ?_)
                refine jj_aload_n C 7 dX8_takeAt_225 rfl rfl ?_
                refine jj_getr C 0 22 in_Ref (rg_0 ) k_Ref (by decide) fl_Ref_50 rfl dX8_takeAt_226 ?_
                refine jj_iload_n C 8 dX8_takeAt_229 rfl rfl ?_
                refine jj_dup2 C dX8_takeAt_230 rfl rfl ?_
                refine jj_iald C 14 (rg_14 ) dX8_takeAt_231 ?_
                refine jj_iconst C (v := (1 : Int32)) dX8_takeAt_232 (by decide) ?_
                refine jj_iadd C dX8_takeAt_233 ?_
                refine jj_iast C 14 (rg_14 ) dX8_takeAt_234 ?_
                refine jj_stn (fun σ43 => ?_)
                exact jj_vret C hr hlocks dX8_takeAt_235
              · refine jj_aload_n C 7 dX8_takeAt_188 rfl rfl ?_
                refine jj_getr C 0 10 in_Ref (rg_0 ) k_Ref (by decide) fl_Ref_23 rfl dX8_takeAt_189 ?_
                refine jj_iload C 1 dX8_takeAt_192 rfl ?_
                refine jj_iald C 5 (rg_5 ) dX8_takeAt_194 ?_
                refine jj_goto C (tgt := 205) dX8_takeAt_195 (by decide) ?_
                refine jj_iast C 9 (rg_9 ) dX8_takeAt_205 ?_
                refine jj_stn (fun σ44 => ?_)
                refine jj_aload_n C 7 dX8_takeAt_206 rfl rfl ?_
                refine jj_getr C 0 23 in_Ref (rg_0 ) k_Ref (by decide) fl_Ref_53 rfl dX8_takeAt_207 ?_
                refine jj_iconst C (v := (2 : Int32)) dX8_takeAt_210 (by decide) ?_
                refine jj_iload_n C 8 dX8_takeAt_211 rfl rfl ?_
                refine jj_imul C dX8_takeAt_212 ?_
                refine jj_aload_n C 7 dX8_takeAt_213 rfl rfl ?_
                refine jj_getr C 0 22 in_Ref (rg_0 ) k_Ref (by decide) fl_Ref_50 rfl dX8_takeAt_214 ?_
                refine jj_iload_n C 8 dX8_takeAt_217 rfl rfl ?_
                refine jj_iald C 14 (rg_14 ) dX8_takeAt_218 ?_
                refine jj_iadd C dX8_takeAt_219 ?_
                refine jj_iload C 4 dX8_takeAt_220 rfl ?_
                refine jj_iconst C (v := (1 : Int32)) dX8_takeAt_222 (by decide) ?_
                refine jj_iadd C dX8_takeAt_223 ?_
                refine jj_iast C 15 (rg_15 ) dX8_takeAt_224 ?_
                refine jj_stn (fun σ45 => ?_)
                refine jj_aload_n C 7 dX8_takeAt_225 rfl rfl ?_
                refine jj_getr C 0 22 in_Ref (rg_0 ) k_Ref (by decide) fl_Ref_50 rfl dX8_takeAt_226 ?_
                refine jj_iload_n C 8 dX8_takeAt_229 rfl rfl ?_
                refine jj_dup2 C dX8_takeAt_230 rfl rfl ?_
                refine jj_iald C 14 (rg_14 ) dX8_takeAt_231 ?_
                refine jj_iconst C (v := (1 : Int32)) dX8_takeAt_232 (by decide) ?_
                refine jj_iadd C dX8_takeAt_233 ?_
                refine jj_iast C 14 (rg_14 ) dX8_takeAt_234 ?_
                refine jj_stn (fun σ46 => ?_)
                exact jj_vret C hr hlocks dX8_takeAt_235
          · refine jj_aload_n C 6 dX8_takeAt_102 rfl rfl ?_
            refine jj_getr C 0 13 in_Ref (rg_0 ) k_Ref (by decide) fl_Ref_29 rfl dX8_takeAt_103 ?_
            refine jj_aload_n C 6 dX8_takeAt_106 rfl rfl ?_
            refine jj_geti C 0 12 in_Ref (rg_0 ) k_Ref (by decide) fl_Ref_131 rfl dX8_takeAt_107 ?_
            refine jj_iload C 0 dX8_takeAt_110 rfl ?_
            refine jj_iast C 7 (rg_7 ) dX8_takeAt_112 ?_
            refine jj_stn (fun σ47 => ?_)
            refine jj_aload_n C 6 dX8_takeAt_113 rfl rfl ?_
            refine jj_getr C 0 14 in_Ref (rg_0 ) k_Ref (by decide) fl_Ref_32 rfl dX8_takeAt_114 ?_
            refine jj_aload_n C 6 dX8_takeAt_117 rfl rfl ?_
            refine jj_geti C 0 12 in_Ref (rg_0 ) k_Ref (by decide) fl_Ref_131 rfl dX8_takeAt_118 ?_
            refine jj_aload_n C 6 dX8_takeAt_121 rfl rfl ?_
            refine jj_geti C 0 15 in_Ref (rg_0 ) k_Ref (by decide) fl_Ref_134 rfl dX8_takeAt_122 ?_
            refine jj_iast C 8 (rg_8 ) dX8_takeAt_125 ?_
            refine jj_stn (fun σ48 => ?_)
            refine jj_aload_n C 6 dX8_takeAt_126 rfl rfl ?_
            refine jj_dup C dX8_takeAt_127 rfl ?_
            refine jj_geti C 0 12 in_Ref (rg_0 ) k_Ref (by decide) fl_Ref_131 rfl dX8_takeAt_128 ?_
            refine jj_iconst C (v := (1 : Int32)) dX8_takeAt_131 (by decide) ?_
            refine jj_iadd C dX8_takeAt_132 ?_
            refine jj_puti C 0 12 in_Ref (rg_0 ) k_Ref (by decide) fl_Ref_131 tyX8 tyX8_ok nmX8 rfl (by decide +kernel) rfl dX8_takeAt_133 ?_
            refine jj_stn (fun σ49 => ?_)
            refine jj_goto C (tgt := 235) dX8_takeAt_136 (by decide) ?_
            exact jj_vret C hr hlocks dX8_takeAt_235
      · refine jj_aload_n C 4 dX8_takeAt_56 rfl rfl ?_
        refine jj_getr C 0 18 in_Ref (rg_0 ) k_Ref (by decide) fl_Ref_38 rfl dX8_takeAt_57 ?_
        refine jj_iload_n C 5 dX8_takeAt_60 rfl rfl ?_
        refine jj_zald C 10 (rg_10 ) dX8_takeAt_61 ?_
        refine jj_if_ne C (tgt := 75) dX8_takeAt_62 (by decide) (fun _ => ?_) (fun _ => ?_)
        · exact jj_vret C hr hlocks dX8_takeAt_75
        · refine jj_aload_n C 4 dX8_takeAt_65 rfl rfl ?_
          refine jj_getr C 0 22 in_Ref (rg_0 ) k_Ref (by decide) fl_Ref_50 rfl dX8_takeAt_66 ?_
          refine jj_iload_n C 5 dX8_takeAt_69 rfl rfl ?_
          refine jj_iald C 14 (rg_14 ) dX8_takeAt_70 ?_
          refine jj_iconst C (v := (2 : Int32)) dX8_takeAt_71 (by decide) ?_
          refine jj_icmp_ne C (tgt := 76) dX8_takeAt_72 (by decide) (fun _ => ?_) (fun _ => ?_)
          · refine jj_aload_n C 4 dX8_takeAt_76 rfl rfl ?_
            refine jj_iload_n C 3 dX8_takeAt_77 rfl rfl ?_
            refine jj_callVi C (As := [.int v3_1]) (rest := []) (fun z hz => c_rRef_take hz) (q_Ref_128 C.2.2.2.2.1 (rm := { frames := 0, cells := 0, slots := 0, locals := 0 }) rfl rfl ⟨Nat.le_trans (by decide) hRm.1, Nat.le_trans (by decide) hRm.2⟩) (rg_0 ) k_Ref rfl rfl (Nat.le_of_ble_eq_true rfl) dX8_takeAt_78 (fun r51 σ50 _ => ?_)
            refine jj_istore C [(7, .int r51), (6, .int r5), (5, .int v5_3), (4, .int v4_2), (3, .int v3_1), (0, .ref (ad 0)), (1, .int a1), (2, .int a2)] dX8_takeAt_81 (by decide) rfl ?_
            refine jj_iload C 2 dX8_takeAt_83 rfl ?_
            refine jj_iconst C (v := (2 : Int32)) dX8_takeAt_85 (by decide) ?_
            refine jj_idiv C dX8_takeAt_86 ?_
            refine jj_ltn (fun v8_52 => ?_)
            refine jj_istore C [(8, .int v8_52), (7, .int r51), (6, .int r5), (5, .int v5_3), (4, .int v4_2), (3, .int v3_1), (0, .ref (ad 0)), (1, .int a1), (2, .int a2)] dX8_takeAt_87 (by decide) rfl ?_
            refine jj_iload C 2 dX8_takeAt_89 rfl ?_
            refine jj_if_eq C (tgt := 139) dX8_takeAt_91 (by decide) (fun _ => ?_) (fun _ => ?_)
            · refine jj_iload C 2 dX8_takeAt_139 rfl ?_
              refine jj_if_eq C (tgt := 235) dX8_takeAt_141 (by decide) (fun _ => ?_) (fun _ => ?_)
              · exact jj_vret C hr hlocks dX8_takeAt_235
              · refine jj_bipush C (v := (8 : Int32)) dX8_takeAt_144 (by decide) ?_
                refine jj_iload_n C 7 dX8_takeAt_146 rfl rfl ?_
                refine jj_imul C dX8_takeAt_147 ?_
                refine jj_aload_n C 6 dX8_takeAt_148 rfl rfl ?_
                refine jj_getr C 0 9 in_Ref (rg_0 ) k_Ref (by decide) fl_Ref_20 rfl dX8_takeAt_149 ?_
                refine jj_iload C 0 dX8_takeAt_152 rfl ?_
                refine jj_iald C 4 (rg_4 ) dX8_takeAt_154 ?_
                refine jj_iadd C dX8_takeAt_155 ?_
                refine jj_ltn (fun v9_53 => ?_)
                refine jj_istore C [(9, .int v9_53), (8, .int v8_52), (7, .int r51), (6, .int r5), (5, .int v5_3), (4, .int v4_2), (3, .int v3_1), (0, .ref (ad 0)), (1, .int a1), (2, .int a2)] dX8_takeAt_156 (by decide) rfl ?_
                refine jj_aload_n C 7 dX8_takeAt_158 rfl rfl ?_
                refine jj_getr C 0 11 in_Ref (rg_0 ) k_Ref (by decide) fl_Ref_26 rfl dX8_takeAt_159 ?_
                refine jj_iload C 1 dX8_takeAt_162 rfl ?_
                refine jj_aload_n C 7 dX8_takeAt_164 rfl rfl ?_
                refine jj_getr C 0 17 in_Ref (rg_0 ) k_Ref (by decide) fl_Ref_35 rfl dX8_takeAt_165 ?_
                refine jj_iload C 0 dX8_takeAt_168 rfl ?_
                refine jj_iald C 9 (rg_9 ) dX8_takeAt_170 ?_
                refine jj_iast C 6 (rg_6 ) dX8_takeAt_171 ?_
                refine jj_stn (fun σ54 => ?_)
                refine jj_aload_n C 7 dX8_takeAt_172 rfl rfl ?_
                refine jj_getr C 0 17 in_Ref (rg_0 ) k_Ref (by decide) fl_Ref_35 rfl dX8_takeAt_173 ?_
                refine jj_iload C 0 dX8_takeAt_176 rfl ?_
                refine jj_aload_n C 7 dX8_takeAt_178 rfl rfl ?_
                refine jj_getr C 0 8 in_Ref (rg_0 ) k_Ref (by decide) fl_Ref_16 rfl dX8_takeAt_179 ?_
                refine jj_iload C 1 dX8_takeAt_182 rfl ?_
                refine jj_zald C 3 (rg_3 ) dX8_takeAt_184 ?_
                refine jj_if_eq C (tgt := 198) dX8_takeAt_185 (by decide) (fun _ => ?_) (fun _ => ?_)
                · refine jj_aload_n C 7 dX8_takeAt_198 rfl rfl ?_
                  refine jj_getr C 0 17 in_Ref (rg_0 ) k_Ref (by decide) fl_Ref_35 rfl dX8_takeAt_199 ?_
                  refine jj_iload C 0 dX8_takeAt_202 rfl ?_
                  refine jj_iald C 9 (rg_9 ) dX8_takeAt_204 ?_
                  refine jj_iast C 9 (rg_9 ) dX8_takeAt_205 ?_
                  refine jj_stn (fun σ55 => ?_)
                  refine jj_aload_n C 7 dX8_takeAt_206 rfl rfl ?_
                  refine jj_getr C 0 23 in_Ref (rg_0 ) k_Ref (by decide) fl_Ref_53 rfl dX8_takeAt_207 ?_
                  refine jj_iconst C (v := (2 : Int32)) dX8_takeAt_210 (by decide) ?_
                  refine jj_iload_n C 8 dX8_takeAt_211 rfl rfl ?_
                  refine jj_imul C dX8_takeAt_212 ?_
                  refine jj_aload_n C 7 dX8_takeAt_213 rfl rfl ?_
                  refine jj_getr C 0 22 in_Ref (rg_0 ) k_Ref (by decide) fl_Ref_50 rfl dX8_takeAt_214 ?_
                  refine jj_iload_n C 8 dX8_takeAt_217 rfl rfl ?_
                  refine jj_iald C 14 (rg_14 ) dX8_takeAt_218 ?_
                  refine jj_iadd C dX8_takeAt_219 ?_
                  refine jj_iload C 4 dX8_takeAt_220 rfl ?_
                  refine jj_iconst C (v := (1 : Int32)) dX8_takeAt_222 (by decide) ?_
                  refine jj_iadd C dX8_takeAt_223 ?_
                  refine jj_iast C 15 (rg_15 ) dX8_takeAt_224 ?_
                  refine jj_stn (fun σ56 => ?_)
                  refine jj_aload_n C 7 dX8_takeAt_225 rfl rfl ?_
                  refine jj_getr C 0 22 in_Ref (rg_0 ) k_Ref (by decide) fl_Ref_50 rfl dX8_takeAt_226 ?_
                  refine jj_iload_n C 8 dX8_takeAt_229 rfl rfl ?_
                  refine jj_dup2 C dX8_takeAt_230 rfl rfl ?_
                  refine jj_iald C 14 (rg_14 ) dX8_takeAt_231 ?_
                  refine jj_iconst C (v := (1 : Int32)) dX8_takeAt_232 (by decide) ?_
                  refine jj_iadd C dX8_takeAt_233 ?_
                  refine jj_iast C 14 (rg_14 ) dX8_takeAt_234 ?_
                  refine jj_stn (fun σ57 => ?_)
                  exact jj_vret C hr hlocks dX8_takeAt_235
                · refine jj_aload_n C 7 dX8_takeAt_188 rfl rfl ?_
                  refine jj_getr C 0 10 in_Ref (rg_0 ) k_Ref (by decide) fl_Ref_23 rfl dX8_takeAt_189 ?_
                  refine jj_iload C 1 dX8_takeAt_192 rfl ?_
                  refine jj_iald C 5 (rg_5 ) dX8_takeAt_194 ?_
                  refine jj_goto C (tgt := 205) dX8_takeAt_195 (by decide) ?_
                  refine jj_iast C 9 (rg_9 ) dX8_takeAt_205 ?_
                  refine jj_stn (fun σ58 => ?_)
                  refine jj_aload_n C 7 dX8_takeAt_206 rfl rfl ?_
                  refine jj_getr C 0 23 in_Ref (rg_0 ) k_Ref (by decide) fl_Ref_53 rfl dX8_takeAt_207 ?_
                  refine jj_iconst C (v := (2 : Int32)) dX8_takeAt_210 (by decide) ?_
                  refine jj_iload_n C 8 dX8_takeAt_211 rfl rfl ?_
                  refine jj_imul C dX8_takeAt_212 ?_
                  refine jj_aload_n C 7 dX8_takeAt_213 rfl rfl ?_
                  refine jj_getr C 0 22 in_Ref (rg_0 ) k_Ref (by decide) fl_Ref_50 rfl dX8_takeAt_214 ?_
                  refine jj_iload_n C 8 dX8_takeAt_217 rfl rfl ?_
                  refine jj_iald C 14 (rg_14 ) dX8_takeAt_218 ?_
                  refine jj_iadd C dX8_takeAt_219 ?_
                  refine jj_iload C 4 dX8_takeAt_220 rfl ?_
                  refine jj_iconst C (v := (1 : Int32)) dX8_takeAt_222 (by decide) ?_
                  refine jj_iadd C dX8_takeAt_223 ?_
                  refine jj_iast C 15 (rg_15 ) dX8_takeAt_224 ?_
                  refine jj_stn (fun σ59 => ?_)
                  refine jj_aload_n C 7 dX8_takeAt_225 rfl rfl ?_
                  refine jj_getr C 0 22 in_Ref (rg_0 ) k_Ref (by decide) fl_Ref_50 rfl dX8_takeAt_226 ?_
                  refine jj_iload_n C 8 dX8_takeAt_229 rfl rfl ?_
                  refine jj_dup2 C dX8_takeAt_230 rfl rfl ?_
                  refine jj_iald C 14 (rg_14 ) dX8_takeAt_231 ?_
                  refine jj_iconst C (v := (1 : Int32)) dX8_takeAt_232 (by decide) ?_
                  refine jj_iadd C dX8_takeAt_233 ?_
                  refine jj_iast C 14 (rg_14 ) dX8_takeAt_234 ?_
                  refine jj_stn (fun σ60 => ?_)
                  exact jj_vret C hr hlocks dX8_takeAt_235
            · refine jj_iload C 3 dX8_takeAt_94 rfl ?_
              refine jj_iconst C (v := (2 : Int32)) dX8_takeAt_96 (by decide) ?_
              refine jj_irem C dX8_takeAt_97 ?_
              refine jj_iconst C (v := (1 : Int32)) dX8_takeAt_98 (by decide) ?_
              refine jj_icmp_ne C (tgt := 139) dX8_takeAt_99 (by decide) (fun _ => ?_) (fun _ => ?_)
              · refine jj_iload C 2 dX8_takeAt_139 rfl ?_
                refine jj_if_eq C (tgt := 235) dX8_takeAt_141 (by decide) (fun _ => ?_) (fun _ => ?_)
                · exact jj_vret C hr hlocks dX8_takeAt_235
                · refine jj_bipush C (v := (8 : Int32)) dX8_takeAt_144 (by decide) ?_
                  refine jj_iload_n C 7 dX8_takeAt_146 rfl rfl ?_
                  refine jj_imul C dX8_takeAt_147 ?_
                  refine jj_aload_n C 6 dX8_takeAt_148 rfl rfl ?_
                  refine jj_getr C 0 9 in_Ref (rg_0 ) k_Ref (by decide) fl_Ref_20 rfl dX8_takeAt_149 ?_
                  refine jj_iload C 0 dX8_takeAt_152 rfl ?_
                  refine jj_iald C 4 (rg_4 ) dX8_takeAt_154 ?_
                  refine jj_iadd C dX8_takeAt_155 ?_
                  refine jj_ltn (fun v9_61 => ?_)
                  refine jj_istore C [(9, .int v9_61), (8, .int v8_52), (7, .int r51), (6, .int r5), (5, .int v5_3), (4, .int v4_2), (3, .int v3_1), (0, .ref (ad 0)), (1, .int a1), (2, .int a2)] dX8_takeAt_156 (by decide) rfl ?_
                  refine jj_aload_n C 7 dX8_takeAt_158 rfl rfl ?_
                  refine jj_getr C 0 11 in_Ref (rg_0 ) k_Ref (by decide) fl_Ref_26 rfl dX8_takeAt_159 ?_
                  refine jj_iload C 1 dX8_takeAt_162 rfl ?_
                  refine jj_aload_n C 7 dX8_takeAt_164 rfl rfl ?_
                  refine jj_getr C 0 17 in_Ref (rg_0 ) k_Ref (by decide) fl_Ref_35 rfl dX8_takeAt_165 ?_
                  refine jj_iload C 0 dX8_takeAt_168 rfl ?_
                  refine jj_iald C 9 (rg_9 ) dX8_takeAt_170 ?_
                  refine jj_iast C 6 (rg_6 ) dX8_takeAt_171 ?_
                  refine jj_stn (fun σ62 => ?_)
                  refine jj_aload_n C 7 dX8_takeAt_172 rfl rfl ?_
                  refine jj_getr C 0 17 in_Ref (rg_0 ) k_Ref (by decide) fl_Ref_35 rfl dX8_takeAt_173 ?_
                  refine jj_iload C 0 dX8_takeAt_176 rfl ?_
                  refine jj_aload_n C 7 dX8_takeAt_178 rfl rfl ?_
                  refine jj_getr C 0 8 in_Ref (rg_0 ) k_Ref (by decide) fl_Ref_16 rfl dX8_takeAt_179 ?_
                  refine jj_iload C 1 dX8_takeAt_182 rfl ?_
                  refine jj_zald C 3 (rg_3 ) dX8_takeAt_184 ?_
                  refine jj_if_eq C (tgt := 198) dX8_takeAt_185 (by decide) (fun _ => ?_) (fun _ => ?_)
                  · refine jj_aload_n C 7 dX8_takeAt_198 rfl rfl ?_
                    refine jj_getr C 0 17 in_Ref (rg_0 ) k_Ref (by decide) fl_Ref_35 rfl dX8_takeAt_199 ?_
                    refine jj_iload C 0 dX8_takeAt_202 rfl ?_
                    refine jj_iald C 9 (rg_9 ) dX8_takeAt_204 ?_
                    refine jj_iast C 9 (rg_9 ) dX8_takeAt_205 ?_
                    refine jj_stn (fun σ63 => ?_)
                    refine jj_aload_n C 7 dX8_takeAt_206 rfl rfl ?_
                    refine jj_getr C 0 23 in_Ref (rg_0 ) k_Ref (by decide) fl_Ref_53 rfl dX8_takeAt_207 ?_
                    refine jj_iconst C (v := (2 : Int32)) dX8_takeAt_210 (by decide) ?_
                    refine jj_iload_n C 8 dX8_takeAt_211 rfl rfl ?_
                    refine jj_imul C dX8_takeAt_212 ?_
                    refine jj_aload_n C 7 dX8_takeAt_213 rfl rfl ?_
                    refine jj_getr C 0 22 in_Ref (rg_0 ) k_Ref (by decide) fl_Ref_50 rfl dX8_takeAt_214 ?_
                    refine jj_iload_n C 8 dX8_takeAt_217 rfl rfl ?_
                    refine jj_iald C 14 (rg_14 ) dX8_takeAt_218 ?_
                    refine jj_iadd C dX8_takeAt_219 ?_
                    refine jj_iload C 4 dX8_takeAt_220 rfl ?_
                    refine jj_iconst C (v := (1 : Int32)) dX8_takeAt_222 (by decide) ?_
                    refine jj_iadd C dX8_takeAt_223 ?_
                    refine jj_iast C 15 (rg_15 ) dX8_takeAt_224 ?_
                    refine jj_stn (fun σ64 => ?_)
                    refine jj_aload_n C 7 dX8_takeAt_225 rfl rfl ?_
                    refine jj_getr C 0 22 in_Ref (rg_0 ) k_Ref (by decide) fl_Ref_50 rfl dX8_takeAt_226 ?_
                    refine jj_iload_n C 8 dX8_takeAt_229 rfl rfl ?_
                    refine jj_dup2 C dX8_takeAt_230 rfl rfl ?_
                    refine jj_iald C 14 (rg_14 ) dX8_takeAt_231 ?_
                    refine jj_iconst C (v := (1 : Int32)) dX8_takeAt_232 (by decide) ?_
                    refine jj_iadd C dX8_takeAt_233 ?_
                    refine jj_iast C 14 (rg_14 ) dX8_takeAt_234 ?_
                    refine jj_stn (fun σ65 => ?_)
                    exact jj_vret C hr hlocks dX8_takeAt_235
                  · refine jj_aload_n C 7 dX8_takeAt_188 rfl rfl ?_
                    refine jj_getr C 0 10 in_Ref (rg_0 ) k_Ref (by decide) fl_Ref_23 rfl dX8_takeAt_189 ?_
                    refine jj_iload C 1 dX8_takeAt_192 rfl ?_
                    refine jj_iald C 5 (rg_5 ) dX8_takeAt_194 ?_
                    refine jj_goto C (tgt := 205) dX8_takeAt_195 (by decide) ?_
                    refine jj_iast C 9 (rg_9 ) dX8_takeAt_205 ?_
                    refine jj_stn (fun σ66 => ?_)
                    refine jj_aload_n C 7 dX8_takeAt_206 rfl rfl ?_
                    refine jj_getr C 0 23 in_Ref (rg_0 ) k_Ref (by decide) fl_Ref_53 rfl dX8_takeAt_207 ?_
                    refine jj_iconst C (v := (2 : Int32)) dX8_takeAt_210 (by decide) ?_
                    refine jj_iload_n C 8 dX8_takeAt_211 rfl rfl ?_
                    refine jj_imul C dX8_takeAt_212 ?_
                    refine jj_aload_n C 7 dX8_takeAt_213 rfl rfl ?_
                    refine jj_getr C 0 22 in_Ref (rg_0 ) k_Ref (by decide) fl_Ref_50 rfl dX8_takeAt_214 ?_
                    refine jj_iload_n C 8 dX8_takeAt_217 rfl rfl ?_
                    refine jj_iald C 14 (rg_14 ) dX8_takeAt_218 ?_
                    refine jj_iadd C dX8_takeAt_219 ?_
                    refine jj_iload C 4 dX8_takeAt_220 rfl ?_
                    refine jj_iconst C (v := (1 : Int32)) dX8_takeAt_222 (by decide) ?_
                    refine jj_iadd C dX8_takeAt_223 ?_
                    refine jj_iast C 15 (rg_15 ) dX8_takeAt_224 ?_
                    refine jj_stn (fun σ67 => ?_)
                    refine jj_aload_n C 7 dX8_takeAt_225 rfl rfl ?_
                    refine jj_getr C 0 22 in_Ref (rg_0 ) k_Ref (by decide) fl_Ref_50 rfl dX8_takeAt_226 ?_
                    refine jj_iload_n C 8 dX8_takeAt_229 rfl rfl ?_
                    refine jj_dup2 C dX8_takeAt_230 rfl rfl ?_
                    refine jj_iald C 14 (rg_14 ) dX8_takeAt_231 ?_
                    refine jj_iconst C (v := (1 : Int32)) dX8_takeAt_232 (by decide) ?_
                    refine jj_iadd C dX8_takeAt_233 ?_
                    refine jj_iast C 14 (rg_14 ) dX8_takeAt_234 ?_
                    refine jj_stn (fun σ68 => ?_)
                    exact jj_vret C hr hlocks dX8_takeAt_235
              · refine jj_aload_n C 6 dX8_takeAt_102 rfl rfl ?_
                refine jj_getr C 0 13 in_Ref (rg_0 ) k_Ref (by decide) fl_Ref_29 rfl dX8_takeAt_103 ?_
                refine jj_aload_n C 6 dX8_takeAt_106 rfl rfl ?_
                refine jj_geti C 0 12 in_Ref (rg_0 ) k_Ref (by decide) fl_Ref_131 rfl dX8_takeAt_107 ?_
                refine jj_iload C 0 dX8_takeAt_110 rfl ?_
                refine jj_iast C 7 (rg_7 ) dX8_takeAt_112 ?_
                refine jj_stn (fun σ69 => ?_)
                refine jj_aload_n C 6 dX8_takeAt_113 rfl rfl ?_
                refine jj_getr C 0 14 in_Ref (rg_0 ) k_Ref (by decide) fl_Ref_32 rfl dX8_takeAt_114 ?_
                refine jj_aload_n C 6 dX8_takeAt_117 rfl rfl ?_
                refine jj_geti C 0 12 in_Ref (rg_0 ) k_Ref (by decide) fl_Ref_131 rfl dX8_takeAt_118 ?_
                refine jj_aload_n C 6 dX8_takeAt_121 rfl rfl ?_
                refine jj_geti C 0 15 in_Ref (rg_0 ) k_Ref (by decide) fl_Ref_134 rfl dX8_takeAt_122 ?_
                refine jj_iast C 8 (rg_8 ) dX8_takeAt_125 ?_
                refine jj_stn (fun σ70 => ?_)
                refine jj_aload_n C 6 dX8_takeAt_126 rfl rfl ?_
                refine jj_dup C dX8_takeAt_127 rfl ?_
                refine jj_geti C 0 12 in_Ref (rg_0 ) k_Ref (by decide) fl_Ref_131 rfl dX8_takeAt_128 ?_
                refine jj_iconst C (v := (1 : Int32)) dX8_takeAt_131 (by decide) ?_
                refine jj_iadd C dX8_takeAt_132 ?_
                refine jj_puti C 0 12 in_Ref (rg_0 ) k_Ref (by decide) fl_Ref_131 tyX8 tyX8_ok nmX8 rfl (by decide +kernel) rfl dX8_takeAt_133 ?_
                refine jj_stn (fun σ71 => ?_)
                refine jj_goto C (tgt := 235) dX8_takeAt_136 (by decide) ?_
                exact jj_vret C hr hlocks dX8_takeAt_235
          · exact jj_vret C hr hlocks dX8_takeAt_75
  · exact jj_vret C hr hlocks dX8_takeAt_19
