set_option maxHeartbeats 4000000 in
set_option maxRecDepth 100000 in
theorem c_rRef_ready {l : Launch} {D : va_G} {ad : Nat → Nat} {cA : FieldType → ClassId} { F : Nat} {σ : jj_S} {a1 a2 a3 : Int32} {z : (Int32 × jj_S)} (ho : f_rRef_ready  F σ a1 a2 a3 = some z) : jj_Mi l yX8_ready (Cond.code yX8_ready cX8_ready 5 (some .boolean) :: jw_t) { frames := 1, cells := 0, slots := 0, locals := 40 } D vwCl ad cA (gm) [.ref (ad 0), .int a1, .int a2, .int a3] σ z := by
  refine jj_ofi (cc := cX8_ready) (nL := 5) (ret := (some .boolean)) rfl ho (Nat.le_of_ble_eq_true rfl) ?_
  intro p e s m below meth c C hr hlocks
  generalize hA : va_A (jj_w ad cA (gm) σ) s.heap.size = A at C ⊢
  have hRm : 1 ≤ (headSpec (Cond.code yX8_ready cX8_ready 5 (some .boolean) :: jw_t) { frames := 1, cells := 0, slots := 0, locals := 40 }).room.frames ∧ 40 ≤ (headSpec (Cond.code yX8_ready cX8_ready 5 (some .boolean) :: jw_t) { frames := 1, cells := 0, slots := 0, locals := 40 }).room.locals := ⟨Nat.le_refl _, Nat.le_refl _⟩
  generalize (headSpec (Cond.code yX8_ready cX8_ready 5 (some .boolean) :: jw_t) { frames := 1, cells := 0, slots := 0, locals := 40 }).room = R at C hRm ⊢
  generalize List.toArray ([.ref (ad 0), .int a1, .int a2, .int a3] : List Value) = args at C ⊢
  refine jj_sub (lv' := [(0, .ref (ad 0)), (1, .int a1), (2, .int a2), (3, .int a3)]) [0, 1, 2, 3] rfl ?_
  unfold f_rRef_ready
  refine jj_iconst C (v := (4 : Int32)) dX8_ready_0 (by decide) ?_
  refine jj_iconst C (v := (5 : Int32)) dX8_ready_1 (by decide) ?_
  refine jj_iload_n C 1 dX8_ready_2 rfl rfl ?_
  refine jj_imul C dX8_ready_3 ?_
  refine jj_iload_n C 2 dX8_ready_4 rfl rfl ?_
  refine jj_iadd C dX8_ready_5 ?_
  refine jj_imul C dX8_ready_6 ?_
  refine jj_iload_n C 3 dX8_ready_7 rfl rfl ?_
  refine jj_iadd C dX8_ready_8 ?_
  refine jj_ltn (fun v4_1 => ?_)
  refine jj_istore C [(4, .int v4_1), (0, .ref (ad 0)), (1, .int a1), (2, .int a2), (3, .int a3)] dX8_ready_9 (by decide) rfl ?_
  refine jj_aload_n C 1 dX8_ready_11 rfl rfl ?_
  refine jj_getr C 0 25 in_Ref (rg_0 ) k_Ref (by decide) fl_Ref_59 rfl dX8_ready_12 ?_
  refine jj_iload C 0 dX8_ready_15 rfl ?_
  refine jj_iald C 17 (rg_17 ) dX8_ready_17 ?_
  refine jj_if_le C (tgt := 57) dX8_ready_18 (by decide) (fun _ => ?_) (fun _ => ?_)
  · refine jj_iconst C (v := (0 : Int32)) dX8_ready_57 (by decide) ?_
    exact jj_zret C hr hlocks (by first | rfl | decide +kernel) dX8_ready_58
  · refine jj_aload_n C 1 dX8_ready_21 rfl rfl ?_
    refine jj_getr C 0 30 in_Ref (rg_0 ) k_Ref (by decide) fl_Ref_74 rfl dX8_ready_22 ?_
    refine jj_iload C 0 dX8_ready_25 rfl ?_
    refine jj_iald C 22 (rg_22 ) dX8_ready_27 ?_
    refine jj_iconst C (v := (2 : Int32)) dX8_ready_28 (by decide) ?_
    refine jj_icmp_ne C (tgt := 57) dX8_ready_29 (by decide) (fun _ => ?_) (fun _ => ?_)
    · refine jj_iconst C (v := (0 : Int32)) dX8_ready_57 (by decide) ?_
      exact jj_zret C hr hlocks (by first | rfl | decide +kernel) dX8_ready_58
    · refine jj_aload_n C 1 dX8_ready_32 rfl rfl ?_
      refine jj_getr C 0 28 in_Ref (rg_0 ) k_Ref (by decide) fl_Ref_68 rfl dX8_ready_33 ?_
      refine jj_aload_n C 1 dX8_ready_36 rfl rfl ?_
      refine jj_iload_n C 2 dX8_ready_37 rfl rfl ?_
      refine jj_aload_n C 1 dX8_ready_38 rfl rfl ?_
      refine jj_getr C 0 31 in_Ref (rg_0 ) k_Ref (by decide) fl_Ref_77 rfl dX8_ready_39 ?_
      refine jj_iload C 0 dX8_ready_42 rfl ?_
      refine jj_iald C 23 (rg_23 ) dX8_ready_44 ?_
      refine jj_iload_n C 4 dX8_ready_45 rfl rfl ?_
      refine jj_callVi C (As := [.int a1, .int (σ 23 v4_1.toNatClampNeg), .int a3]) (rest := [.ref (ad 20)]) (fun z hz => c_rRef_beyond hz) (q_Ref_144 C.2.2.2.2.1 (rm := { frames := 0, cells := 0, slots := 0, locals := 0 }) rfl rfl ⟨Nat.le_trans (by decide) hRm.1, Nat.le_trans (by decide) hRm.2⟩) (rg_0 ) k_Ref rfl rfl (Nat.le_of_ble_eq_true rfl) dX8_ready_46 (fun r3 σ2 _ => ?_)
      refine jj_iald C 20 (rg_20 ) dX8_ready_49 ?_
      refine jj_if_le C (tgt := 57) dX8_ready_50 (by decide) (fun _ => ?_) (fun _ => ?_)
      · refine jj_iconst C (v := (0 : Int32)) dX8_ready_57 (by decide) ?_
        exact jj_zret C hr hlocks (by first | rfl | decide +kernel) dX8_ready_58
      · refine jj_iconst C (v := (1 : Int32)) dX8_ready_53 (by decide) ?_
        refine jj_goto C (tgt := 58) dX8_ready_54 (by decide) ?_
        exact jj_zret C hr hlocks (by first | rfl | decide +kernel) dX8_ready_58

set_option maxHeartbeats 4000000 in
set_option maxRecDepth 100000 in
theorem l_rRef_name_14 {p : Program} {l : Launch} {e : Env} {R : Room} {s : State} {m : MethodId} {args : Array Value} {below : List Frame} {meth : Method} {c : Code} {D : va_G} {A : Nat → Prop} {ad : Nat → Nat} {cA : FieldType → ClassId} { F : Nat} (C : jj_C p R s m args c D vwCl A ad cA (gm) 6 0 0 cX8_name RX8 jw_t) (hr : meth.sig.returnType = (some .int)) (hlocks : meth.locks = false) (hRm : 2 ≤ R.frames ∧ 80 ≤ R.locals) {K : jj_S → Int32 → Int32 → Int32 → Int32 → Option (Int32 × jj_S)} (hK : ∀ (σ : jj_S) (x1 x2 x3 x4 : Int32), jj_J p l e R s m args below meth c D vwCl A ad cA (gm) 6 0 0 (jj_Qi below D vwCl A ad cA (gm) args s 0 0) (K σ x1 x2 x3 x4) σ 54 [(0, .ref (ad 0)), (1, .int x1), (2, .int x2), (3, .int x3), (4, .int x4)] []) : ∀ (k : Nat) (σ : jj_S) (x1 x2 x3 x4 : Int32), jj_J p l e R s m args below meth c D vwCl A ad cA (gm) 6 0 0 (jj_Qi below D vwCl A ad cA (gm) args s 0 0) (jj_lp4 (b_rRef_name_14  F K) k σ x1 x2 x3 x4) σ 14 [(0, .ref (ad 0)), (1, .int x1), (2, .int x2), (3, .int x3), (4, .int x4)] [] := by
  refine jj_loop4 (T := fun o σ x1 x2 x3 x4 => jj_J p l e R s m args below meth c D vwCl A ad cA (gm) 6 0 0 (jj_Qi below D vwCl A ad cA (gm) args s 0 0) o σ 14 [(0, .ref (ad 0)), (1, .int x1), (2, .int x2), (3, .int x3), (4, .int x4)] []) (fun _ _ _ _ _ _ h => by cases h) ?_
  intro rec ih σ x1 x2 x3 x4
  unfold b_rRef_name_14
  refine jj_iload C 4 dX8_name_14 rfl ?_
  refine jj_aload_n C 0 dX8_name_16 rfl rfl ?_
  refine jj_geti C 0 4 in_Ref (rg_0 ) k_Ref (by decide) fl_Ref_108 rfl dX8_name_17 ?_
  refine jj_icmp_ge C (tgt := 54) dX8_name_20 (by decide) (fun _ => ?_) (fun _ => ?_)
  · refine jj_sub [0, 1, 2, 3, 4] rfl ?_
    exact hK σ x1 x2 x3 x4
  · refine jj_iload_n C 3 dX8_name_23 rfl rfl ?_
    refine jj_iload C 4 dX8_name_24 rfl ?_
    refine jj_iadd C dX8_name_26 ?_
    refine jj_aload_n C 0 dX8_name_27 rfl rfl ?_
    refine jj_geti C 0 4 in_Ref (rg_0 ) k_Ref (by decide) fl_Ref_108 rfl dX8_name_28 ?_
    refine jj_irem C dX8_name_31 ?_
    refine jj_ltn (fun v5_2 => ?_)
    refine jj_istore C [(5, .int v5_2), (0, .ref (ad 0)), (1, .int x1), (2, .int x2), (3, .int x3), (4, .int x4)] dX8_name_32 (by decide) rfl ?_
    refine jj_aload_n C 1 dX8_name_34 rfl rfl ?_
    refine jj_iload_n C 2 dX8_name_35 rfl rfl ?_
    refine jj_iload_n C 3 dX8_name_36 rfl rfl ?_
    refine jj_iload C 0 dX8_name_37 rfl ?_
    refine jj_callVi C (As := [.int x1, .int x2, .int v5_2]) (rest := []) (fun z hz => c_rRef_ready hz) (q_Ref_148 C.2.2.2.2.1 (rm := { frames := 1, cells := 0, slots := 0, locals := 40 }) rfl rfl ⟨Nat.le_trans (by decide) hRm.1, Nat.le_trans (by decide) hRm.2⟩) (rg_0 ) k_Ref rfl rfl (Nat.le_of_ble_eq_true rfl) dX8_name_39 (fun r4 σ3 _ => ?_)
    refine jj_if_eq C (tgt := 48) dX8_name_42 (by decide) (fun _ => ?_) (fun _ => ?_)
    · refine jj_iinc C (v := x4 + (1 : Int32)) [(4, .int (x4 + (1 : Int32))), (5, .int v5_2), (0, .ref (ad 0)), (1, .int x1), (2, .int x2), (3, .int x3)] 5 dX8_name_48 rfl rfl (by decide) rfl ?_
      refine jj_goto C (tgt := 14) dX8_name_51 (by decide) ?_
      refine jj_sub [2, 3, 4, 5, 0] rfl ?_
      exact ih σ3 x1 x2 x3 (x4 + (1 : Int32))
    · refine jj_iload C 0 dX8_name_45 rfl ?_
      exact jj_iret C hr hlocks dX8_name_47

set_option maxHeartbeats 4000000 in
set_option maxRecDepth 100000 in
theorem c_rRef_name {l : Launch} {D : va_G} {ad : Nat → Nat} {cA : FieldType → ClassId} { F : Nat} {σ : jj_S} {a1 a2 : Int32} {z : (Int32 × jj_S)} (ho : f_rRef_name  F σ a1 a2 = some z) : jj_Mi l yX8_name (Cond.code yX8_name cX8_name 6 (some .int) :: jw_t) { frames := 2, cells := 0, slots := 0, locals := 80 } D vwCl ad cA (gm) [.ref (ad 0), .int a1, .int a2] σ z := by
  refine jj_ofi (cc := cX8_name) (nL := 6) (ret := (some .int)) rfl ho (Nat.le_of_ble_eq_true rfl) ?_
  intro p e s m below meth c C hr hlocks
  generalize hA : va_A (jj_w ad cA (gm) σ) s.heap.size = A at C ⊢
  have hRm : 2 ≤ (headSpec (Cond.code yX8_name cX8_name 6 (some .int) :: jw_t) { frames := 2, cells := 0, slots := 0, locals := 80 }).room.frames ∧ 80 ≤ (headSpec (Cond.code yX8_name cX8_name 6 (some .int) :: jw_t) { frames := 2, cells := 0, slots := 0, locals := 80 }).room.locals := ⟨Nat.le_refl _, Nat.le_refl _⟩
  generalize (headSpec (Cond.code yX8_name cX8_name 6 (some .int) :: jw_t) { frames := 2, cells := 0, slots := 0, locals := 80 }).room = R at C hRm ⊢
  generalize List.toArray ([.ref (ad 0), .int a1, .int a2] : List Value) = args at C ⊢
  refine jj_sub (lv' := [(0, .ref (ad 0)), (1, .int a1), (2, .int a2)]) [0, 1, 2] rfl ?_
  unfold f_rRef_name
  refine jj_aload_n C 0 dX8_name_0 rfl rfl ?_
  refine jj_getr C 0 34 in_Ref (rg_0 ) k_Ref (by decide) fl_Ref_86 rfl dX8_name_1 ?_
  refine jj_iconst C (v := (5 : Int32)) dX8_name_4 (by decide) ?_
  refine jj_iload_n C 1 dX8_name_5 rfl rfl ?_
  refine jj_imul C dX8_name_6 ?_
  refine jj_iload_n C 2 dX8_name_7 rfl rfl ?_
  refine jj_iadd C dX8_name_8 ?_
  refine jj_iald C 26 (rg_26 ) dX8_name_9 ?_
  refine jj_ltn (fun v3_1 => ?_)
  refine jj_istore_n C [(3, .int v3_1), (0, .ref (ad 0)), (1, .int a1), (2, .int a2)] dX8_name_10 rfl (by decide) rfl ?_
  refine jj_iconst C (v := (0 : Int32)) dX8_name_11 (by decide) ?_
  refine jj_istore C [(4, .int (0 : Int32)), (3, .int v3_1), (0, .ref (ad 0)), (1, .int a1), (2, .int a2)] dX8_name_12 (by decide) rfl ?_
  refine jj_sub [2, 3, 4, 1, 0] rfl ?_
  refine l_rRef_name_14 C hr hlocks hRm (fun σ5 x1_6 x2_7 x3_8 x4_9 => ?_) F σ a1 a2 v3_1 (0 : Int32)
  refine jj_iconst C (v := (-1 : Int32)) dX8_name_54 (by decide) ?_
  exact jj_iret C hr hlocks dX8_name_55

set_option maxHeartbeats 4000000 in
set_option maxRecDepth 100000 in
theorem l_rRef_moveTo_14 {p : Program} {l : Launch} {e : Env} {R : Room} {s : State} {m : MethodId} {args : Array Value} {below : List Frame} {meth : Method} {c : Code} {D : va_G} {A : Nat → Prop} {ad : Nat → Nat} {cA : FieldType → ClassId} { F : Nat} (C : jj_C p R s m args c D vwCl A ad cA (gm) 9 0 0 cX8_moveTo RX8 jw_t) (hr : meth.sig.returnType = none) (hlocks : meth.locks = false) (hRm : 2 ≤ R.frames ∧ 80 ≤ R.locals) {K : jj_S → Int32 → Int32 → Int32 → Int32 → Option jj_S} (hK : ∀ (σ : jj_S) (x1 x2 x3 x4 : Int32), jj_J p l e R s m args below meth c D vwCl A ad cA (gm) 9 0 0 (jj_Qv below D vwCl A ad cA (gm) args s 0 0) (K σ x1 x2 x3 x4) σ 164 [(0, .ref (ad 0)), (1, .int x1), (2, .int x2), (3, .int x3), (4, .int x4)] []) : ∀ (k : Nat) (σ : jj_S) (x1 x2 x3 x4 : Int32), jj_J p l e R s m args below meth c D vwCl A ad cA (gm) 9 0 0 (jj_Qv below D vwCl A ad cA (gm) args s 0 0) (jj_lp4 (b_rRef_moveTo_14  F K) k σ x1 x2 x3 x4) σ 14 [(0, .ref (ad 0)), (1, .int x1), (2, .int x2), (3, .int x3), (4, .int x4)] [] := by
  refine jj_loop4 (T := fun o σ x1 x2 x3 x4 => jj_J p l e R s m args below meth c D vwCl A ad cA (gm) 9 0 0 (jj_Qv below D vwCl A ad cA (gm) args s 0 0) o σ 14 [(0, .ref (ad 0)), (1, .int x1), (2, .int x2), (3, .int x3), (4, .int x4)] []) (fun _ _ _ _ _ _ h => by cases h) ?_
  intro rec ih σ x1 x2 x3 x4
  unfold b_rRef_moveTo_14
  refine jj_iload C 4 dX8_moveTo_14 rfl ?_
  refine jj_iconst C (v := (5 : Int32)) dX8_moveTo_16 (by decide) ?_
  refine jj_icmp_ge C (tgt := 164) dX8_moveTo_17 (by decide) (fun _ => ?_) (fun _ => ?_)
  · refine jj_sub [0, 1, 2, 3, 4] rfl ?_
    exact hK σ x1 x2 x3 x4
  · refine jj_iload_n C 3 dX8_moveTo_20 rfl rfl ?_
    refine jj_iload C 4 dX8_moveTo_21 rfl ?_
    refine jj_iadd C dX8_moveTo_23 ?_
    refine jj_iconst C (v := (5 : Int32)) dX8_moveTo_24 (by decide) ?_
    refine jj_irem C dX8_moveTo_25 ?_
    refine jj_ltn (fun v5_2 => ?_)
    refine jj_istore C [(5, .int v5_2), (0, .ref (ad 0)), (1, .int x1), (2, .int x2), (3, .int x3), (4, .int x4)] dX8_moveTo_26 (by decide) rfl ?_
    refine jj_aload_n C 1 dX8_moveTo_28 rfl rfl ?_
    refine jj_getr C 0 36 in_Ref (rg_0 ) k_Ref (by decide) fl_Ref_92 rfl dX8_moveTo_29 ?_
    refine jj_iload C 0 dX8_moveTo_32 rfl ?_
    refine jj_iald C 28 (rg_28 ) dX8_moveTo_34 ?_
    refine jj_ltn (fun v6_3 => ?_)
    refine jj_istore C [(6, .int v6_3), (5, .int v5_2), (0, .ref (ad 0)), (1, .int x1), (2, .int x2), (3, .int x3), (4, .int x4)] dX8_moveTo_35 (by decide) rfl ?_
    refine jj_iconst C (v := (4 : Int32)) dX8_moveTo_37 (by decide) ?_
    refine jj_iconst C (v := (5 : Int32)) dX8_moveTo_38 (by decide) ?_
    refine jj_iload_n C 3 dX8_moveTo_39 rfl rfl ?_
    refine jj_imul C dX8_moveTo_40 ?_
    refine jj_iload C 1 dX8_moveTo_41 rfl ?_
    refine jj_iadd C dX8_moveTo_43 ?_
    refine jj_imul C dX8_moveTo_44 ?_
    refine jj_iload C 0 dX8_moveTo_45 rfl ?_
    refine jj_iadd C dX8_moveTo_47 ?_
    refine jj_ltn (fun v7_4 => ?_)
    refine jj_istore C [(7, .int v7_4), (6, .int v6_3), (5, .int v5_2), (0, .ref (ad 0)), (1, .int x1), (2, .int x2), (3, .int x3), (4, .int x4)] dX8_moveTo_48 (by decide) rfl ?_
    refine jj_iload C 1 dX8_moveTo_50 rfl ?_
    refine jj_if_lt C (tgt := 158) dX8_moveTo_52 (by decide) (fun _ => ?_) (fun _ => ?_)
    · refine jj_iinc C (v := x4 + (1 : Int32)) [(4, .int (x4 + (1 : Int32))), (7, .int v7_4), (6, .int v6_3), (5, .int v5_2), (0, .ref (ad 0)), (1, .int x1), (2, .int x2), (3, .int x3)] 7 dX8_moveTo_158 rfl rfl (by decide) rfl ?_
      refine jj_goto C (tgt := 14) dX8_moveTo_161 (by decide) ?_
      refine jj_sub [4, 5, 6, 7, 0] rfl ?_
      exact ih σ x1 x2 x3 (x4 + (1 : Int32))
    · refine jj_aload_n C 3 dX8_moveTo_55 rfl rfl ?_
      refine jj_getr C 0 31 in_Ref (rg_0 ) k_Ref (by decide) fl_Ref_77 rfl dX8_moveTo_56 ?_
      refine jj_iload C 0 dX8_moveTo_59 rfl ?_
      refine jj_iald C 23 (rg_23 ) dX8_moveTo_61 ?_
      refine jj_iload_n C 5 dX8_moveTo_62 rfl rfl ?_
      refine jj_icmp_ne C (tgt := 158) dX8_moveTo_63 (by decide) (fun _ => ?_) (fun _ => ?_)
      · refine jj_iinc C (v := x4 + (1 : Int32)) [(4, .int (x4 + (1 : Int32))), (7, .int v7_4), (6, .int v6_3), (5, .int v5_2), (0, .ref (ad 0)), (1, .int x1), (2, .int x2), (3, .int x3)] 7 dX8_moveTo_158 rfl rfl (by decide) rfl ?_
        refine jj_goto C (tgt := 14) dX8_moveTo_161 (by decide) ?_
        refine jj_sub [4, 5, 6, 7, 0] rfl ?_
        exact ih σ x1 x2 x3 (x4 + (1 : Int32))
      · refine jj_aload_n C 3 dX8_moveTo_66 rfl rfl ?_
        refine jj_iload C 0 dX8_moveTo_67 rfl ?_
        refine jj_callVi C (As := [.int v7_4]) (rest := []) (fun z hz => c_rRef_take hz) (q_Ref_128 C.2.2.2.2.1 (rm := { frames := 0, cells := 0, slots := 0, locals := 0 }) rfl rfl ⟨Nat.le_trans (by decide) hRm.1, Nat.le_trans (by decide) hRm.2⟩) (rg_0 ) k_Ref rfl rfl (Nat.le_of_ble_eq_true rfl) dX8_moveTo_69 (fun r6 σ5 _ => ?_)
        refine jj_istore C [(8, .int r6), (7, .int v7_4), (6, .int v6_3), (5, .int v5_2), (0, .ref (ad 0)), (1, .int x1), (2, .int x2), (3, .int x3), (4, .int x4)] dX8_moveTo_72 (by decide) rfl ?_
        refine jj_aload_n C 4 dX8_moveTo_74 rfl rfl ?_
        refine jj_aload_n C 4 dX8_moveTo_75 rfl rfl ?_
        refine jj_iload_n C 5 dX8_moveTo_76 rfl rfl ?_
        refine jj_iload_n C 6 dX8_moveTo_77 rfl rfl ?_
        refine jj_iload C 2 dX8_moveTo_78 rfl ?_
        refine jj_callVi C (As := [.int x1, .int x2, .int v6_3]) (rest := [.ref (ad 0)]) (fun z hz => c_rRef_beyond hz) (q_Ref_144 C.2.2.2.2.1 (rm := { frames := 0, cells := 0, slots := 0, locals := 0 }) rfl rfl ⟨Nat.le_trans (by decide) hRm.1, Nat.le_trans (by decide) hRm.2⟩) (rg_0 ) k_Ref rfl rfl (Nat.le_of_ble_eq_true rfl) dX8_moveTo_80 (fun r8 σ7 _ => ?_)
        refine jj_iload C 0 dX8_moveTo_83 rfl ?_
        refine jj_callVv C (As := [.int r8, .int r6]) (rest := []) (fun z hz => c_rRef_send hz) (q_Ref_140 C.2.2.2.2.1 (rm := { frames := 0, cells := 0, slots := 0, locals := 0 }) rfl rfl ⟨Nat.le_trans (by decide) hRm.1, Nat.le_trans (by decide) hRm.2⟩) (rg_0 ) k_Ref rfl rfl (Nat.le_of_ble_eq_true rfl) dX8_moveTo_85 (fun σ9 _ => ?_)
        refine jj_aload_n C 4 dX8_moveTo_88 rfl rfl ?_
        refine jj_getr C 0 35 in_Ref (rg_0 ) k_Ref (by decide) fl_Ref_89 rfl dX8_moveTo_89 ?_
        refine jj_iconst C (v := (5 : Int32)) dX8_moveTo_92 (by decide) ?_
        refine jj_iload_n C 5 dX8_moveTo_93 rfl rfl ?_
        refine jj_imul C dX8_moveTo_94 ?_
        refine jj_iload_n C 6 dX8_moveTo_95 rfl rfl ?_
        refine jj_iadd C dX8_moveTo_96 ?_
        refine jj_iload C 3 dX8_moveTo_97 rfl ?_
        refine jj_iconst C (v := (1 : Int32)) dX8_moveTo_99 (by decide) ?_
        refine jj_iadd C dX8_moveTo_100 ?_
        refine jj_iconst C (v := (5 : Int32)) dX8_moveTo_101 (by decide) ?_
        refine jj_irem C dX8_moveTo_102 ?_
        refine jj_iast C 27 (rg_27 ) dX8_moveTo_103 ?_
        refine jj_stn (fun σ10 => ?_)
        refine jj_aload_n C 4 dX8_moveTo_104 rfl rfl ?_
        refine jj_getr C 0 34 in_Ref (rg_0 ) k_Ref (by decide) fl_Ref_86 rfl dX8_moveTo_105 ?_
        refine jj_iconst C (v := (5 : Int32)) dX8_moveTo_108 (by decide) ?_
        refine jj_iload_n C 5 dX8_moveTo_109 rfl rfl ?_
        refine jj_imul C dX8_moveTo_110 ?_
        refine jj_iload C 3 dX8_moveTo_111 rfl ?_
        refine jj_iadd C dX8_moveTo_113 ?_
        refine jj_iload C 2 dX8_moveTo_114 rfl ?_
        refine jj_iconst C (v := (1 : Int32)) dX8_moveTo_116 (by decide) ?_
        refine jj_iadd C dX8_moveTo_117 ?_
        refine jj_aload_n C 4 dX8_moveTo_118 rfl rfl ?_
        refine jj_geti C 0 4 in_Ref (rg_0 ) k_Ref (by decide) fl_Ref_108 rfl dX8_moveTo_119 ?_
        refine jj_irem C dX8_moveTo_122 ?_
        refine jj_iast C 26 (rg_26 ) dX8_moveTo_123 ?_
        refine jj_stn (fun σ11 => ?_)
        refine jj_aload_n C 4 dX8_moveTo_124 rfl rfl ?_
        refine jj_iload C 0 dX8_moveTo_125 rfl ?_
        refine jj_callVi C (As := [.int r6]) (rest := []) (fun z hz => c_rRef_isLast hz) (q_Ref_125 C.2.2.2.2.1 (rm := { frames := 1, cells := 0, slots := 0, locals := 40 }) rfl rfl ⟨Nat.le_trans (by decide) hRm.1, Nat.le_trans (by decide) hRm.2⟩) (rg_0 ) k_Ref rfl rfl (Nat.le_of_ble_eq_true rfl) dX8_moveTo_127 (fun r13 σ12 _ => ?_)
        refine jj_if_eq C (tgt := 157) dX8_moveTo_130 (by decide) (fun _ => ?_) (fun _ => ?_)
        · exact jj_vret C hr hlocks dX8_moveTo_157
        · refine jj_aload_n C 4 dX8_moveTo_133 rfl rfl ?_
          refine jj_getr C 0 32 in_Ref (rg_0 ) k_Ref (by decide) fl_Ref_80 rfl dX8_moveTo_134 ?_
          refine jj_iconst C (v := (4 : Int32)) dX8_moveTo_137 (by decide) ?_
          refine jj_iconst C (v := (5 : Int32)) dX8_moveTo_138 (by decide) ?_
          refine jj_iload_n C 5 dX8_moveTo_139 rfl rfl ?_
          refine jj_imul C dX8_moveTo_140 ?_
          refine jj_iload_n C 6 dX8_moveTo_141 rfl rfl ?_
          refine jj_iadd C dX8_moveTo_142 ?_
          refine jj_imul C dX8_moveTo_143 ?_
          refine jj_iload C 2 dX8_moveTo_144 rfl ?_
          refine jj_iadd C dX8_moveTo_146 ?_
          refine jj_iconst C (v := (0 : Int32)) dX8_moveTo_147 (by decide) ?_
          refine jj_zast C 24 (rg_24 ) dX8_moveTo_148 ?_
          refine jj_stn (fun σ14 => ?_)
          refine jj_aload_n C 4 dX8_moveTo_149 rfl rfl ?_
          refine jj_getr C 0 30 in_Ref (rg_0 ) k_Ref (by decide) fl_Ref_74 rfl dX8_moveTo_150 ?_
          refine jj_iload C 1 dX8_moveTo_153 rfl ?_
          refine jj_iconst C (v := (0 : Int32)) dX8_moveTo_155 (by decide) ?_
          refine jj_iast C 22 (rg_22 ) dX8_moveTo_156 ?_
          refine jj_stn (fun σ15 => ?_)
          exact jj_vret C hr hlocks dX8_moveTo_157

set_option maxHeartbeats 4000000 in
set_option maxRecDepth 100000 in
theorem c_rRef_moveTo {l : Launch} {D : va_G} {ad : Nat → Nat} {cA : FieldType → ClassId} { F : Nat} {σ : jj_S} {a1 a2 : Int32} {z : jj_S} (ho : f_rRef_moveTo  F σ a1 a2 = some z) : jj_Mv l yX8_moveTo (Cond.code yX8_moveTo cX8_moveTo 9 none :: jw_t) { frames := 2, cells := 0, slots := 0, locals := 80 } D vwCl ad cA (gm) [.ref (ad 0), .int a1, .int a2] σ z := by
  refine jj_ofv (cc := cX8_moveTo) (nL := 9) (ret := none) rfl ho (Nat.le_of_ble_eq_true rfl) ?_
  intro p e s m below meth c C hr hlocks
  generalize hA : va_A (jj_w ad cA (gm) σ) s.heap.size = A at C ⊢
  have hRm : 2 ≤ (headSpec (Cond.code yX8_moveTo cX8_moveTo 9 none :: jw_t) { frames := 2, cells := 0, slots := 0, locals := 80 }).room.frames ∧ 80 ≤ (headSpec (Cond.code yX8_moveTo cX8_moveTo 9 none :: jw_t) { frames := 2, cells := 0, slots := 0, locals := 80 }).room.locals := ⟨Nat.le_refl _, Nat.le_refl _⟩
  generalize (headSpec (Cond.code yX8_moveTo cX8_moveTo 9 none :: jw_t) { frames := 2, cells := 0, slots := 0, locals := 80 }).room = R at C hRm ⊢
  generalize List.toArray ([.ref (ad 0), .int a1, .int a2] : List Value) = args at C ⊢
  refine jj_sub (lv' := [(0, .ref (ad 0)), (1, .int a1), (2, .int a2)]) [0, 1, 2] rfl ?_
  unfold f_rRef_moveTo
  refine jj_aload_n C 0 dX8_moveTo_0 rfl rfl ?_
  refine jj_getr C 0 35 in_Ref (rg_0 ) k_Ref (by decide) fl_Ref_89 rfl dX8_moveTo_1 ?_
  refine jj_iconst C (v := (5 : Int32)) dX8_moveTo_4 (by decide) ?_
  refine jj_iload_n C 1 dX8_moveTo_5 rfl rfl ?_
  refine jj_imul C dX8_moveTo_6 ?_
  refine jj_iload_n C 2 dX8_moveTo_7 rfl rfl ?_
  refine jj_iadd C dX8_moveTo_8 ?_
  refine jj_iald C 27 (rg_27 ) dX8_moveTo_9 ?_
  refine jj_ltn (fun v3_1 => ?_)
  refine jj_istore_n C [(3, .int v3_1), (0, .ref (ad 0)), (1, .int a1), (2, .int a2)] dX8_moveTo_10 rfl (by decide) rfl ?_
  refine jj_iconst C (v := (0 : Int32)) dX8_moveTo_11 (by decide) ?_
  refine jj_istore C [(4, .int (0 : Int32)), (3, .int v3_1), (0, .ref (ad 0)), (1, .int a1), (2, .int a2)] dX8_moveTo_12 (by decide) rfl ?_
  refine jj_sub [2, 3, 4, 1, 0] rfl ?_
  refine l_rRef_moveTo_14 C hr hlocks hRm (fun σ16 x1_17 x2_18 x3_19 x4_20 => ?_) F σ a1 a2 v3_1 (0 : Int32)
  exact jj_vret C hr hlocks dX8_moveTo_164

set_option maxHeartbeats 4000000 in
set_option maxRecDepth 100000 in
theorem l_rRef_move_2 {p : Program} {l : Launch} {e : Env} {R : Room} {s : State} {m : MethodId} {args : Array Value} {below : List Frame} {meth : Method} {c : Code} {D : va_G} {A : Nat → Prop} {ad : Nat → Nat} {cA : FieldType → ClassId} { F : Nat} (C : jj_C p R s m args c D vwCl A ad cA (gm) 3 0 0 cX8_move RX8 jw_t) (hr : meth.sig.returnType = none) (hlocks : meth.locks = false) (hRm : 3 ≤ R.frames ∧ 120 ≤ R.locals) {K : jj_S → Int32 → Int32 → Option jj_S} (hK : ∀ (σ : jj_S) (x1 x2 : Int32), jj_J p l e R s m args below meth c D vwCl A ad cA (gm) 3 0 0 (jj_Qv below D vwCl A ad cA (gm) args s 0 0) (K σ x1 x2) σ 25 [(0, .ref (ad 0)), (1, .int x1), (2, .int x2)] []) : ∀ (k : Nat) (σ : jj_S) (x1 x2 : Int32), jj_J p l e R s m args below meth c D vwCl A ad cA (gm) 3 0 0 (jj_Qv below D vwCl A ad cA (gm) args s 0 0) (jj_lp2 (b_rRef_move_2  F K) k σ x1 x2) σ 2 [(0, .ref (ad 0)), (1, .int x1), (2, .int x2)] [] := by
  refine jj_loop2 (T := fun o σ x1 x2 => jj_J p l e R s m args below meth c D vwCl A ad cA (gm) 3 0 0 (jj_Qv below D vwCl A ad cA (gm) args s 0 0) o σ 2 [(0, .ref (ad 0)), (1, .int x1), (2, .int x2)] []) (fun _ _ _ _ h => by cases h) ?_
  intro rec ih σ x1 x2
  unfold b_rRef_move_2
  refine jj_iload_n C 2 dX8_move_2 rfl rfl ?_
  refine jj_iconst C (v := (5 : Int32)) dX8_move_3 (by decide) ?_
  refine jj_icmp_ge C (tgt := 25) dX8_move_4 (by decide) (fun _ => ?_) (fun _ => ?_)
  · refine jj_sub [0, 1, 2] rfl ?_
    exact hK σ x1 x2
  · refine jj_aload_n C 0 dX8_move_7 rfl rfl ?_
    refine jj_getr C 0 36 in_Ref (rg_0 ) k_Ref (by decide) fl_Ref_92 rfl dX8_move_8 ?_
    refine jj_iload_n C 2 dX8_move_11 rfl rfl ?_
    refine jj_aload_n C 0 dX8_move_12 rfl rfl ?_
    refine jj_iload_n C 1 dX8_move_13 rfl rfl ?_
    refine jj_iload_n C 2 dX8_move_14 rfl rfl ?_
    refine jj_callVi C (As := [.int x1, .int x2]) (rest := [.int x2, .ref (ad 28)]) (fun z hz => c_rRef_name hz) (q_Ref_152 C.2.2.2.2.1 (rm := { frames := 2, cells := 0, slots := 0, locals := 80 }) rfl rfl ⟨Nat.le_trans (by decide) hRm.1, Nat.le_trans (by decide) hRm.2⟩) (rg_0 ) k_Ref rfl rfl (Nat.le_of_ble_eq_true rfl) dX8_move_15 (fun r2 σ1 _ => ?_)
    refine jj_iast C 28 (rg_28 ) dX8_move_18 ?_
    refine jj_stn (fun σ3 => ?_)
    refine jj_iinc C (v := x2 + (1 : Int32)) [(2, .int (x2 + (1 : Int32))), (0, .ref (ad 0)), (1, .int x1)] 2 dX8_move_19 rfl rfl (by decide) rfl ?_
    refine jj_goto C (tgt := 2) dX8_move_22 (by decide) ?_
    refine jj_sub [1, 2, 0] rfl ?_
    exact ih σ3 x1 (x2 + (1 : Int32))

set_option maxHeartbeats 4000000 in
set_option maxRecDepth 100000 in
theorem l_rRef_move_27 {p : Program} {l : Launch} {e : Env} {R : Room} {s : State} {m : MethodId} {args : Array Value} {below : List Frame} {meth : Method} {c : Code} {D : va_G} {A : Nat → Prop} {ad : Nat → Nat} {cA : FieldType → ClassId} { F : Nat} (C : jj_C p R s m args c D vwCl A ad cA (gm) 3 0 0 cX8_move RX8 jw_t) (hr : meth.sig.returnType = none) (hlocks : meth.locks = false) (hRm : 3 ≤ R.frames ∧ 120 ≤ R.locals) {K : jj_S → Int32 → Int32 → Option jj_S} (hK : ∀ (σ : jj_S) (x1 x2 : Int32), jj_J p l e R s m args below meth c D vwCl A ad cA (gm) 3 0 0 (jj_Qv below D vwCl A ad cA (gm) args s 0 0) (K σ x1 x2) σ 44 [(0, .ref (ad 0)), (1, .int x1), (2, .int x2)] []) : ∀ (k : Nat) (σ : jj_S) (x1 x2 : Int32), jj_J p l e R s m args below meth c D vwCl A ad cA (gm) 3 0 0 (jj_Qv below D vwCl A ad cA (gm) args s 0 0) (jj_lp2 (b_rRef_move_27  F K) k σ x1 x2) σ 27 [(0, .ref (ad 0)), (1, .int x1), (2, .int x2)] [] := by
  refine jj_loop2 (T := fun o σ x1 x2 => jj_J p l e R s m args below meth c D vwCl A ad cA (gm) 3 0 0 (jj_Qv below D vwCl A ad cA (gm) args s 0 0) o σ 27 [(0, .ref (ad 0)), (1, .int x1), (2, .int x2)] []) (fun _ _ _ _ h => by cases h) ?_
  intro rec ih σ x1 x2
  unfold b_rRef_move_27
  refine jj_iload_n C 2 dX8_move_27 rfl rfl ?_
  refine jj_iconst C (v := (5 : Int32)) dX8_move_28 (by decide) ?_
  refine jj_icmp_ge C (tgt := 44) dX8_move_29 (by decide) (fun _ => ?_) (fun _ => ?_)
  · refine jj_sub [0, 1, 2] rfl ?_
    exact hK σ x1 x2
  · refine jj_aload_n C 0 dX8_move_32 rfl rfl ?_
    refine jj_iload_n C 1 dX8_move_33 rfl rfl ?_
    refine jj_iload_n C 2 dX8_move_34 rfl rfl ?_
    refine jj_callVv C (As := [.int x1, .int x2]) (rest := []) (fun z hz => c_rRef_moveTo hz) (q_Ref_156 C.2.2.2.2.1 (rm := { frames := 2, cells := 0, slots := 0, locals := 80 }) rfl rfl ⟨Nat.le_trans (by decide) hRm.1, Nat.le_trans (by decide) hRm.2⟩) (rg_0 ) k_Ref rfl rfl (Nat.le_of_ble_eq_true rfl) dX8_move_35 (fun σ7 _ => ?_)
    refine jj_iinc C (v := x2 + (1 : Int32)) [(2, .int (x2 + (1 : Int32))), (0, .ref (ad 0)), (1, .int x1)] 2 dX8_move_38 rfl rfl (by decide) rfl ?_
    refine jj_goto C (tgt := 27) dX8_move_41 (by decide) ?_
    refine jj_sub [1, 2, 0] rfl ?_
    exact ih σ7 x1 (x2 + (1 : Int32))

set_option maxHeartbeats 4000000 in
set_option maxRecDepth 100000 in
theorem c_rRef_move {l : Launch} {D : va_G} {ad : Nat → Nat} {cA : FieldType → ClassId} { F : Nat} {σ : jj_S} {a1 : Int32} {z : jj_S} (ho : f_rRef_move  F σ a1 = some z) : jj_Mv l yX8_move (Cond.code yX8_move cX8_move 3 none :: jw_t) { frames := 3, cells := 0, slots := 0, locals := 120 } D vwCl ad cA (gm) [.ref (ad 0), .int a1] σ z := by
  refine jj_ofv (cc := cX8_move) (nL := 3) (ret := none) rfl ho (Nat.le_of_ble_eq_true rfl) ?_
  intro p e s m below meth c C hr hlocks
  generalize hA : va_A (jj_w ad cA (gm) σ) s.heap.size = A at C ⊢
  have hRm : 3 ≤ (headSpec (Cond.code yX8_move cX8_move 3 none :: jw_t) { frames := 3, cells := 0, slots := 0, locals := 120 }).room.frames ∧ 120 ≤ (headSpec (Cond.code yX8_move cX8_move 3 none :: jw_t) { frames := 3, cells := 0, slots := 0, locals := 120 }).room.locals := ⟨Nat.le_refl _, Nat.le_refl _⟩
  generalize (headSpec (Cond.code yX8_move cX8_move 3 none :: jw_t) { frames := 3, cells := 0, slots := 0, locals := 120 }).room = R at C hRm ⊢
  generalize List.toArray ([.ref (ad 0), .int a1] : List Value) = args at C ⊢
  refine jj_sub (lv' := [(0, .ref (ad 0)), (1, .int a1)]) [0, 1] rfl ?_
  unfold f_rRef_move
  refine jj_iconst C (v := (0 : Int32)) dX8_move_0 (by decide) ?_
  refine jj_istore_n C [(2, .int (0 : Int32)), (0, .ref (ad 0)), (1, .int a1)] dX8_move_1 rfl (by decide) rfl ?_
  refine jj_sub [1, 2, 0] rfl ?_
  refine l_rRef_move_2 C hr hlocks hRm (fun σ4 x1_5 x2_6 => ?_) F σ a1 (0 : Int32)
  refine jj_iconst C (v := (0 : Int32)) dX8_move_25 (by decide) ?_
  refine jj_istore_n C [(2, .int (0 : Int32)), (0, .ref (ad 0)), (1, .int x1_5)] dX8_move_26 rfl (by decide) rfl ?_
  refine jj_sub [1, 2, 0] rfl ?_
  refine l_rRef_move_27 C hr hlocks hRm (fun σ8 x1_9 x2_10 => ?_) F σ4 x1_5 (0 : Int32)
  exact jj_vret C hr hlocks dX8_move_44

set_option maxHeartbeats 4000000 in
set_option maxRecDepth 100000 in
theorem l_rRef_grant_25 {p : Program} {l : Launch} {e : Env} {R : Room} {s : State} {m : MethodId} {args : Array Value} {below : List Frame} {meth : Method} {c : Code} {D : va_G} {A : Nat → Prop} {ad : Nat → Nat} {cA : FieldType → ClassId} { F : Nat} (C : jj_C p R s m args c D vwCl A ad cA (gm) 8 0 0 cX8_grant RX8 jw_t) (hr : meth.sig.returnType = none) (hlocks : meth.locks = false) (hRm : 0 ≤ R.frames ∧ 0 ≤ R.locals) {K : jj_S → Int32 → Int32 → Int32 → Int32 → Int32 → Option jj_S} (hK : ∀ (σ : jj_S) (x1 x2 x3 x4 x5 : Int32), jj_J p l e R s m args below meth c D vwCl A ad cA (gm) 8 0 0 (jj_Qv below D vwCl A ad cA (gm) args s 0 0) (K σ x1 x2 x3 x4 x5) σ 115 [(0, .ref (ad 0)), (1, .int x1), (2, .int x2), (3, .int x3), (4, .int x4), (5, .int x5)] []) : ∀ (k : Nat) (σ : jj_S) (x1 x2 x3 x4 x5 : Int32), jj_J p l e R s m args below meth c D vwCl A ad cA (gm) 8 0 0 (jj_Qv below D vwCl A ad cA (gm) args s 0 0) (jj_lp5 (b_rRef_grant_25  F K) k σ x1 x2 x3 x4 x5) σ 25 [(0, .ref (ad 0)), (1, .int x1), (2, .int x2), (3, .int x3), (4, .int x4), (5, .int x5)] [] := by
  refine jj_loop5 (T := fun o σ x1 x2 x3 x4 x5 => jj_J p l e R s m args below meth c D vwCl A ad cA (gm) 8 0 0 (jj_Qv below D vwCl A ad cA (gm) args s 0 0) o σ 25 [(0, .ref (ad 0)), (1, .int x1), (2, .int x2), (3, .int x3), (4, .int x4), (5, .int x5)] []) (fun _ _ _ _ _ _ _ h => by cases h) ?_
  intro rec ih σ x1 x2 x3 x4 x5
  unfold b_rRef_grant_25
  refine jj_iload C 5 dX8_grant_25 rfl ?_
  refine jj_iconst C (v := (5 : Int32)) dX8_grant_27 (by decide) ?_
  refine jj_icmp_ge C (tgt := 115) dX8_grant_28 (by decide) (fun _ => ?_) (fun _ => ?_)
  · refine jj_sub [0, 1, 2, 3, 4, 5] rfl ?_
    exact hK σ x1 x2 x3 x4 x5
  · refine jj_aload_n C 0 dX8_grant_31 rfl rfl ?_
    refine jj_getr C 0 33 in_Ref (rg_0 ) k_Ref (by decide) fl_Ref_83 rfl dX8_grant_32 ?_
    refine jj_iload C 4 dX8_grant_35 rfl ?_
    refine jj_iald C 25 (rg_25 ) dX8_grant_37 ?_
    refine jj_iload C 5 dX8_grant_38 rfl ?_
    refine jj_iadd C dX8_grant_40 ?_
    refine jj_iconst C (v := (5 : Int32)) dX8_grant_41 (by decide) ?_
    refine jj_irem C dX8_grant_42 ?_
    refine jj_ltn (fun v6_2 => ?_)
    refine jj_istore C [(6, .int v6_2), (0, .ref (ad 0)), (1, .int x1), (2, .int x2), (3, .int x3), (4, .int x4), (5, .int x5)] dX8_grant_43 (by decide) rfl ?_
    refine jj_iconst C (v := (4 : Int32)) dX8_grant_45 (by decide) ?_
    refine jj_iconst C (v := (5 : Int32)) dX8_grant_46 (by decide) ?_
    refine jj_iload_n C 2 dX8_grant_47 rfl rfl ?_
    refine jj_imul C dX8_grant_48 ?_
    refine jj_iload C 0 dX8_grant_49 rfl ?_
    refine jj_iadd C dX8_grant_51 ?_
    refine jj_imul C dX8_grant_52 ?_
    refine jj_iload_n C 4 dX8_grant_53 rfl rfl ?_
    refine jj_iadd C dX8_grant_54 ?_
    refine jj_ltn (fun v7_3 => ?_)
    refine jj_istore C [(7, .int v7_3), (6, .int v6_2), (0, .ref (ad 0)), (1, .int x1), (2, .int x2), (3, .int x3), (4, .int x4), (5, .int x5)] dX8_grant_55 (by decide) rfl ?_
    refine jj_aload_n C 2 dX8_grant_57 rfl rfl ?_
    refine jj_getr C 0 30 in_Ref (rg_0 ) k_Ref (by decide) fl_Ref_74 rfl dX8_grant_58 ?_
    refine jj_iload C 0 dX8_grant_61 rfl ?_
    refine jj_iald C 22 (rg_22 ) dX8_grant_63 ?_
    refine jj_iconst C (v := (1 : Int32)) dX8_grant_64 (by decide) ?_
    refine jj_icmp_ne C (tgt := 109) dX8_grant_65 (by decide) (fun _ => ?_) (fun _ => ?_)
    · refine jj_iinc C (v := x5 + (1 : Int32)) [(5, .int (x5 + (1 : Int32))), (7, .int v7_3), (6, .int v6_2), (0, .ref (ad 0)), (1, .int x1), (2, .int x2), (3, .int x3), (4, .int x4)] 7 dX8_grant_109 rfl rfl (by decide) rfl ?_
      refine jj_goto C (tgt := 25) dX8_grant_112 (by decide) ?_
      refine jj_sub [3, 4, 5, 6, 7, 0] rfl ?_
      exact ih σ x1 x2 x3 x4 (x5 + (1 : Int32))
    · refine jj_aload_n C 2 dX8_grant_68 rfl rfl ?_
      refine jj_getr C 0 31 in_Ref (rg_0 ) k_Ref (by decide) fl_Ref_77 rfl dX8_grant_69 ?_
      refine jj_iload C 0 dX8_grant_72 rfl ?_
      refine jj_iald C 23 (rg_23 ) dX8_grant_74 ?_
      refine jj_iload_n C 4 dX8_grant_75 rfl rfl ?_
      refine jj_icmp_ne C (tgt := 109) dX8_grant_76 (by decide) (fun _ => ?_) (fun _ => ?_)
      · refine jj_iinc C (v := x5 + (1 : Int32)) [(5, .int (x5 + (1 : Int32))), (7, .int v7_3), (6, .int v6_2), (0, .ref (ad 0)), (1, .int x1), (2, .int x2), (3, .int x3), (4, .int x4)] 7 dX8_grant_109 rfl rfl (by decide) rfl ?_
        refine jj_goto C (tgt := 25) dX8_grant_112 (by decide) ?_
        refine jj_sub [3, 4, 5, 6, 7, 0] rfl ?_
        exact ih σ x1 x2 x3 x4 (x5 + (1 : Int32))
      · refine jj_aload_n C 2 dX8_grant_79 rfl rfl ?_
        refine jj_getr C 0 32 in_Ref (rg_0 ) k_Ref (by decide) fl_Ref_80 rfl dX8_grant_80 ?_
        refine jj_iload C 6 dX8_grant_83 rfl ?_
        refine jj_iconst C (v := (1 : Int32)) dX8_grant_85 (by decide) ?_
        refine jj_zast C 24 (rg_24 ) dX8_grant_86 ?_
        refine jj_stn (fun σ4 => ?_)
        refine jj_aload_n C 2 dX8_grant_87 rfl rfl ?_
        refine jj_getr C 0 30 in_Ref (rg_0 ) k_Ref (by decide) fl_Ref_74 rfl dX8_grant_88 ?_
        refine jj_iload C 0 dX8_grant_91 rfl ?_
        refine jj_iconst C (v := (2 : Int32)) dX8_grant_93 (by decide) ?_
        refine jj_iast C 22 (rg_22 ) dX8_grant_94 ?_
        refine jj_stn (fun σ5 => ?_)
        refine jj_aload_n C 2 dX8_grant_95 rfl rfl ?_
        refine jj_getr C 0 33 in_Ref (rg_0 ) k_Ref (by decide) fl_Ref_83 rfl dX8_grant_96 ?_
        refine jj_iload C 6 dX8_grant_99 rfl ?_
        refine jj_iload C 1 dX8_grant_101 rfl ?_
        refine jj_iconst C (v := (1 : Int32)) dX8_grant_103 (by decide) ?_
        refine jj_iadd C dX8_grant_104 ?_
        refine jj_iconst C (v := (5 : Int32)) dX8_grant_105 (by decide) ?_
        refine jj_irem C dX8_grant_106 ?_
        refine jj_iast C 25 (rg_25 ) dX8_grant_107 ?_
        refine jj_stn (fun σ6 => ?_)
        exact jj_vret C hr hlocks dX8_grant_108

set_option maxHeartbeats 4000000 in
set_option maxRecDepth 100000 in
theorem c_rRef_grant {l : Launch} {D : va_G} {ad : Nat → Nat} {cA : FieldType → ClassId} { F : Nat} {σ : jj_S} {a1 a2 a3 : Int32} {z : jj_S} (ho : f_rRef_grant  F σ a1 a2 a3 = some z) : jj_Mv l yX8_grant (Cond.code yX8_grant cX8_grant 8 none :: jw_t) { frames := 0, cells := 0, slots := 0, locals := 0 } D vwCl ad cA (gm) [.ref (ad 0), .int a1, .int a2, .int a3] σ z := by
  refine jj_ofv (cc := cX8_grant) (nL := 8) (ret := none) rfl ho (Nat.le_of_ble_eq_true rfl) ?_
  intro p e s m below meth c C hr hlocks
  generalize hA : va_A (jj_w ad cA (gm) σ) s.heap.size = A at C ⊢
  have hRm : 0 ≤ (headSpec (Cond.code yX8_grant cX8_grant 8 none :: jw_t) { frames := 0, cells := 0, slots := 0, locals := 0 }).room.frames ∧ 0 ≤ (headSpec (Cond.code yX8_grant cX8_grant 8 none :: jw_t) { frames := 0, cells := 0, slots := 0, locals := 0 }).room.locals := ⟨Nat.le_refl _, Nat.le_refl _⟩
  generalize (headSpec (Cond.code yX8_grant cX8_grant 8 none :: jw_t) { frames := 0, cells := 0, slots := 0, locals := 0 }).room = R at C hRm ⊢
  generalize List.toArray ([.ref (ad 0), .int a1, .int a2, .int a3] : List Value) = args at C ⊢
  refine jj_sub (lv' := [(0, .ref (ad 0)), (1, .int a1), (2, .int a2), (3, .int a3)]) [0, 1, 2, 3] rfl ?_
  unfold f_rRef_grant
  refine jj_iconst C (v := (4 : Int32)) dX8_grant_0 (by decide) ?_
  refine jj_iconst C (v := (5 : Int32)) dX8_grant_1 (by decide) ?_
  refine jj_iload_n C 1 dX8_grant_2 rfl rfl ?_
  refine jj_imul C dX8_grant_3 ?_
  refine jj_iload_n C 2 dX8_grant_4 rfl rfl ?_
  refine jj_iadd C dX8_grant_5 ?_
  refine jj_imul C dX8_grant_6 ?_
  refine jj_iload_n C 3 dX8_grant_7 rfl rfl ?_
  refine jj_iadd C dX8_grant_8 ?_
  refine jj_ltn (fun v4_1 => ?_)
  refine jj_istore C [(4, .int v4_1), (0, .ref (ad 0)), (1, .int a1), (2, .int a2), (3, .int a3)] dX8_grant_9 (by decide) rfl ?_
  refine jj_aload_n C 1 dX8_grant_11 rfl rfl ?_
  refine jj_getr C 0 32 in_Ref (rg_0 ) k_Ref (by decide) fl_Ref_80 rfl dX8_grant_12 ?_
  refine jj_iload C 0 dX8_grant_15 rfl ?_
  refine jj_zald C 24 (rg_24 ) dX8_grant_17 ?_
  refine jj_if_eq C (tgt := 22) dX8_grant_18 (by decide) (fun _ => ?_) (fun _ => ?_)
  · refine jj_iconst C (v := (0 : Int32)) dX8_grant_22 (by decide) ?_
    refine jj_istore C [(5, .int (0 : Int32)), (4, .int v4_1), (0, .ref (ad 0)), (1, .int a1), (2, .int a2), (3, .int a3)] dX8_grant_23 (by decide) rfl ?_
    refine jj_sub [2, 3, 4, 5, 1, 0] rfl ?_
    refine l_rRef_grant_25 C hr hlocks hRm (fun σ7 x1_8 x2_9 x3_10 x4_11 x5_12 => ?_) F σ a1 a2 a3 v4_1 (0 : Int32)
    exact jj_vret C hr hlocks dX8_grant_115
  · exact jj_vret C hr hlocks dX8_grant_21

set_option maxHeartbeats 4000000 in
set_option maxRecDepth 100000 in
theorem c_rRef_target {l : Launch} {D : va_G} {ad : Nat → Nat} {cA : FieldType → ClassId} { F : Nat} {σ : jj_S} {a1 : Int32} {z : (Int32 × jj_S)} (ho : f_rRef_target  F σ a1 = some z) : jj_Mi l yX8_target (Cond.code yX8_target cX8_target 2 (some .int) :: jw_t) { frames := 0, cells := 0, slots := 0, locals := 0 } D vwCl ad cA (gm) [.ref (ad 0), .int a1] σ z := by
  refine jj_ofi (cc := cX8_target) (nL := 2) (ret := (some .int)) rfl ho (Nat.le_of_ble_eq_true rfl) ?_
  intro p e s m below meth c C hr hlocks
  generalize hA : va_A (jj_w ad cA (gm) σ) s.heap.size = A at C ⊢
  have hRm : 0 ≤ (headSpec (Cond.code yX8_target cX8_target 2 (some .int) :: jw_t) { frames := 0, cells := 0, slots := 0, locals := 0 }).room.frames ∧ 0 ≤ (headSpec (Cond.code yX8_target cX8_target 2 (some .int) :: jw_t) { frames := 0, cells := 0, slots := 0, locals := 0 }).room.locals := ⟨Nat.le_refl _, Nat.le_refl _⟩
  generalize (headSpec (Cond.code yX8_target cX8_target 2 (some .int) :: jw_t) { frames := 0, cells := 0, slots := 0, locals := 0 }).room = R at C hRm ⊢
  generalize List.toArray ([.ref (ad 0), .int a1] : List Value) = args at C ⊢
  refine jj_sub (lv' := [(0, .ref (ad 0)), (1, .int a1)]) [0, 1] rfl ?_
  unfold f_rRef_target
  refine jj_iload_n C 1 dX8_target_0 rfl rfl ?_
  refine jj_iconst C (v := (2 : Int32)) dX8_target_1 (by decide) ?_
  refine jj_irem C dX8_target_2 ?_
  refine jj_if_ne C (tgt := 17) dX8_target_3 (by decide) (fun _ => ?_) (fun _ => ?_)
  · refine jj_aload_n C 0 dX8_target_17 rfl rfl ?_
    refine jj_getr C 0 6 in_Ref (rg_0 ) k_Ref (by decide) fl_Ref_7 rfl dX8_target_18 ?_
    refine jj_iload_n C 1 dX8_target_21 rfl rfl ?_
    refine jj_iconst C (v := (2 : Int32)) dX8_target_22 (by decide) ?_
    refine jj_idiv C dX8_target_23 ?_
    refine jj_iald C 1 (rg_1 ) dX8_target_24 ?_
    exact jj_iret C hr hlocks dX8_target_25
  · refine jj_aload_n C 0 dX8_target_6 rfl rfl ?_
    refine jj_getr C 0 7 in_Ref (rg_0 ) k_Ref (by decide) fl_Ref_13 rfl dX8_target_7 ?_
    refine jj_iload_n C 1 dX8_target_10 rfl rfl ?_
    refine jj_iconst C (v := (2 : Int32)) dX8_target_11 (by decide) ?_
    refine jj_idiv C dX8_target_12 ?_
    refine jj_iald C 2 (rg_2 ) dX8_target_13 ?_
    refine jj_goto C (tgt := 25) dX8_target_14 (by decide) ?_
    exact jj_iret C hr hlocks dX8_target_25

set_option maxHeartbeats 4000000 in
set_option maxRecDepth 100000 in
theorem c_rRef_route {l : Launch} {D : va_G} {ad : Nat → Nat} {cA : FieldType → ClassId} { F : Nat} {σ : jj_S} {a1 a2 : Int32} {z : jj_S} (ho : f_rRef_route  F σ a1 a2 = some z) : jj_Mv l yX8_route (Cond.code yX8_route cX8_route 6 none :: jw_t) { frames := 1, cells := 0, slots := 0, locals := 40 } D vwCl ad cA (gm) [.ref (ad 0), .int a1, .int a2] σ z := by
  refine jj_ofv (cc := cX8_route) (nL := 6) (ret := none) rfl ho (Nat.le_of_ble_eq_true rfl) ?_
  intro p e s m below meth c C hr hlocks
  generalize hA : va_A (jj_w ad cA (gm) σ) s.heap.size = A at C ⊢
  have hRm : 1 ≤ (headSpec (Cond.code yX8_route cX8_route 6 none :: jw_t) { frames := 1, cells := 0, slots := 0, locals := 40 }).room.frames ∧ 40 ≤ (headSpec (Cond.code yX8_route cX8_route 6 none :: jw_t) { frames := 1, cells := 0, slots := 0, locals := 40 }).room.locals := ⟨Nat.le_refl _, Nat.le_refl _⟩
  generalize (headSpec (Cond.code yX8_route cX8_route 6 none :: jw_t) { frames := 1, cells := 0, slots := 0, locals := 40 }).room = R at C hRm ⊢
  generalize List.toArray ([.ref (ad 0), .int a1, .int a2] : List Value) = args at C ⊢
  refine jj_sub (lv' := [(0, .ref (ad 0)), (1, .int a1), (2, .int a2)]) [0, 1, 2] rfl ?_
  unfold f_rRef_route
  refine jj_aload_n C 0 dX8_route_0 rfl rfl ?_
  refine jj_getr C 0 30 in_Ref (rg_0 ) k_Ref (by decide) fl_Ref_74 rfl dX8_route_1 ?_
  refine jj_iload_n C 2 dX8_route_4 rfl rfl ?_
  refine jj_iald C 22 (rg_22 ) dX8_route_5 ?_
  refine jj_if_ne C (tgt := 18) dX8_route_6 (by decide) (fun _ => ?_) (fun _ => ?_)
  · exact jj_vret C hr hlocks dX8_route_18
  · refine jj_aload_n C 0 dX8_route_9 rfl rfl ?_
    refine jj_getr C 0 25 in_Ref (rg_0 ) k_Ref (by decide) fl_Ref_59 rfl dX8_route_10 ?_
    refine jj_iload_n C 2 dX8_route_13 rfl rfl ?_
    refine jj_iald C 17 (rg_17 ) dX8_route_14 ?_
    refine jj_if_ne C (tgt := 19) dX8_route_15 (by decide) (fun _ => ?_) (fun _ => ?_)
    · refine jj_aload_n C 0 dX8_route_19 rfl rfl ?_
      refine jj_aload_n C 0 dX8_route_20 rfl rfl ?_
      refine jj_getr C 0 26 in_Ref (rg_0 ) k_Ref (by decide) fl_Ref_62 rfl dX8_route_21 ?_
      refine jj_iconst C (v := (4 : Int32)) dX8_route_24 (by decide) ?_
      refine jj_iload_n C 2 dX8_route_25 rfl rfl ?_
      refine jj_imul C dX8_route_26 ?_
      refine jj_iald C 18 (rg_18 ) dX8_route_27 ?_
      refine jj_iconst C (v := (4 : Int32)) dX8_route_28 (by decide) ?_
      refine jj_idiv C dX8_route_29 ?_
      refine jj_callVi C (As := [.int ((σ 18 ((4 : Int32) * a2).toNatClampNeg) / (4 : Int32))]) (rest := []) (fun z hz => c_rRef_target hz) (q_Ref_159 C.2.2.2.2.1 (rm := { frames := 0, cells := 0, slots := 0, locals := 0 }) rfl rfl ⟨Nat.le_trans (by decide) hRm.1, Nat.le_trans (by decide) hRm.2⟩) (rg_0 ) k_Ref rfl rfl (Nat.le_of_ble_eq_true rfl) dX8_route_30 (fun r2 σ1 _ => ?_)
      refine jj_istore_n C [(3, .int r2), (0, .ref (ad 0)), (1, .int a1), (2, .int a2)] dX8_route_33 rfl (by decide) rfl ?_
      refine jj_iload_n C 0 dX8_route_34 rfl rfl ?_
      refine jj_aload_n C 1 dX8_route_35 rfl rfl ?_
      refine jj_geti C 0 0 in_Ref (rg_0 ) k_Ref (by decide) fl_Ref_95 rfl dX8_route_36 ?_
      refine jj_irem C dX8_route_39 ?_
      refine jj_iload_n C 2 dX8_route_40 rfl rfl ?_
      refine jj_aload_n C 1 dX8_route_41 rfl rfl ?_
      refine jj_geti C 0 0 in_Ref (rg_0 ) k_Ref (by decide) fl_Ref_95 rfl dX8_route_42 ?_
      refine jj_irem C dX8_route_45 ?_
      refine jj_isub C dX8_route_46 ?_
      refine jj_ltn (fun v4_3 => ?_)
      refine jj_istore C [(4, .int v4_3), (3, .int r2), (0, .ref (ad 0)), (1, .int a1), (2, .int a2)] dX8_route_47 (by decide) rfl ?_
      refine jj_iload_n C 1 dX8_route_49 rfl rfl ?_
      refine jj_aload_n C 2 dX8_route_50 rfl rfl ?_
      refine jj_geti C 0 0 in_Ref (rg_0 ) k_Ref (by decide) fl_Ref_95 rfl dX8_route_51 ?_
      refine jj_idiv C dX8_route_54 ?_
      refine jj_iload_n C 3 dX8_route_55 rfl rfl ?_
      refine jj_aload_n C 2 dX8_route_56 rfl rfl ?_
      refine jj_geti C 0 0 in_Ref (rg_0 ) k_Ref (by decide) fl_Ref_95 rfl dX8_route_57 ?_
      refine jj_idiv C dX8_route_60 ?_
      refine jj_isub C dX8_route_61 ?_
      refine jj_ltn (fun v5_4 => ?_)
      refine jj_istore C [(5, .int v5_4), (4, .int v4_3), (3, .int r2), (0, .ref (ad 0)), (1, .int a1), (2, .int a2)] dX8_route_62 (by decide) rfl ?_
      refine jj_aload_n C 3 dX8_route_64 rfl rfl ?_
      refine jj_getr C 0 31 in_Ref (rg_0 ) k_Ref (by decide) fl_Ref_77 rfl dX8_route_65 ?_
      refine jj_iload_n C 5 dX8_route_68 rfl rfl ?_
      refine jj_iload C 1 dX8_route_69 rfl ?_
      refine jj_if_le C (tgt := 78) dX8_route_71 (by decide) (fun _ => ?_) (fun _ => ?_)
      · refine jj_iload C 1 dX8_route_78 rfl ?_
        refine jj_if_ge C (tgt := 87) dX8_route_80 (by decide) (fun _ => ?_) (fun _ => ?_)
        · refine jj_iload C 0 dX8_route_87 rfl ?_
          refine jj_if_le C (tgt := 96) dX8_route_89 (by decide) (fun _ => ?_) (fun _ => ?_)
          · refine jj_iload C 0 dX8_route_96 rfl ?_
            refine jj_if_ge C (tgt := 105) dX8_route_98 (by decide) (fun _ => ?_) (fun _ => ?_)
            · refine jj_iconst C (v := (0 : Int32)) dX8_route_105 (by decide) ?_
              refine jj_iast C 23 (rg_23 ) dX8_route_106 ?_
              refine jj_stn (fun σ5 => ?_)
              refine jj_aload_n C 3 dX8_route_107 rfl rfl ?_
              refine jj_getr C 0 30 in_Ref (rg_0 ) k_Ref (by decide) fl_Ref_74 rfl dX8_route_108 ?_
              refine jj_iload_n C 5 dX8_route_111 rfl rfl ?_
              refine jj_iconst C (v := (1 : Int32)) dX8_route_112 (by decide) ?_
              refine jj_iast C 22 (rg_22 ) dX8_route_113 ?_
              refine jj_stn (fun σ6 => ?_)
              exact jj_vret C hr hlocks dX8_route_114
            · refine jj_iconst C (v := (4 : Int32)) dX8_route_101 (by decide) ?_
              refine jj_goto C (tgt := 106) dX8_route_102 (by decide) ?_
              refine jj_iast C 23 (rg_23 ) dX8_route_106 ?_
              refine jj_stn (fun σ7 => ?_)
              refine jj_aload_n C 3 dX8_route_107 rfl rfl ?_
              refine jj_getr C 0 30 in_Ref (rg_0 ) k_Ref (by decide) fl_Ref_74 rfl dX8_route_108 ?_
              refine jj_iload_n C 5 dX8_route_111 rfl rfl ?_
              refine jj_iconst C (v := (1 : Int32)) dX8_route_112 (by decide) ?_
              refine jj_iast C 22 (rg_22 ) dX8_route_113 ?_
              refine jj_stn (fun σ8 => ?_)
              exact jj_vret C hr hlocks dX8_route_114
          · refine jj_iconst C (v := (3 : Int32)) dX8_route_92 (by decide) ?_
            refine jj_goto C (tgt := 106) dX8_route_93 (by decide) ?_
            refine jj_iast C 23 (rg_23 ) dX8_route_106 ?_
            refine jj_stn (fun σ9 => ?_)
            refine jj_aload_n C 3 dX8_route_107 rfl rfl ?_
            refine jj_getr C 0 30 in_Ref (rg_0 ) k_Ref (by decide) fl_Ref_74 rfl dX8_route_108 ?_
            refine jj_iload_n C 5 dX8_route_111 rfl rfl ?_
            refine jj_iconst C (v := (1 : Int32)) dX8_route_112 (by decide) ?_
            refine jj_iast C 22 (rg_22 ) dX8_route_113 ?_
            refine jj_stn (fun σ10 => ?_)
            exact jj_vret C hr hlocks dX8_route_114
        · refine jj_iconst C (v := (2 : Int32)) dX8_route_83 (by decide) ?_
          refine jj_goto C (tgt := 106) dX8_route_84 (by decide) ?_
          refine jj_iast C 23 (rg_23 ) dX8_route_106 ?_
          refine jj_stn (fun σ11 => ?_)
          refine jj_aload_n C 3 dX8_route_107 rfl rfl ?_
          refine jj_getr C 0 30 in_Ref (rg_0 ) k_Ref (by decide) fl_Ref_74 rfl dX8_route_108 ?_
          refine jj_iload_n C 5 dX8_route_111 rfl rfl ?_
          refine jj_iconst C (v := (1 : Int32)) dX8_route_112 (by decide) ?_
          refine jj_iast C 22 (rg_22 ) dX8_route_113 ?_
          refine jj_stn (fun σ12 => ?_)
          exact jj_vret C hr hlocks dX8_route_114
      · refine jj_iconst C (v := (1 : Int32)) dX8_route_74 (by decide) ?_
        refine jj_goto C (tgt := 106) dX8_route_75 (by decide) ?_
        refine jj_iast C 23 (rg_23 ) dX8_route_106 ?_
        refine jj_stn (fun σ13 => ?_)
        refine jj_aload_n C 3 dX8_route_107 rfl rfl ?_
        refine jj_getr C 0 30 in_Ref (rg_0 ) k_Ref (by decide) fl_Ref_74 rfl dX8_route_108 ?_
        refine jj_iload_n C 5 dX8_route_111 rfl rfl ?_
        refine jj_iconst C (v := (1 : Int32)) dX8_route_112 (by decide) ?_
        refine jj_iast C 22 (rg_22 ) dX8_route_113 ?_
        refine jj_stn (fun σ14 => ?_)
        exact jj_vret C hr hlocks dX8_route_114
    · exact jj_vret C hr hlocks dX8_route_18
