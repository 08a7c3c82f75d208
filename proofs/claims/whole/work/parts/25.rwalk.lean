set_option maxHeartbeats 4000000 in
set_option maxRecDepth 100000 in
theorem l_rRef_tick_38 {p : Program} {l : Launch} {e : Env} {R : Room} {s : State} {m : MethodId} {args : Array Value} {below : List Frame} {meth : Method} {c : Code} {D : va_G} {A : Nat → Prop} {ad : Nat → Nat} {cA : FieldType → ClassId} { F : Nat} (C : jj_C p R s m args c D vwCl A ad cA (gm) 4 0 0 cX8_tick RX8 jw_t) (hr : meth.sig.returnType = none) (hlocks : meth.locks = false) (hRm : 4 ≤ R.frames ∧ 160 ≤ R.locals) {K : jj_S → Int32 → Int32 → Int32 → Option jj_S} (hK : ∀ (σ : jj_S) (x1 x2 x3 : Int32), jj_J p l e R s m args below meth c D vwCl A ad cA (gm) 4 0 0 (jj_Qv below D vwCl A ad cA (gm) args s 0 0) (K σ x1 x2 x3) σ 58 [(0, .ref (ad 0)), (1, .int x1), (2, .int x2), (3, .int x3)] []) : ∀ (k : Nat) (σ : jj_S) (x1 x2 x3 : Int32), jj_J p l e R s m args below meth c D vwCl A ad cA (gm) 4 0 0 (jj_Qv below D vwCl A ad cA (gm) args s 0 0) (jj_lp3 (b_rRef_tick_38  F K) k σ x1 x2 x3) σ 38 [(0, .ref (ad 0)), (1, .int x1), (2, .int x2), (3, .int x3)] [] := by
  refine jj_loop3 (T := fun o σ x1 x2 x3 => jj_J p l e R s m args below meth c D vwCl A ad cA (gm) 4 0 0 (jj_Qv below D vwCl A ad cA (gm) args s 0 0) o σ 38 [(0, .ref (ad 0)), (1, .int x1), (2, .int x2), (3, .int x3)] []) (fun _ _ _ _ _ h => by cases h) ?_
  intro rec ih σ x1 x2 x3
  unfold b_rRef_tick_38
  refine jj_iload_n C 3 dX8_tick_38 rfl rfl ?_
  refine jj_aload_n C 0 dX8_tick_39 rfl rfl ?_
  refine jj_geti C 0 4 in_Ref (rg_0 ) k_Ref (by decide) fl_Ref_108 rfl dX8_tick_40 ?_
  refine jj_icmp_ge C (tgt := 58) dX8_tick_43 (by decide) (fun _ => ?_) (fun _ => ?_)
  · refine jj_sub [0, 1, 2, 3] rfl ?_
    exact hK σ x1 x2 x3
  · refine jj_aload_n C 0 dX8_tick_46 rfl rfl ?_
    refine jj_iload_n C 2 dX8_tick_47 rfl rfl ?_
    refine jj_iload_n C 3 dX8_tick_48 rfl rfl ?_
    refine jj_callVv C (As := [.int x2, .int x3]) (rest := []) (fun z hz => c_rRef_takeAt hz) (q_Ref_165 C.2.2.2.2.1 (rm := { frames := 2, cells := 0, slots := 0, locals := 80 }) rfl rfl ⟨Nat.le_trans (by decide) hRm.1, Nat.le_trans (by decide) hRm.2⟩) (rg_0 ) k_Ref rfl rfl (Nat.le_of_ble_eq_true rfl) dX8_tick_49 (fun σ5 _ => ?_)
    refine jj_iinc C (v := x3 + (1 : Int32)) [(3, .int (x3 + (1 : Int32))), (0, .ref (ad 0)), (1, .int x1), (2, .int x2)] 3 dX8_tick_52 rfl rfl (by decide) rfl ?_
    refine jj_goto C (tgt := 38) dX8_tick_55 (by decide) ?_
    refine jj_sub [1, 2, 3, 0] rfl ?_
    exact ih σ5 x1 x2 (x3 + (1 : Int32))

set_option maxHeartbeats 4000000 in
set_option maxRecDepth 100000 in
theorem l_rRef_tick_31 {p : Program} {l : Launch} {e : Env} {R : Room} {s : State} {m : MethodId} {args : Array Value} {below : List Frame} {meth : Method} {c : Code} {D : va_G} {A : Nat → Prop} {ad : Nat → Nat} {cA : FieldType → ClassId} { F : Nat} (C : jj_C p R s m args c D vwCl A ad cA (gm) 4 0 0 cX8_tick RX8 jw_t) (hr : meth.sig.returnType = none) (hlocks : meth.locks = false) (hRm : 4 ≤ R.frames ∧ 160 ≤ R.locals) {K : jj_S → Int32 → Int32 → Option jj_S} (hK : ∀ (σ : jj_S) (x1 x2 : Int32), jj_J p l e R s m args below meth c D vwCl A ad cA (gm) 4 0 0 (jj_Qv below D vwCl A ad cA (gm) args s 0 0) (K σ x1 x2) σ 64 [(0, .ref (ad 0)), (1, .int x1), (2, .int x2)] []) : ∀ (k : Nat) (σ : jj_S) (x1 x2 : Int32), jj_J p l e R s m args below meth c D vwCl A ad cA (gm) 4 0 0 (jj_Qv below D vwCl A ad cA (gm) args s 0 0) (jj_lp2 (b_rRef_tick_31  F K) k σ x1 x2) σ 31 [(0, .ref (ad 0)), (1, .int x1), (2, .int x2)] [] := by
  refine jj_loop2 (T := fun o σ x1 x2 => jj_J p l e R s m args below meth c D vwCl A ad cA (gm) 4 0 0 (jj_Qv below D vwCl A ad cA (gm) args s 0 0) o σ 31 [(0, .ref (ad 0)), (1, .int x1), (2, .int x2)] []) (fun _ _ _ _ h => by cases h) ?_
  intro rec ih σ x1 x2
  unfold b_rRef_tick_31
  refine jj_iload_n C 2 dX8_tick_31 rfl rfl ?_
  refine jj_iload_n C 1 dX8_tick_32 rfl rfl ?_
  refine jj_icmp_ge C (tgt := 64) dX8_tick_33 (by decide) (fun _ => ?_) (fun _ => ?_)
  · refine jj_sub [0, 1, 2] rfl ?_
    exact hK σ x1 x2
  · refine jj_iconst C (v := (0 : Int32)) dX8_tick_36 (by decide) ?_
    refine jj_istore_n C [(3, .int (0 : Int32)), (0, .ref (ad 0)), (1, .int x1), (2, .int x2)] dX8_tick_37 rfl (by decide) rfl ?_
    refine jj_sub [1, 2, 3, 0] rfl ?_
    refine l_rRef_tick_38 C hr hlocks hRm (fun σ6 x1_7 x2_8 x3_9 => ?_) F σ x1 x2 (0 : Int32)
    refine jj_iinc C (v := x2_8 + (1 : Int32)) [(2, .int (x2_8 + (1 : Int32))), (0, .ref (ad 0)), (1, .int x1_7), (3, .int x3_9)] 2 dX8_tick_58 rfl rfl (by decide) rfl ?_
    refine jj_goto C (tgt := 31) dX8_tick_61 (by decide) ?_
    refine jj_sub [1, 2, 0] rfl ?_
    exact ih σ6 x1_7 (x2_8 + (1 : Int32))

set_option maxHeartbeats 4000000 in
set_option maxRecDepth 100000 in
theorem l_rRef_tick_66 {p : Program} {l : Launch} {e : Env} {R : Room} {s : State} {m : MethodId} {args : Array Value} {below : List Frame} {meth : Method} {c : Code} {D : va_G} {A : Nat → Prop} {ad : Nat → Nat} {cA : FieldType → ClassId} { F : Nat} (C : jj_C p R s m args c D vwCl A ad cA (gm) 4 0 0 cX8_tick RX8 jw_t) (hr : meth.sig.returnType = none) (hlocks : meth.locks = false) (hRm : 4 ≤ R.frames ∧ 160 ≤ R.locals) {K : jj_S → Int32 → Int32 → Option jj_S} (hK : ∀ (σ : jj_S) (x1 x2 : Int32), jj_J p l e R s m args below meth c D vwCl A ad cA (gm) 4 0 0 (jj_Qv below D vwCl A ad cA (gm) args s 0 0) (K σ x1 x2) σ 82 [(0, .ref (ad 0)), (1, .int x1), (2, .int x2)] []) : ∀ (k : Nat) (σ : jj_S) (x1 x2 : Int32), jj_J p l e R s m args below meth c D vwCl A ad cA (gm) 4 0 0 (jj_Qv below D vwCl A ad cA (gm) args s 0 0) (jj_lp2 (b_rRef_tick_66  F K) k σ x1 x2) σ 66 [(0, .ref (ad 0)), (1, .int x1), (2, .int x2)] [] := by
  refine jj_loop2 (T := fun o σ x1 x2 => jj_J p l e R s m args below meth c D vwCl A ad cA (gm) 4 0 0 (jj_Qv below D vwCl A ad cA (gm) args s 0 0) o σ 66 [(0, .ref (ad 0)), (1, .int x1), (2, .int x2)] []) (fun _ _ _ _ h => by cases h) ?_
  intro rec ih σ x1 x2
  unfold b_rRef_tick_66
  refine jj_iload_n C 2 dX8_tick_66 rfl rfl ?_
  refine jj_iload_n C 1 dX8_tick_67 rfl rfl ?_
  refine jj_icmp_ge C (tgt := 82) dX8_tick_68 (by decide) (fun _ => ?_) (fun _ => ?_)
  · refine jj_sub [0, 1, 2] rfl ?_
    exact hK σ x1 x2
  · refine jj_aload_n C 0 dX8_tick_71 rfl rfl ?_
    refine jj_iload_n C 2 dX8_tick_72 rfl rfl ?_
    refine jj_callVv C (As := [.int x2]) (rest := []) (fun z hz => c_rRef_sendAt hz) (q_Ref_168 C.2.2.2.2.1 (rm := { frames := 1, cells := 0, slots := 0, locals := 40 }) rfl rfl ⟨Nat.le_trans (by decide) hRm.1, Nat.le_trans (by decide) hRm.2⟩) (rg_0 ) k_Ref rfl rfl (Nat.le_of_ble_eq_true rfl) dX8_tick_73 (fun σ13 _ => ?_)
    refine jj_iinc C (v := x2 + (1 : Int32)) [(2, .int (x2 + (1 : Int32))), (0, .ref (ad 0)), (1, .int x1)] 2 dX8_tick_76 rfl rfl (by decide) rfl ?_
    refine jj_goto C (tgt := 66) dX8_tick_79 (by decide) ?_
    refine jj_sub [1, 2, 0] rfl ?_
    exact ih σ13 x1 (x2 + (1 : Int32))

set_option maxHeartbeats 4000000 in
set_option maxRecDepth 100000 in
theorem l_rRef_tick_84 {p : Program} {l : Launch} {e : Env} {R : Room} {s : State} {m : MethodId} {args : Array Value} {below : List Frame} {meth : Method} {c : Code} {D : va_G} {A : Nat → Prop} {ad : Nat → Nat} {cA : FieldType → ClassId} { F : Nat} (C : jj_C p R s m args c D vwCl A ad cA (gm) 4 0 0 cX8_tick RX8 jw_t) (hr : meth.sig.returnType = none) (hlocks : meth.locks = false) (hRm : 4 ≤ R.frames ∧ 160 ≤ R.locals) {K : jj_S → Int32 → Int32 → Option jj_S} (hK : ∀ (σ : jj_S) (x1 x2 : Int32), jj_J p l e R s m args below meth c D vwCl A ad cA (gm) 4 0 0 (jj_Qv below D vwCl A ad cA (gm) args s 0 0) (K σ x1 x2) σ 100 [(0, .ref (ad 0)), (1, .int x1), (2, .int x2)] []) : ∀ (k : Nat) (σ : jj_S) (x1 x2 : Int32), jj_J p l e R s m args below meth c D vwCl A ad cA (gm) 4 0 0 (jj_Qv below D vwCl A ad cA (gm) args s 0 0) (jj_lp2 (b_rRef_tick_84  F K) k σ x1 x2) σ 84 [(0, .ref (ad 0)), (1, .int x1), (2, .int x2)] [] := by
  refine jj_loop2 (T := fun o σ x1 x2 => jj_J p l e R s m args below meth c D vwCl A ad cA (gm) 4 0 0 (jj_Qv below D vwCl A ad cA (gm) args s 0 0) o σ 84 [(0, .ref (ad 0)), (1, .int x1), (2, .int x2)] []) (fun _ _ _ _ h => by cases h) ?_
  intro rec ih σ x1 x2
  unfold b_rRef_tick_84
  refine jj_iload_n C 2 dX8_tick_84 rfl rfl ?_
  refine jj_iload_n C 1 dX8_tick_85 rfl rfl ?_
  refine jj_icmp_ge C (tgt := 100) dX8_tick_86 (by decide) (fun _ => ?_) (fun _ => ?_)
  · refine jj_sub [0, 1, 2] rfl ?_
    exact hK σ x1 x2
  · refine jj_aload_n C 0 dX8_tick_89 rfl rfl ?_
    refine jj_iload_n C 2 dX8_tick_90 rfl rfl ?_
    refine jj_callVv C (As := [.int x2]) (rest := []) (fun z hz => c_rRef_move hz) (q_Ref_172 C.2.2.2.2.1 (rm := { frames := 3, cells := 0, slots := 0, locals := 120 }) rfl rfl ⟨Nat.le_trans (by decide) hRm.1, Nat.le_trans (by decide) hRm.2⟩) (rg_0 ) k_Ref rfl rfl (Nat.le_of_ble_eq_true rfl) dX8_tick_91 (fun σ17 _ => ?_)
    refine jj_iinc C (v := x2 + (1 : Int32)) [(2, .int (x2 + (1 : Int32))), (0, .ref (ad 0)), (1, .int x1)] 2 dX8_tick_94 rfl rfl (by decide) rfl ?_
    refine jj_goto C (tgt := 84) dX8_tick_97 (by decide) ?_
    refine jj_sub [1, 2, 0] rfl ?_
    exact ih σ17 x1 (x2 + (1 : Int32))

set_option maxHeartbeats 4000000 in
set_option maxRecDepth 100000 in
theorem l_rRef_tick_102 {p : Program} {l : Launch} {e : Env} {R : Room} {s : State} {m : MethodId} {args : Array Value} {below : List Frame} {meth : Method} {c : Code} {D : va_G} {A : Nat → Prop} {ad : Nat → Nat} {cA : FieldType → ClassId} { F : Nat} (C : jj_C p R s m args c D vwCl A ad cA (gm) 4 0 0 cX8_tick RX8 jw_t) (hr : meth.sig.returnType = none) (hlocks : meth.locks = false) (hRm : 4 ≤ R.frames ∧ 160 ≤ R.locals) {K : jj_S → Int32 → Int32 → Option jj_S} (hK : ∀ (σ : jj_S) (x1 x2 : Int32), jj_J p l e R s m args below meth c D vwCl A ad cA (gm) 4 0 0 (jj_Qv below D vwCl A ad cA (gm) args s 0 0) (K σ x1 x2) σ 142 [(0, .ref (ad 0)), (1, .int x1), (2, .int x2)] []) : ∀ (k : Nat) (σ : jj_S) (x1 x2 : Int32), jj_J p l e R s m args below meth c D vwCl A ad cA (gm) 4 0 0 (jj_Qv below D vwCl A ad cA (gm) args s 0 0) (jj_lp2 (b_rRef_tick_102  F K) k σ x1 x2) σ 102 [(0, .ref (ad 0)), (1, .int x1), (2, .int x2)] [] := by
  refine jj_loop2 (T := fun o σ x1 x2 => jj_J p l e R s m args below meth c D vwCl A ad cA (gm) 4 0 0 (jj_Qv below D vwCl A ad cA (gm) args s 0 0) o σ 102 [(0, .ref (ad 0)), (1, .int x1), (2, .int x2)] []) (fun _ _ _ _ h => by cases h) ?_
  intro rec ih σ x1 x2
  unfold b_rRef_tick_102
  refine jj_iload_n C 2 dX8_tick_102 rfl rfl ?_
  refine jj_bipush C (v := (20 : Int32)) dX8_tick_103 (by decide) ?_
  refine jj_iload_n C 1 dX8_tick_105 rfl rfl ?_
  refine jj_imul C dX8_tick_106 ?_
  refine jj_icmp_ge C (tgt := 142) dX8_tick_107 (by decide) (fun _ => ?_) (fun _ => ?_)
  · refine jj_sub [0, 1, 2] rfl ?_
    exact hK σ x1 x2
  · refine jj_iload_n C 2 dX8_tick_110 rfl rfl ?_
    refine jj_iconst C (v := (4 : Int32)) dX8_tick_111 (by decide) ?_
    refine jj_irem C dX8_tick_112 ?_
    refine jj_aload_n C 0 dX8_tick_113 rfl rfl ?_
    refine jj_geti C 0 4 in_Ref (rg_0 ) k_Ref (by decide) fl_Ref_108 rfl dX8_tick_114 ?_
    refine jj_icmp_ge C (tgt := 136) dX8_tick_117 (by decide) (fun _ => ?_) (fun _ => ?_)
    · refine jj_iinc C (v := x2 + (1 : Int32)) [(2, .int (x2 + (1 : Int32))), (0, .ref (ad 0)), (1, .int x1)] 2 dX8_tick_136 rfl rfl (by decide) rfl ?_
      refine jj_goto C (tgt := 102) dX8_tick_139 (by decide) ?_
      refine jj_sub [1, 2, 0] rfl ?_
      exact ih σ x1 (x2 + (1 : Int32))
    · refine jj_aload_n C 0 dX8_tick_120 rfl rfl ?_
      refine jj_iload_n C 2 dX8_tick_121 rfl rfl ?_
      refine jj_bipush C (v := (20 : Int32)) dX8_tick_122 (by decide) ?_
      refine jj_idiv C dX8_tick_124 ?_
      refine jj_iload_n C 2 dX8_tick_125 rfl rfl ?_
      refine jj_iconst C (v := (4 : Int32)) dX8_tick_126 (by decide) ?_
      refine jj_idiv C dX8_tick_127 ?_
      refine jj_iconst C (v := (5 : Int32)) dX8_tick_128 (by decide) ?_
      refine jj_irem C dX8_tick_129 ?_
      refine jj_iload_n C 2 dX8_tick_130 rfl rfl ?_
      refine jj_iconst C (v := (4 : Int32)) dX8_tick_131 (by decide) ?_
      refine jj_irem C dX8_tick_132 ?_
      refine jj_callVv C (As := [.int (x2 / (20 : Int32)), .int ((x2 / (4 : Int32)) - (x2 / (4 : Int32)) / (5 : Int32) * (5 : Int32)), .int (x2 - x2 / (4 : Int32) * (4 : Int32))]) (rest := []) (fun z hz => c_rRef_grant hz) (q_Ref_175 C.2.2.2.2.1 (rm := { frames := 0, cells := 0, slots := 0, locals := 0 }) rfl rfl ⟨Nat.le_trans (by decide) hRm.1, Nat.le_trans (by decide) hRm.2⟩) (rg_0 ) k_Ref rfl rfl (Nat.le_of_ble_eq_true rfl) dX8_tick_133 (fun σ21 _ => ?_)
      refine jj_iinc C (v := x2 + (1 : Int32)) [(2, .int (x2 + (1 : Int32))), (0, .ref (ad 0)), (1, .int x1)] 2 dX8_tick_136 rfl rfl (by decide) rfl ?_
      refine jj_goto C (tgt := 102) dX8_tick_139 (by decide) ?_
      refine jj_sub [1, 2, 0] rfl ?_
      exact ih σ21 x1 (x2 + (1 : Int32))

set_option maxHeartbeats 4000000 in
set_option maxRecDepth 100000 in
theorem l_rRef_tick_144 {p : Program} {l : Launch} {e : Env} {R : Room} {s : State} {m : MethodId} {args : Array Value} {below : List Frame} {meth : Method} {c : Code} {D : va_G} {A : Nat → Prop} {ad : Nat → Nat} {cA : FieldType → ClassId} { F : Nat} (C : jj_C p R s m args c D vwCl A ad cA (gm) 4 0 0 cX8_tick RX8 jw_t) (hr : meth.sig.returnType = none) (hlocks : meth.locks = false) (hRm : 4 ≤ R.frames ∧ 160 ≤ R.locals) {K : jj_S → Int32 → Int32 → Option jj_S} (hK : ∀ (σ : jj_S) (x1 x2 : Int32), jj_J p l e R s m args below meth c D vwCl A ad cA (gm) 4 0 0 (jj_Qv below D vwCl A ad cA (gm) args s 0 0) (K σ x1 x2) σ 167 [(0, .ref (ad 0)), (1, .int x1), (2, .int x2)] []) : ∀ (k : Nat) (σ : jj_S) (x1 x2 : Int32), jj_J p l e R s m args below meth c D vwCl A ad cA (gm) 4 0 0 (jj_Qv below D vwCl A ad cA (gm) args s 0 0) (jj_lp2 (b_rRef_tick_144  F K) k σ x1 x2) σ 144 [(0, .ref (ad 0)), (1, .int x1), (2, .int x2)] [] := by
  refine jj_loop2 (T := fun o σ x1 x2 => jj_J p l e R s m args below meth c D vwCl A ad cA (gm) 4 0 0 (jj_Qv below D vwCl A ad cA (gm) args s 0 0) o σ 144 [(0, .ref (ad 0)), (1, .int x1), (2, .int x2)] []) (fun _ _ _ _ h => by cases h) ?_
  intro rec ih σ x1 x2
  unfold b_rRef_tick_144
  refine jj_iload_n C 2 dX8_tick_144 rfl rfl ?_
  refine jj_bipush C (v := (20 : Int32)) dX8_tick_145 (by decide) ?_
  refine jj_iload_n C 1 dX8_tick_147 rfl rfl ?_
  refine jj_imul C dX8_tick_148 ?_
  refine jj_icmp_ge C (tgt := 167) dX8_tick_149 (by decide) (fun _ => ?_) (fun _ => ?_)
  · refine jj_sub [0, 1, 2] rfl ?_
    exact hK σ x1 x2
  · refine jj_aload_n C 0 dX8_tick_152 rfl rfl ?_
    refine jj_iload_n C 2 dX8_tick_153 rfl rfl ?_
    refine jj_bipush C (v := (20 : Int32)) dX8_tick_154 (by decide) ?_
    refine jj_idiv C dX8_tick_156 ?_
    refine jj_iload_n C 2 dX8_tick_157 rfl rfl ?_
    refine jj_callVv C (As := [.int (x2 / (20 : Int32)), .int x2]) (rest := []) (fun z hz => c_rRef_route hz) (q_Ref_179 C.2.2.2.2.1 (rm := { frames := 1, cells := 0, slots := 0, locals := 40 }) rfl rfl ⟨Nat.le_trans (by decide) hRm.1, Nat.le_trans (by decide) hRm.2⟩) (rg_0 ) k_Ref rfl rfl (Nat.le_of_ble_eq_true rfl) dX8_tick_158 (fun σ25 _ => ?_)
    refine jj_iinc C (v := x2 + (1 : Int32)) [(2, .int (x2 + (1 : Int32))), (0, .ref (ad 0)), (1, .int x1)] 2 dX8_tick_161 rfl rfl (by decide) rfl ?_
    refine jj_goto C (tgt := 144) dX8_tick_164 (by decide) ?_
    refine jj_sub [1, 2, 0] rfl ?_
    exact ih σ25 x1 (x2 + (1 : Int32))

set_option maxHeartbeats 4000000 in
set_option maxRecDepth 100000 in
theorem c_rRef_tick {l : Launch} {D : va_G} {ad : Nat → Nat} {cA : FieldType → ClassId} { F : Nat} {σ : jj_S} {z : jj_S} (ho : f_rRef_tick  F σ = some z) : jj_Mv l yX8_tick (Cond.code yX8_tick cX8_tick 4 none :: jw_t) { frames := 4, cells := 0, slots := 0, locals := 160 } D vwCl ad cA (gm) [.ref (ad 0)] σ z := by
  refine jj_ofv (cc := cX8_tick) (nL := 4) (ret := none) rfl ho (Nat.le_of_ble_eq_true rfl) ?_
  intro p e s m below meth c C hr hlocks
  generalize hA : va_A (jj_w ad cA (gm) σ) s.heap.size = A at C ⊢
  have hRm : 4 ≤ (headSpec (Cond.code yX8_tick cX8_tick 4 none :: jw_t) { frames := 4, cells := 0, slots := 0, locals := 160 }).room.frames ∧ 160 ≤ (headSpec (Cond.code yX8_tick cX8_tick 4 none :: jw_t) { frames := 4, cells := 0, slots := 0, locals := 160 }).room.locals := ⟨Nat.le_refl _, Nat.le_refl _⟩
  generalize (headSpec (Cond.code yX8_tick cX8_tick 4 none :: jw_t) { frames := 4, cells := 0, slots := 0, locals := 160 }).room = R at C hRm ⊢
  generalize List.toArray ([.ref (ad 0)] : List Value) = args at C ⊢
  refine jj_sub (lv' := [(0, .ref (ad 0))]) [0] rfl ?_
  unfold f_rRef_tick
  refine jj_aload_n C 0 dX8_tick_0 rfl rfl ?_
  refine jj_geti C 0 0 in_Ref (rg_0 ) k_Ref (by decide) fl_Ref_95 rfl dX8_tick_1 ?_
  refine jj_aload_n C 0 dX8_tick_4 rfl rfl ?_
  refine jj_geti C 0 1 in_Ref (rg_0 ) k_Ref (by decide) fl_Ref_99 rfl dX8_tick_5 ?_
  refine jj_imul C dX8_tick_8 ?_
  refine jj_ltn (fun v1_1 => ?_)
  refine jj_istore_n C [(1, .int v1_1), (0, .ref (ad 0))] dX8_tick_9 rfl (by decide) rfl ?_
  refine jj_aload_n C 1 dX8_tick_10 rfl rfl ?_
  refine jj_dup C dX8_tick_11 rfl ?_
  refine jj_geti C 0 15 in_Ref (rg_0 ) k_Ref (by decide) fl_Ref_134 rfl dX8_tick_12 ?_
  refine jj_iconst C (v := (1 : Int32)) dX8_tick_15 (by decide) ?_
  refine jj_iadd C dX8_tick_16 ?_
  refine jj_puti C 0 15 in_Ref (rg_0 ) k_Ref (by decide) fl_Ref_134 tyX8 tyX8_ok nmX8 rfl (by decide +kernel) rfl dX8_tick_17 ?_
  refine jj_stn (fun σ2 => ?_)
  refine jj_aload_n C 1 dX8_tick_20 rfl rfl ?_
  refine jj_iconst C (v := (0 : Int32)) dX8_tick_21 (by decide) ?_
  refine jj_puti C 0 16 in_Ref (rg_0 ) k_Ref (by decide) fl_Ref_122 tyX8 tyX8_ok nmX8 rfl (by decide +kernel) rfl dX8_tick_22 ?_
  refine jj_stn (fun σ3 => ?_)
  refine jj_aload_n C 1 dX8_tick_25 rfl rfl ?_
  refine jj_callVv C (As := []) (rest := []) (fun z hz => c_rRef_arrive hz) (q_Ref_162 C.2.2.2.2.1 (rm := { frames := 0, cells := 0, slots := 0, locals := 0 }) rfl rfl ⟨Nat.le_trans (by decide) hRm.1, Nat.le_trans (by decide) hRm.2⟩) (rg_0 ) k_Ref rfl rfl (Nat.le_of_ble_eq_true rfl) dX8_tick_26 (fun σ4 _ => ?_)
  refine jj_iconst C (v := (0 : Int32)) dX8_tick_29 (by decide) ?_
  refine jj_istore_n C [(2, .int (0 : Int32)), (1, .int v1_1), (0, .ref (ad 0))] dX8_tick_30 rfl (by decide) rfl ?_
  refine jj_sub [2, 1, 0] rfl ?_
  refine l_rRef_tick_31 C hr hlocks hRm (fun σ10 x1_11 x2_12 => ?_) F σ4 v1_1 (0 : Int32)
  refine jj_iconst C (v := (0 : Int32)) dX8_tick_64 (by decide) ?_
  refine jj_istore_n C [(2, .int (0 : Int32)), (0, .ref (ad 0)), (1, .int x1_11)] dX8_tick_65 rfl (by decide) rfl ?_
  refine jj_sub [1, 2, 0] rfl ?_
  refine l_rRef_tick_66 C hr hlocks hRm (fun σ14 x1_15 x2_16 => ?_) F σ10 x1_11 (0 : Int32)
  refine jj_iconst C (v := (0 : Int32)) dX8_tick_82 (by decide) ?_
  refine jj_istore_n C [(2, .int (0 : Int32)), (0, .ref (ad 0)), (1, .int x1_15)] dX8_tick_83 rfl (by decide) rfl ?_
  refine jj_sub [1, 2, 0] rfl ?_
  refine l_rRef_tick_84 C hr hlocks hRm (fun σ18 x1_19 x2_20 => ?_) F σ14 x1_15 (0 : Int32)
  refine jj_iconst C (v := (0 : Int32)) dX8_tick_100 (by decide) ?_
  refine jj_istore_n C [(2, .int (0 : Int32)), (0, .ref (ad 0)), (1, .int x1_19)] dX8_tick_101 rfl (by decide) rfl ?_
  refine jj_sub [1, 2, 0] rfl ?_
  refine l_rRef_tick_102 C hr hlocks hRm (fun σ22 x1_23 x2_24 => ?_) F σ18 x1_19 (0 : Int32)
  refine jj_iconst C (v := (0 : Int32)) dX8_tick_142 (by decide) ?_
  refine jj_istore_n C [(2, .int (0 : Int32)), (0, .ref (ad 0)), (1, .int x1_23)] dX8_tick_143 rfl (by decide) rfl ?_
  refine jj_sub [1, 2, 0] rfl ?_
  refine l_rRef_tick_144 C hr hlocks hRm (fun σ26 x1_27 x2_28 => ?_) F σ22 x1_23 (0 : Int32)
  exact jj_vret C hr hlocks dX8_tick_167

set_option maxHeartbeats 4000000 in
set_option maxRecDepth 100000 in
theorem l_rRef_run_19 {p : Program} {l : Launch} {e : Env} {R : Room} {s : State} {m : MethodId} {args : Array Value} {below : List Frame} {meth : Method} {c : Code} {D : va_G} {A : Nat → Prop} {ad : Nat → Nat} {cA : FieldType → ClassId} { F : Nat} (C : jj_C p R s m args c D vwCl A ad cA (gm) 4 0 0 cX8_run RX8 jw_t) (hr : meth.sig.returnType = (some .int)) (hlocks : meth.locks = false) (hRm : 5 ≤ R.frames ∧ 200 ≤ R.locals) {K : jj_S → Int32 → Int32 → Int32 → Option (Int32 × jj_S)} (hK : ∀ (σ : jj_S) (x1 x2 x3 : Int32), jj_J p l e R s m args below meth c D vwCl A ad cA (gm) 4 0 0 (jj_Qi below D vwCl A ad cA (gm) args s 0 0) (K σ x1 x2 x3) σ 34 [(0, .ref (ad 0)), (1, .int x1), (2, .int x2), (3, .int x3)] []) : ∀ (k : Nat) (σ : jj_S) (x1 x2 x3 : Int32), jj_J p l e R s m args below meth c D vwCl A ad cA (gm) 4 0 0 (jj_Qi below D vwCl A ad cA (gm) args s 0 0) (jj_lp3 (b_rRef_run_19  F K) k σ x1 x2 x3) σ 19 [(0, .ref (ad 0)), (1, .int x1), (2, .int x2), (3, .int x3)] [] := by
  refine jj_loop3 (T := fun o σ x1 x2 x3 => jj_J p l e R s m args below meth c D vwCl A ad cA (gm) 4 0 0 (jj_Qi below D vwCl A ad cA (gm) args s 0 0) o σ 19 [(0, .ref (ad 0)), (1, .int x1), (2, .int x2), (3, .int x3)] []) (fun _ _ _ _ _ h => by cases h) ?_
  intro rec ih σ x1 x2 x3
  unfold b_rRef_run_19
  refine jj_iload_n C 3 dX8_run_19 rfl rfl ?_
  refine jj_iload_n C 1 dX8_run_20 rfl rfl ?_
  refine jj_icmp_ge C (tgt := 34) dX8_run_21 (by decide) (fun _ => ?_) (fun _ => ?_)
  · refine jj_sub [0, 1, 2, 3] rfl ?_
    exact hK σ x1 x2 x3
  · refine jj_aload_n C 0 dX8_run_24 rfl rfl ?_
    refine jj_callVv C (As := []) (rest := []) (fun z hz => c_rRef_tick hz) (q_Ref_182 C.2.2.2.2.1 (rm := { frames := 4, cells := 0, slots := 0, locals := 160 }) rfl rfl ⟨Nat.le_trans (by decide) hRm.1, Nat.le_trans (by decide) hRm.2⟩) (rg_0 ) k_Ref rfl rfl (Nat.le_of_ble_eq_true rfl) dX8_run_25 (fun σ2 _ => ?_)
    refine jj_iinc C (v := x3 + (1 : Int32)) [(3, .int (x3 + (1 : Int32))), (0, .ref (ad 0)), (1, .int x1), (2, .int x2)] 3 dX8_run_28 rfl rfl (by decide) rfl ?_
    refine jj_goto C (tgt := 19) dX8_run_31 (by decide) ?_
    refine jj_sub [1, 2, 3, 0] rfl ?_
    exact ih σ2 x1 x2 (x3 + (1 : Int32))

set_option maxHeartbeats 4000000 in
set_option maxRecDepth 100000 in
theorem c_rRef_run {l : Launch} {D : va_G} {ad : Nat → Nat} {cA : FieldType → ClassId} { F : Nat} {σ : jj_S} {a1 : Int32} {z : (Int32 × jj_S)} (ho : f_rRef_run  F σ a1 = some z) : jj_Mi l yX8_run (Cond.code yX8_run cX8_run 4 (some .int) :: jw_t) { frames := 5, cells := 0, slots := 0, locals := 200 } D vwCl ad cA (gm) [.ref (ad 0), .int a1] σ z := by
  refine jj_ofi (cc := cX8_run) (nL := 4) (ret := (some .int)) rfl ho (Nat.le_of_ble_eq_true rfl) ?_
  intro p e s m below meth c C hr hlocks
  generalize hA : va_A (jj_w ad cA (gm) σ) s.heap.size = A at C ⊢
  have hRm : 5 ≤ (headSpec (Cond.code yX8_run cX8_run 4 (some .int) :: jw_t) { frames := 5, cells := 0, slots := 0, locals := 200 }).room.frames ∧ 200 ≤ (headSpec (Cond.code yX8_run cX8_run 4 (some .int) :: jw_t) { frames := 5, cells := 0, slots := 0, locals := 200 }).room.locals := ⟨Nat.le_refl _, Nat.le_refl _⟩
  generalize (headSpec (Cond.code yX8_run cX8_run 4 (some .int) :: jw_t) { frames := 5, cells := 0, slots := 0, locals := 200 }).room = R at C hRm ⊢
  generalize List.toArray ([.ref (ad 0), .int a1] : List Value) = args at C ⊢
  refine jj_sub (lv' := [(0, .ref (ad 0)), (1, .int a1)]) [0, 1] rfl ?_
  unfold f_rRef_run
  refine jj_iload_n C 1 dX8_run_0 rfl rfl ?_
  refine jj_if_lt C (tgt := 10) dX8_run_1 (by decide) (fun _ => ?_) (fun _ => ?_)
  · refine jj_iconst C (v := (-1 : Int32)) dX8_run_10 (by decide) ?_
    exact jj_iret C hr hlocks dX8_run_11
  · refine jj_iload_n C 1 dX8_run_4 rfl rfl ?_
    refine jj_bipush C (v := (60 : Int32)) dX8_run_5 (by decide) ?_
    refine jj_icmp_le C (tgt := 12) dX8_run_7 (by decide) (fun _ => ?_) (fun _ => ?_)
    · refine jj_aload_n C 0 dX8_run_12 rfl rfl ?_
      refine jj_geti C 0 12 in_Ref (rg_0 ) k_Ref (by decide) fl_Ref_131 rfl dX8_run_13 ?_
      refine jj_ltn (fun v2_1 => ?_)
      refine jj_istore_n C [(2, .int v2_1), (0, .ref (ad 0)), (1, .int a1)] dX8_run_16 rfl (by decide) rfl ?_
      refine jj_iconst C (v := (0 : Int32)) dX8_run_17 (by decide) ?_
      refine jj_istore_n C [(3, .int (0 : Int32)), (2, .int v2_1), (0, .ref (ad 0)), (1, .int a1)] dX8_run_18 rfl (by decide) rfl ?_
      refine jj_sub [2, 3, 1, 0] rfl ?_
      refine l_rRef_run_19 C hr hlocks hRm (fun σ3 x1_4 x2_5 x3_6 => ?_) F σ a1 v2_1 (0 : Int32)
      refine jj_aload_n C 0 dX8_run_34 rfl rfl ?_
      refine jj_geti C 0 12 in_Ref (rg_0 ) k_Ref (by decide) fl_Ref_131 rfl dX8_run_35 ?_
      refine jj_iload_n C 2 dX8_run_38 rfl rfl ?_
      refine jj_isub C dX8_run_39 ?_
      exact jj_iret C hr hlocks dX8_run_40
    · refine jj_iconst C (v := (-1 : Int32)) dX8_run_10 (by decide) ?_
      exact jj_iret C hr hlocks dX8_run_11

set_option maxHeartbeats 4000000 in
set_option maxRecDepth 100000 in
theorem c_rRef_ticks {l : Launch} {D : va_G} {ad : Nat → Nat} {cA : FieldType → ClassId} { F : Nat} {σ : jj_S} {z : (Int32 × jj_S)} (ho : f_rRef_ticks  F σ = some z) : jj_Mi l yX8_ticks (Cond.code yX8_ticks cX8_ticks 1 (some .int) :: jw_t) { frames := 0, cells := 0, slots := 0, locals := 0 } D vwCl ad cA (gm) [.ref (ad 0)] σ z := by
  refine jj_ofi (cc := cX8_ticks) (nL := 1) (ret := (some .int)) rfl ho (Nat.le_of_ble_eq_true rfl) ?_
  intro p e s m below meth c C hr hlocks
  generalize hA : va_A (jj_w ad cA (gm) σ) s.heap.size = A at C ⊢
  have hRm : 0 ≤ (headSpec (Cond.code yX8_ticks cX8_ticks 1 (some .int) :: jw_t) { frames := 0, cells := 0, slots := 0, locals := 0 }).room.frames ∧ 0 ≤ (headSpec (Cond.code yX8_ticks cX8_ticks 1 (some .int) :: jw_t) { frames := 0, cells := 0, slots := 0, locals := 0 }).room.locals := ⟨Nat.le_refl _, Nat.le_refl _⟩
  generalize (headSpec (Cond.code yX8_ticks cX8_ticks 1 (some .int) :: jw_t) { frames := 0, cells := 0, slots := 0, locals := 0 }).room = R at C hRm ⊢
  generalize List.toArray ([.ref (ad 0)] : List Value) = args at C ⊢
  refine jj_sub (lv' := [(0, .ref (ad 0))]) [0] rfl ?_
  unfold f_rRef_ticks
  refine jj_aload_n C 0 dX8_ticks_0 rfl rfl ?_
  refine jj_geti C 0 15 in_Ref (rg_0 ) k_Ref (by decide) fl_Ref_134 rfl dX8_ticks_1 ?_
  exact jj_iret C hr hlocks dX8_ticks_4

set_option maxHeartbeats 4000000 in
set_option maxRecDepth 100000 in
theorem c_rRef_replies {l : Launch} {D : va_G} {ad : Nat → Nat} {cA : FieldType → ClassId} { F : Nat} {σ : jj_S} {z : (Int32 × jj_S)} (ho : f_rRef_replies  F σ = some z) : jj_Mi l yX8_replies (Cond.code yX8_replies cX8_replies 1 (some .int) :: jw_t) { frames := 0, cells := 0, slots := 0, locals := 0 } D vwCl ad cA (gm) [.ref (ad 0)] σ z := by
  refine jj_ofi (cc := cX8_replies) (nL := 1) (ret := (some .int)) rfl ho (Nat.le_of_ble_eq_true rfl) ?_
  intro p e s m below meth c C hr hlocks
  generalize hA : va_A (jj_w ad cA (gm) σ) s.heap.size = A at C ⊢
  have hRm : 0 ≤ (headSpec (Cond.code yX8_replies cX8_replies 1 (some .int) :: jw_t) { frames := 0, cells := 0, slots := 0, locals := 0 }).room.frames ∧ 0 ≤ (headSpec (Cond.code yX8_replies cX8_replies 1 (some .int) :: jw_t) { frames := 0, cells := 0, slots := 0, locals := 0 }).room.locals := ⟨Nat.le_refl _, Nat.le_refl _⟩
  generalize (headSpec (Cond.code yX8_replies cX8_replies 1 (some .int) :: jw_t) { frames := 0, cells := 0, slots := 0, locals := 0 }).room = R at C hRm ⊢
  generalize List.toArray ([.ref (ad 0)] : List Value) = args at C ⊢
  refine jj_sub (lv' := [(0, .ref (ad 0))]) [0] rfl ?_
  unfold f_rRef_replies
  refine jj_aload_n C 0 dX8_replies_0 rfl rfl ?_
  refine jj_geti C 0 12 in_Ref (rg_0 ) k_Ref (by decide) fl_Ref_131 rfl dX8_replies_1 ?_
  exact jj_iret C hr hlocks dX8_replies_4

set_option maxHeartbeats 4000000 in
set_option maxRecDepth 100000 in
theorem c_rRef_reply {l : Launch} {D : va_G} {ad : Nat → Nat} {cA : FieldType → ClassId} { F : Nat} {σ : jj_S} {a1 a2 : Int32} {z : (Int32 × jj_S)} (ho : f_rRef_reply  F σ a1 a2 = some z) : jj_Mi l yX8_reply (Cond.code yX8_reply cX8_reply 3 (some .int) :: jw_t) { frames := 0, cells := 0, slots := 0, locals := 0 } D vwCl ad cA (gm) [.ref (ad 0), .int a1, .int a2] σ z := by
  refine jj_ofi (cc := cX8_reply) (nL := 3) (ret := (some .int)) rfl ho (Nat.le_of_ble_eq_true rfl) ?_
  intro p e s m below meth c C hr hlocks
  generalize hA : va_A (jj_w ad cA (gm) σ) s.heap.size = A at C ⊢
  have hRm : 0 ≤ (headSpec (Cond.code yX8_reply cX8_reply 3 (some .int) :: jw_t) { frames := 0, cells := 0, slots := 0, locals := 0 }).room.frames ∧ 0 ≤ (headSpec (Cond.code yX8_reply cX8_reply 3 (some .int) :: jw_t) { frames := 0, cells := 0, slots := 0, locals := 0 }).room.locals := ⟨Nat.le_refl _, Nat.le_refl _⟩
  generalize (headSpec (Cond.code yX8_reply cX8_reply 3 (some .int) :: jw_t) { frames := 0, cells := 0, slots := 0, locals := 0 }).room = R at C hRm ⊢
  generalize List.toArray ([.ref (ad 0), .int a1, .int a2] : List Value) = args at C ⊢
  refine jj_sub (lv' := [(0, .ref (ad 0)), (1, .int a1), (2, .int a2)]) [0, 1, 2] rfl ?_
  unfold f_rRef_reply
  refine jj_iload_n C 1 dX8_reply_0 rfl rfl ?_
  refine jj_if_lt C (tgt := 21) dX8_reply_1 (by decide) (fun _ => ?_) (fun _ => ?_)
  · refine jj_iconst C (v := (-1 : Int32)) dX8_reply_21 (by decide) ?_
    exact jj_iret C hr hlocks dX8_reply_22
  · refine jj_iload_n C 1 dX8_reply_4 rfl rfl ?_
    refine jj_aload_n C 0 dX8_reply_5 rfl rfl ?_
    refine jj_geti C 0 12 in_Ref (rg_0 ) k_Ref (by decide) fl_Ref_131 rfl dX8_reply_6 ?_
    refine jj_icmp_ge C (tgt := 21) dX8_reply_9 (by decide) (fun _ => ?_) (fun _ => ?_)
    · refine jj_iconst C (v := (-1 : Int32)) dX8_reply_21 (by decide) ?_
      exact jj_iret C hr hlocks dX8_reply_22
    · refine jj_iload_n C 2 dX8_reply_12 rfl rfl ?_
      refine jj_if_lt C (tgt := 21) dX8_reply_13 (by decide) (fun _ => ?_) (fun _ => ?_)
      · refine jj_iconst C (v := (-1 : Int32)) dX8_reply_21 (by decide) ?_
        exact jj_iret C hr hlocks dX8_reply_22
      · refine jj_iload_n C 2 dX8_reply_16 rfl rfl ?_
        refine jj_iconst C (v := (2 : Int32)) dX8_reply_17 (by decide) ?_
        refine jj_icmp_le C (tgt := 23) dX8_reply_18 (by decide) (fun _ => ?_) (fun _ => ?_)
        · refine jj_iload_n C 2 dX8_reply_23 rfl rfl ?_
          refine jj_if_ne C (tgt := 36) dX8_reply_24 (by decide) (fun _ => ?_) (fun _ => ?_)
          · refine jj_iload_n C 2 dX8_reply_36 rfl rfl ?_
            refine jj_iconst C (v := (1 : Int32)) dX8_reply_37 (by decide) ?_
            refine jj_icmp_ne C (tgt := 55) dX8_reply_38 (by decide) (fun _ => ?_) (fun _ => ?_)
            · refine jj_aload_n C 0 dX8_reply_55 rfl rfl ?_
              refine jj_getr C 0 14 in_Ref (rg_0 ) k_Ref (by decide) fl_Ref_32 rfl dX8_reply_56 ?_
              refine jj_iload_n C 1 dX8_reply_59 rfl rfl ?_
              refine jj_iald C 8 (rg_8 ) dX8_reply_60 ?_
              exact jj_iret C hr hlocks dX8_reply_61
            · refine jj_aload_n C 0 dX8_reply_41 rfl rfl ?_
              refine jj_getr C 0 11 in_Ref (rg_0 ) k_Ref (by decide) fl_Ref_26 rfl dX8_reply_42 ?_
              refine jj_aload_n C 0 dX8_reply_45 rfl rfl ?_
              refine jj_getr C 0 13 in_Ref (rg_0 ) k_Ref (by decide) fl_Ref_29 rfl dX8_reply_46 ?_
              refine jj_iload_n C 1 dX8_reply_49 rfl rfl ?_
              refine jj_iald C 7 (rg_7 ) dX8_reply_50 ?_
              refine jj_iald C 6 (rg_6 ) dX8_reply_51 ?_
              refine jj_goto C (tgt := 61) dX8_reply_52 (by decide) ?_
              exact jj_iret C hr hlocks dX8_reply_61
          · refine jj_aload_n C 0 dX8_reply_27 rfl rfl ?_
            refine jj_getr C 0 13 in_Ref (rg_0 ) k_Ref (by decide) fl_Ref_29 rfl dX8_reply_28 ?_
            refine jj_iload_n C 1 dX8_reply_31 rfl rfl ?_
            refine jj_iald C 7 (rg_7 ) dX8_reply_32 ?_
            refine jj_goto C (tgt := 61) dX8_reply_33 (by decide) ?_
            exact jj_iret C hr hlocks dX8_reply_61
        · refine jj_iconst C (v := (-1 : Int32)) dX8_reply_21 (by decide) ?_
          exact jj_iret C hr hlocks dX8_reply_22

set_option maxHeartbeats 4000000 in
set_option maxRecDepth 100000 in
theorem c_rRef_memory {l : Launch} {D : va_G} {ad : Nat → Nat} {cA : FieldType → ClassId} { F : Nat} {σ : jj_S} {a1 a2 : Int32} {z : (Int32 × jj_S)} (ho : f_rRef_memory  F σ a1 a2 = some z) : jj_Mi l yX8_memory (Cond.code yX8_memory cX8_memory 3 (some .int) :: jw_t) { frames := 1, cells := 0, slots := 0, locals := 40 } D vwCl ad cA (gm) [.ref (ad 0), .int a1, .int a2] σ z := by
  refine jj_ofi (cc := cX8_memory) (nL := 3) (ret := (some .int)) rfl ho (Nat.le_of_ble_eq_true rfl) ?_
  intro p e s m below meth c C hr hlocks
  generalize hA : va_A (jj_w ad cA (gm) σ) s.heap.size = A at C ⊢
  have hRm : 1 ≤ (headSpec (Cond.code yX8_memory cX8_memory 3 (some .int) :: jw_t) { frames := 1, cells := 0, slots := 0, locals := 40 }).room.frames ∧ 40 ≤ (headSpec (Cond.code yX8_memory cX8_memory 3 (some .int) :: jw_t) { frames := 1, cells := 0, slots := 0, locals := 40 }).room.locals := ⟨Nat.le_refl _, Nat.le_refl _⟩
  generalize (headSpec (Cond.code yX8_memory cX8_memory 3 (some .int) :: jw_t) { frames := 1, cells := 0, slots := 0, locals := 40 }).room = R at C hRm ⊢
  generalize List.toArray ([.ref (ad 0), .int a1, .int a2] : List Value) = args at C ⊢
  refine jj_sub (lv' := [(0, .ref (ad 0)), (1, .int a1), (2, .int a2)]) [0, 1, 2] rfl ?_
  unfold f_rRef_memory
  refine jj_aload_n C 0 dX8_memory_0 rfl rfl ?_
  refine jj_iload_n C 1 dX8_memory_1 rfl rfl ?_
  refine jj_callVi C (As := [.int a1]) (rest := []) (fun z hz => c_rRef_isNode hz) (q_Ref_111 C.2.2.2.2.1 (rm := { frames := 0, cells := 0, slots := 0, locals := 0 }) rfl rfl ⟨Nat.le_trans (by decide) hRm.1, Nat.le_trans (by decide) hRm.2⟩) (rg_0 ) k_Ref rfl rfl (Nat.le_of_ble_eq_true rfl) dX8_memory_2 (fun r2 σ1 _ => ?_)
  refine jj_if_eq C (tgt := 32) dX8_memory_5 (by decide) (fun _ => ?_) (fun _ => ?_)
  · refine jj_iconst C (v := (0 : Int32)) dX8_memory_32 (by decide) ?_
    exact jj_iret C hr hlocks dX8_memory_33
  · refine jj_iload_n C 2 dX8_memory_8 rfl rfl ?_
    refine jj_if_lt C (tgt := 32) dX8_memory_9 (by decide) (fun _ => ?_) (fun _ => ?_)
    · refine jj_iconst C (v := (0 : Int32)) dX8_memory_32 (by decide) ?_
      exact jj_iret C hr hlocks dX8_memory_33
    · refine jj_iload_n C 2 dX8_memory_12 rfl rfl ?_
      refine jj_bipush C (v := (7 : Int32)) dX8_memory_13 (by decide) ?_
      refine jj_icmp_gt C (tgt := 32) dX8_memory_15 (by decide) (fun _ => ?_) (fun _ => ?_)
      · refine jj_iconst C (v := (0 : Int32)) dX8_memory_32 (by decide) ?_
        exact jj_iret C hr hlocks dX8_memory_33
      · refine jj_aload_n C 0 dX8_memory_18 rfl rfl ?_
        refine jj_getr C 0 17 in_Ref (rg_0 ) k_Ref (by decide) fl_Ref_35 rfl dX8_memory_19 ?_
        refine jj_bipush C (v := (8 : Int32)) dX8_memory_22 (by decide) ?_
        refine jj_iload_n C 1 dX8_memory_24 rfl rfl ?_
        refine jj_imul C dX8_memory_25 ?_
        refine jj_iload_n C 2 dX8_memory_26 rfl rfl ?_
        refine jj_iadd C dX8_memory_27 ?_
        refine jj_iald C 9 (rg_9 ) dX8_memory_28 ?_
        refine jj_goto C (tgt := 33) dX8_memory_29 (by decide) ?_
        exact jj_iret C hr hlocks dX8_memory_33

set_option maxHeartbeats 4000000 in
set_option maxRecDepth 100000 in
theorem c_rRef_waiting {l : Launch} {D : va_G} {ad : Nat → Nat} {cA : FieldType → ClassId} { F : Nat} {σ : jj_S} {a1 : Int32} {z : (Int32 × jj_S)} (ho : f_rRef_waiting  F σ a1 = some z) : jj_Mi l yX8_waiting (Cond.code yX8_waiting cX8_waiting 2 (some .int) :: jw_t) { frames := 1, cells := 0, slots := 0, locals := 40 } D vwCl ad cA (gm) [.ref (ad 0), .int a1] σ z := by
  refine jj_ofi (cc := cX8_waiting) (nL := 2) (ret := (some .int)) rfl ho (Nat.le_of_ble_eq_true rfl) ?_
  intro p e s m below meth c C hr hlocks
  generalize hA : va_A (jj_w ad cA (gm) σ) s.heap.size = A at C ⊢
  have hRm : 1 ≤ (headSpec (Cond.code yX8_waiting cX8_waiting 2 (some .int) :: jw_t) { frames := 1, cells := 0, slots := 0, locals := 40 }).room.frames ∧ 40 ≤ (headSpec (Cond.code yX8_waiting cX8_waiting 2 (some .int) :: jw_t) { frames := 1, cells := 0, slots := 0, locals := 40 }).room.locals := ⟨Nat.le_refl _, Nat.le_refl _⟩
  generalize (headSpec (Cond.code yX8_waiting cX8_waiting 2 (some .int) :: jw_t) { frames := 1, cells := 0, slots := 0, locals := 40 }).room = R at C hRm ⊢
  generalize List.toArray ([.ref (ad 0), .int a1] : List Value) = args at C ⊢
  refine jj_sub (lv' := [(0, .ref (ad 0)), (1, .int a1)]) [0, 1] rfl ?_
  unfold f_rRef_waiting
  refine jj_aload_n C 0 dX8_waiting_0 rfl rfl ?_
  refine jj_iload_n C 1 dX8_waiting_1 rfl rfl ?_
  refine jj_callVi C (As := [.int a1]) (rest := []) (fun z hz => c_rRef_isNode hz) (q_Ref_111 C.2.2.2.2.1 (rm := { frames := 0, cells := 0, slots := 0, locals := 0 }) rfl rfl ⟨Nat.le_trans (by decide) hRm.1, Nat.le_trans (by decide) hRm.2⟩) (rg_0 ) k_Ref rfl rfl (Nat.le_of_ble_eq_true rfl) dX8_waiting_2 (fun r2 σ1 _ => ?_)
  refine jj_if_eq C (tgt := 27) dX8_waiting_5 (by decide) (fun _ => ?_) (fun _ => ?_)
  · refine jj_iconst C (v := (-1 : Int32)) dX8_waiting_27 (by decide) ?_
    exact jj_iret C hr hlocks dX8_waiting_28
  · refine jj_aload_n C 0 dX8_waiting_8 rfl rfl ?_
    refine jj_getr C 0 19 in_Ref (rg_0 ) k_Ref (by decide) fl_Ref_41 rfl dX8_waiting_9 ?_
    refine jj_iload_n C 1 dX8_waiting_12 rfl rfl ?_
    refine jj_iald C 11 (rg_11 ) dX8_waiting_13 ?_
    refine jj_bipush C (v := (8 : Int32)) dX8_waiting_14 (by decide) ?_
    refine jj_aload_n C 0 dX8_waiting_16 rfl rfl ?_
    refine jj_getr C 0 22 in_Ref (rg_0 ) k_Ref (by decide) fl_Ref_50 rfl dX8_waiting_17 ?_
    refine jj_iload_n C 1 dX8_waiting_20 rfl rfl ?_
    refine jj_iald C 14 (rg_14 ) dX8_waiting_21 ?_
    refine jj_imul C dX8_waiting_22 ?_
    refine jj_iadd C dX8_waiting_23 ?_
    refine jj_goto C (tgt := 28) dX8_waiting_24 (by decide) ?_
    exact jj_iret C hr hlocks dX8_waiting_28

set_option maxHeartbeats 4000000 in
set_option maxRecDepth 100000 in
theorem c_rRef_isPlace {l : Launch} {D : va_G} {ad : Nat → Nat} {cA : FieldType → ClassId} { F : Nat} {σ : jj_S} {a1 a2 a3 : Int32} {z : (Int32 × jj_S)} (ho : f_rRef_isPlace  F σ a1 a2 a3 = some z) : jj_Mi l yX8_isPlace (Cond.code yX8_isPlace cX8_isPlace 4 (some .boolean) :: jw_t) { frames := 1, cells := 0, slots := 0, locals := 40 } D vwCl ad cA (gm) [.ref (ad 0), .int a1, .int a2, .int a3] σ z := by
  refine jj_ofi (cc := cX8_isPlace) (nL := 4) (ret := (some .boolean)) rfl ho (Nat.le_of_ble_eq_true rfl) ?_
  intro p e s m below meth c C hr hlocks
  generalize hA : va_A (jj_w ad cA (gm) σ) s.heap.size = A at C ⊢
  have hRm : 1 ≤ (headSpec (Cond.code yX8_isPlace cX8_isPlace 4 (some .boolean) :: jw_t) { frames := 1, cells := 0, slots := 0, locals := 40 }).room.frames ∧ 40 ≤ (headSpec (Cond.code yX8_isPlace cX8_isPlace 4 (some .boolean) :: jw_t) { frames := 1, cells := 0, slots := 0, locals := 40 }).room.locals := ⟨Nat.le_refl _, Nat.le_refl _⟩
  generalize (headSpec (Cond.code yX8_isPlace cX8_isPlace 4 (some .boolean) :: jw_t) { frames := 1, cells := 0, slots := 0, locals := 40 }).room = R at C hRm ⊢
  generalize List.toArray ([.ref (ad 0), .int a1, .int a2, .int a3] : List Value) = args at C ⊢
  refine jj_sub (lv' := [(0, .ref (ad 0)), (1, .int a1), (2, .int a2), (3, .int a3)]) [0, 1, 2, 3] rfl ?_
  unfold f_rRef_isPlace
  refine jj_aload_n C 0 dX8_isPlace_0 rfl rfl ?_
  refine jj_iload_n C 1 dX8_isPlace_1 rfl rfl ?_
  refine jj_callVi C (As := [.int a1]) (rest := []) (fun z hz => c_rRef_isNode hz) (q_Ref_111 C.2.2.2.2.1 (rm := { frames := 0, cells := 0, slots := 0, locals := 0 }) rfl rfl ⟨Nat.le_trans (by decide) hRm.1, Nat.le_trans (by decide) hRm.2⟩) (rg_0 ) k_Ref rfl rfl (Nat.le_of_ble_eq_true rfl) dX8_isPlace_2 (fun r2 σ1 _ => ?_)
  refine jj_if_eq C (tgt := 33) dX8_isPlace_5 (by decide) (fun _ => ?_) (fun _ => ?_)
  · refine jj_iconst C (v := (0 : Int32)) dX8_isPlace_33 (by decide) ?_
    exact jj_zret C hr hlocks (by first | rfl | decide +kernel) dX8_isPlace_34
  · refine jj_iload_n C 2 dX8_isPlace_8 rfl rfl ?_
    refine jj_if_lt C (tgt := 33) dX8_isPlace_9 (by decide) (fun _ => ?_) (fun _ => ?_)
    · refine jj_iconst C (v := (0 : Int32)) dX8_isPlace_33 (by decide) ?_
      exact jj_zret C hr hlocks (by first | rfl | decide +kernel) dX8_isPlace_34
    · refine jj_iload_n C 2 dX8_isPlace_12 rfl rfl ?_
      refine jj_iconst C (v := (4 : Int32)) dX8_isPlace_13 (by decide) ?_
      refine jj_icmp_gt C (tgt := 33) dX8_isPlace_14 (by decide) (fun _ => ?_) (fun _ => ?_)
      · refine jj_iconst C (v := (0 : Int32)) dX8_isPlace_33 (by decide) ?_
        exact jj_zret C hr hlocks (by first | rfl | decide +kernel) dX8_isPlace_34
      · refine jj_iload_n C 3 dX8_isPlace_17 rfl rfl ?_
        refine jj_if_lt C (tgt := 33) dX8_isPlace_18 (by decide) (fun _ => ?_) (fun _ => ?_)
        · refine jj_iconst C (v := (0 : Int32)) dX8_isPlace_33 (by decide) ?_
          exact jj_zret C hr hlocks (by first | rfl | decide +kernel) dX8_isPlace_34
        · refine jj_iload_n C 3 dX8_isPlace_21 rfl rfl ?_
          refine jj_aload_n C 0 dX8_isPlace_22 rfl rfl ?_
          refine jj_geti C 0 4 in_Ref (rg_0 ) k_Ref (by decide) fl_Ref_108 rfl dX8_isPlace_23 ?_
          refine jj_icmp_ge C (tgt := 33) dX8_isPlace_26 (by decide) (fun _ => ?_) (fun _ => ?_)
          · refine jj_iconst C (v := (0 : Int32)) dX8_isPlace_33 (by decide) ?_
            exact jj_zret C hr hlocks (by first | rfl | decide +kernel) dX8_isPlace_34
          · refine jj_iconst C (v := (1 : Int32)) dX8_isPlace_29 (by decide) ?_
            refine jj_goto C (tgt := 34) dX8_isPlace_30 (by decide) ?_
            exact jj_zret C hr hlocks (by first | rfl | decide +kernel) dX8_isPlace_34

set_option maxHeartbeats 4000000 in
set_option maxRecDepth 100000 in
theorem c_rRef_lane {l : Launch} {D : va_G} {ad : Nat → Nat} {cA : FieldType → ClassId} { F : Nat} {σ : jj_S} {a1 a2 a3 : Int32} {z : (Int32 × jj_S)} (ho : f_rRef_lane  F σ a1 a2 a3 = some z) : jj_Mi l yX8_lane (Cond.code yX8_lane cX8_lane 5 (some .int) :: jw_t) { frames := 2, cells := 0, slots := 0, locals := 80 } D vwCl ad cA (gm) [.ref (ad 0), .int a1, .int a2, .int a3] σ z := by
  refine jj_ofi (cc := cX8_lane) (nL := 5) (ret := (some .int)) rfl ho (Nat.le_of_ble_eq_true rfl) ?_
  intro p e s m below meth c C hr hlocks
  generalize hA : va_A (jj_w ad cA (gm) σ) s.heap.size = A at C ⊢
  have hRm : 2 ≤ (headSpec (Cond.code yX8_lane cX8_lane 5 (some .int) :: jw_t) { frames := 2, cells := 0, slots := 0, locals := 80 }).room.frames ∧ 80 ≤ (headSpec (Cond.code yX8_lane cX8_lane 5 (some .int) :: jw_t) { frames := 2, cells := 0, slots := 0, locals := 80 }).room.locals := ⟨Nat.le_refl _, Nat.le_refl _⟩
  generalize (headSpec (Cond.code yX8_lane cX8_lane 5 (some .int) :: jw_t) { frames := 2, cells := 0, slots := 0, locals := 80 }).room = R at C hRm ⊢
  generalize List.toArray ([.ref (ad 0), .int a1, .int a2, .int a3] : List Value) = args at C ⊢
  refine jj_sub (lv' := [(0, .ref (ad 0)), (1, .int a1), (2, .int a2), (3, .int a3)]) [0, 1, 2, 3] rfl ?_
  unfold f_rRef_lane
  refine jj_aload_n C 0 dX8_lane_0 rfl rfl ?_
  refine jj_iload_n C 1 dX8_lane_1 rfl rfl ?_
  refine jj_iload_n C 2 dX8_lane_2 rfl rfl ?_
  refine jj_iload_n C 3 dX8_lane_3 rfl rfl ?_
  refine jj_callVi C (As := [.int a1, .int a2, .int a3]) (rest := []) (fun z hz => c_rRef_isPlace hz) (q_Ref_185 C.2.2.2.2.1 (rm := { frames := 1, cells := 0, slots := 0, locals := 40 }) rfl rfl ⟨Nat.le_trans (by decide) hRm.1, Nat.le_trans (by decide) hRm.2⟩) (rg_0 ) k_Ref rfl rfl (Nat.le_of_ble_eq_true rfl) dX8_lane_4 (fun r2 σ1 _ => ?_)
  refine jj_if_ne C (tgt := 12) dX8_lane_7 (by decide) (fun _ => ?_) (fun _ => ?_)
  · refine jj_iconst C (v := (4 : Int32)) dX8_lane_12 (by decide) ?_
    refine jj_iconst C (v := (5 : Int32)) dX8_lane_13 (by decide) ?_
    refine jj_iload_n C 1 dX8_lane_14 rfl rfl ?_
    refine jj_imul C dX8_lane_15 ?_
    refine jj_iload_n C 2 dX8_lane_16 rfl rfl ?_
    refine jj_iadd C dX8_lane_17 ?_
    refine jj_imul C dX8_lane_18 ?_
    refine jj_iload_n C 3 dX8_lane_19 rfl rfl ?_
    refine jj_iadd C dX8_lane_20 ?_
    refine jj_ltn (fun v4_3 => ?_)
    refine jj_istore C [(4, .int v4_3), (0, .ref (ad 0)), (1, .int a1), (2, .int a2), (3, .int a3)] dX8_lane_21 (by decide) rfl ?_
    refine jj_aload_n C 1 dX8_lane_23 rfl rfl ?_
    refine jj_getr C 0 25 in_Ref (rg_0 ) k_Ref (by decide) fl_Ref_59 rfl dX8_lane_24 ?_
    refine jj_iload C 0 dX8_lane_27 rfl ?_
    refine jj_iald C 17 (rg_17 ) dX8_lane_29 ?_
    refine jj_bipush C (v := (8 : Int32)) dX8_lane_30 (by decide) ?_
    refine jj_aload_n C 1 dX8_lane_32 rfl rfl ?_
    refine jj_getr C 0 30 in_Ref (rg_0 ) k_Ref (by decide) fl_Ref_74 rfl dX8_lane_33 ?_
    refine jj_iload C 0 dX8_lane_36 rfl ?_
    refine jj_iald C 22 (rg_22 ) dX8_lane_38 ?_
    refine jj_imul C dX8_lane_39 ?_
    refine jj_iadd C dX8_lane_40 ?_
    refine jj_aload_n C 1 dX8_lane_41 rfl rfl ?_
    refine jj_getr C 0 30 in_Ref (rg_0 ) k_Ref (by decide) fl_Ref_74 rfl dX8_lane_42 ?_
    refine jj_iload C 0 dX8_lane_45 rfl ?_
    refine jj_iald C 22 (rg_22 ) dX8_lane_47 ?_
    refine jj_if_ne C (tgt := 55) dX8_lane_48 (by decide) (fun _ => ?_) (fun _ => ?_)
    · refine jj_bipush C (v := (64 : Int32)) dX8_lane_55 (by decide) ?_
      refine jj_aload_n C 1 dX8_lane_57 rfl rfl ?_
      refine jj_getr C 0 31 in_Ref (rg_0 ) k_Ref (by decide) fl_Ref_77 rfl dX8_lane_58 ?_
      refine jj_iload C 0 dX8_lane_61 rfl ?_
      refine jj_iald C 23 (rg_23 ) dX8_lane_63 ?_
      refine jj_imul C dX8_lane_64 ?_
      refine jj_iadd C dX8_lane_65 ?_
      exact jj_iret C hr hlocks dX8_lane_66
    · refine jj_iconst C (v := (0 : Int32)) dX8_lane_51 (by decide) ?_
      refine jj_goto C (tgt := 65) dX8_lane_52 (by decide) ?_
      refine jj_iadd C dX8_lane_65 ?_
      exact jj_iret C hr hlocks dX8_lane_66
  · refine jj_iconst C (v := (-1 : Int32)) dX8_lane_10 (by decide) ?_
    exact jj_iret C hr hlocks dX8_lane_11
