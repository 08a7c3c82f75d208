set_option maxHeartbeats 4000000 in
set_option maxRecDepth 100000 in
theorem c_rRef_channelOf {l : Launch} {D : va_G} {ad : Nat → Nat} {cA : FieldType → ClassId} { F : Nat} {σ : jj_S} {a1 : Int32} {z : (Int32 × jj_S)} (ho : f_rRef_channelOf  F σ a1 = some z) : jj_Mi l yX8_channelOf (Cond.code yX8_channelOf cX8_channelOf 2 (some .int) :: jw_t) { frames := 0, cells := 0, slots := 0, locals := 0 } D vwCl ad cA (gm) [.ref (ad 0), .int a1] σ z := by
  refine jj_ofi (cc := cX8_channelOf) (nL := 2) (ret := (some .int)) rfl ho (Nat.le_of_ble_eq_true rfl) ?_
  intro p e s m below meth c C hr hlocks
  generalize hA : va_A (jj_w ad cA (gm) σ) s.heap.size = A at C ⊢
  have hRm : 0 ≤ (headSpec (Cond.code yX8_channelOf cX8_channelOf 2 (some .int) :: jw_t) { frames := 0, cells := 0, slots := 0, locals := 0 }).room.frames ∧ 0 ≤ (headSpec (Cond.code yX8_channelOf cX8_channelOf 2 (some .int) :: jw_t) { frames := 0, cells := 0, slots := 0, locals := 0 }).room.locals := ⟨Nat.le_refl _, Nat.le_refl _⟩
  generalize (headSpec (Cond.code yX8_channelOf cX8_channelOf 2 (some .int) :: jw_t) { frames := 0, cells := 0, slots := 0, locals := 0 }).room = R at C hRm ⊢
  generalize List.toArray ([.ref (ad 0), .int a1] : List Value) = args at C ⊢
  refine jj_sub (lv' := [(0, .ref (ad 0)), (1, .int a1)]) [0, 1] rfl ?_
  unfold f_rRef_channelOf
  refine jj_aload_n C 0 dX8_channelOf_0 rfl rfl ?_
  refine jj_getr C 0 7 in_Ref (rg_0 ) k_Ref (by decide) fl_Ref_13 rfl dX8_channelOf_1 ?_
  refine jj_iload_n C 1 dX8_channelOf_4 rfl rfl ?_
  refine jj_iconst C (v := (2 : Int32)) dX8_channelOf_5 (by decide) ?_
  refine jj_idiv C dX8_channelOf_6 ?_
  refine jj_iald C 2 (rg_2 ) dX8_channelOf_7 ?_
  refine jj_aload_n C 0 dX8_channelOf_8 rfl rfl ?_
  refine jj_getr C 0 6 in_Ref (rg_0 ) k_Ref (by decide) fl_Ref_7 rfl dX8_channelOf_9 ?_
  refine jj_iload_n C 1 dX8_channelOf_12 rfl rfl ?_
  refine jj_iconst C (v := (2 : Int32)) dX8_channelOf_13 (by decide) ?_
  refine jj_idiv C dX8_channelOf_14 ?_
  refine jj_iald C 1 (rg_1 ) dX8_channelOf_15 ?_
  refine jj_iadd C dX8_channelOf_16 ?_
  refine jj_aload_n C 0 dX8_channelOf_17 rfl rfl ?_
  refine jj_geti C 0 3 in_Ref (rg_0 ) k_Ref (by decide) fl_Ref_105 rfl dX8_channelOf_18 ?_
  refine jj_irem C dX8_channelOf_21 ?_
  refine jj_iload_n C 1 dX8_channelOf_22 rfl rfl ?_
  refine jj_iconst C (v := (2 : Int32)) dX8_channelOf_23 (by decide) ?_
  refine jj_irem C dX8_channelOf_24 ?_
  refine jj_aload_n C 0 dX8_channelOf_25 rfl rfl ?_
  refine jj_geti C 0 3 in_Ref (rg_0 ) k_Ref (by decide) fl_Ref_105 rfl dX8_channelOf_26 ?_
  refine jj_imul C dX8_channelOf_29 ?_
  refine jj_iadd C dX8_channelOf_30 ?_
  exact jj_iret C hr hlocks dX8_channelOf_31

set_option maxHeartbeats 4000000 in
set_option maxRecDepth 100000 in
theorem c_rRef_send {l : Launch} {D : va_G} {ad : Nat → Nat} {cA : FieldType → ClassId} { F : Nat} {σ : jj_S} {a1 a2 : Int32} {z : jj_S} (ho : f_rRef_send  F σ a1 a2 = some z) : jj_Mv l yX8_send (Cond.code yX8_send cX8_send 3 none :: jw_t) { frames := 0, cells := 0, slots := 0, locals := 0 } D vwCl ad cA (gm) [.ref (ad 0), .int a1, .int a2] σ z := by
  refine jj_ofv (cc := cX8_send) (nL := 3) (ret := none) rfl ho (Nat.le_of_ble_eq_true rfl) ?_
  intro p e s m below meth c C hr hlocks
  generalize hA : va_A (jj_w ad cA (gm) σ) s.heap.size = A at C ⊢
  have hRm : 0 ≤ (headSpec (Cond.code yX8_send cX8_send 3 none :: jw_t) { frames := 0, cells := 0, slots := 0, locals := 0 }).room.frames ∧ 0 ≤ (headSpec (Cond.code yX8_send cX8_send 3 none :: jw_t) { frames := 0, cells := 0, slots := 0, locals := 0 }).room.locals := ⟨Nat.le_refl _, Nat.le_refl _⟩
  generalize (headSpec (Cond.code yX8_send cX8_send 3 none :: jw_t) { frames := 0, cells := 0, slots := 0, locals := 0 }).room = R at C hRm ⊢
  generalize List.toArray ([.ref (ad 0), .int a1, .int a2] : List Value) = args at C ⊢
  refine jj_sub (lv' := [(0, .ref (ad 0)), (1, .int a1), (2, .int a2)]) [0, 1, 2] rfl ?_
  unfold f_rRef_send
  refine jj_aload_n C 0 dX8_send_0 rfl rfl ?_
  refine jj_getr C 0 27 in_Ref (rg_0 ) k_Ref (by decide) fl_Ref_65 rfl dX8_send_1 ?_
  refine jj_iload_n C 1 dX8_send_4 rfl rfl ?_
  refine jj_iload_n C 2 dX8_send_5 rfl rfl ?_
  refine jj_iast C 19 (rg_19 ) dX8_send_6 ?_
  refine jj_stn (fun σ1 => ?_)
  refine jj_aload_n C 0 dX8_send_7 rfl rfl ?_
  refine jj_getr C 0 28 in_Ref (rg_0 ) k_Ref (by decide) fl_Ref_68 rfl dX8_send_8 ?_
  refine jj_iload_n C 1 dX8_send_11 rfl rfl ?_
  refine jj_dup2 C dX8_send_12 rfl rfl ?_
  refine jj_iald C 20 (rg_20 ) dX8_send_13 ?_
  refine jj_iconst C (v := (1 : Int32)) dX8_send_14 (by decide) ?_
  refine jj_isub C dX8_send_15 ?_
  refine jj_iast C 20 (rg_20 ) dX8_send_16 ?_
  refine jj_stn (fun σ2 => ?_)
  refine jj_aload_n C 0 dX8_send_17 rfl rfl ?_
  refine jj_dup C dX8_send_18 rfl ?_
  refine jj_geti C 0 16 in_Ref (rg_0 ) k_Ref (by decide) fl_Ref_122 rfl dX8_send_19 ?_
  refine jj_iconst C (v := (1 : Int32)) dX8_send_22 (by decide) ?_
  refine jj_iadd C dX8_send_23 ?_
  refine jj_puti C 0 16 in_Ref (rg_0 ) k_Ref (by decide) fl_Ref_122 tyX8 tyX8_ok nmX8 rfl (by decide +kernel) rfl dX8_send_24 ?_
  refine jj_stn (fun σ3 => ?_)
  exact jj_vret C hr hlocks dX8_send_27

set_option maxHeartbeats 4000000 in
set_option maxRecDepth 100000 in
theorem l_rRef_sendAt_210 {p : Program} {l : Launch} {e : Env} {R : Room} {s : State} {m : MethodId} {args : Array Value} {below : List Frame} {meth : Method} {c : Code} {D : va_G} {A : Nat → Prop} {ad : Nat → Nat} {cA : FieldType → ClassId} { F : Nat} (C : jj_C p R s m args c D vwCl A ad cA (gm) 5 0 0 cX8_sendAt RX8 jw_t) (hr : meth.sig.returnType = none) (hlocks : meth.locks = false) (hRm : 1 ≤ R.frames ∧ 40 ≤ R.locals) {K : jj_S → Int32 → Int32 → Int32 → Int32 → Option jj_S} (hK : ∀ (σ : jj_S) (x1 x2 x3 x4 : Int32), jj_J p l e R s m args below meth c D vwCl A ad cA (gm) 5 0 0 (jj_Qv below D vwCl A ad cA (gm) args s 0 0) (K σ x1 x2 x3 x4) σ 251 [(0, .ref (ad 0)), (1, .int x1), (2, .int x2), (3, .int x3), (4, .int x4)] []) : ∀ (k : Nat) (σ : jj_S) (x1 x2 x3 x4 : Int32), jj_J p l e R s m args below meth c D vwCl A ad cA (gm) 5 0 0 (jj_Qv below D vwCl A ad cA (gm) args s 0 0) (jj_lp4 (b_rRef_sendAt_210  F K) k σ x1 x2 x3 x4) σ 210 [(0, .ref (ad 0)), (1, .int x1), (2, .int x2), (3, .int x3), (4, .int x4)] [] := by
  refine jj_loop4 (T := fun o σ x1 x2 x3 x4 => jj_J p l e R s m args below meth c D vwCl A ad cA (gm) 5 0 0 (jj_Qv below D vwCl A ad cA (gm) args s 0 0) o σ 210 [(0, .ref (ad 0)), (1, .int x1), (2, .int x2), (3, .int x3), (4, .int x4)] []) (fun _ _ _ _ _ _ h => by cases h) ?_
  intro rec ih σ x1 x2 x3 x4
  unfold b_rRef_sendAt_210
  refine jj_iload C 4 dX8_sendAt_210 rfl ?_
  refine jj_aload_n C 0 dX8_sendAt_212 rfl rfl ?_
  refine jj_getr C 0 19 in_Ref (rg_0 ) k_Ref (by decide) fl_Ref_41 rfl dX8_sendAt_213 ?_
  refine jj_iload_n C 1 dX8_sendAt_216 rfl rfl ?_
  refine jj_iald C 11 (rg_11 ) dX8_sendAt_217 ?_
  refine jj_icmp_ge C (tgt := 251) dX8_sendAt_218 (by decide) (fun _ => ?_) (fun _ => ?_)
  · refine jj_sub [0, 1, 2, 3, 4] rfl ?_
    exact hK σ x1 x2 x3 x4
  · refine jj_aload_n C 0 dX8_sendAt_221 rfl rfl ?_
    refine jj_getr C 0 20 in_Ref (rg_0 ) k_Ref (by decide) fl_Ref_44 rfl dX8_sendAt_222 ?_
    refine jj_iconst C (v := (4 : Int32)) dX8_sendAt_225 (by decide) ?_
    refine jj_iload_n C 1 dX8_sendAt_226 rfl rfl ?_
    refine jj_imul C dX8_sendAt_227 ?_
    refine jj_iload C 4 dX8_sendAt_228 rfl ?_
    refine jj_iadd C dX8_sendAt_230 ?_
    refine jj_aload_n C 0 dX8_sendAt_231 rfl rfl ?_
    refine jj_getr C 0 20 in_Ref (rg_0 ) k_Ref (by decide) fl_Ref_44 rfl dX8_sendAt_232 ?_
    refine jj_iconst C (v := (4 : Int32)) dX8_sendAt_235 (by decide) ?_
    refine jj_iload_n C 1 dX8_sendAt_236 rfl rfl ?_
    refine jj_imul C dX8_sendAt_237 ?_
    refine jj_iload C 4 dX8_sendAt_238 rfl ?_
    refine jj_iadd C dX8_sendAt_240 ?_
    refine jj_iconst C (v := (1 : Int32)) dX8_sendAt_241 (by decide) ?_
    refine jj_iadd C dX8_sendAt_242 ?_
    refine jj_iald C 12 (rg_12 ) dX8_sendAt_243 ?_
    refine jj_iast C 12 (rg_12 ) dX8_sendAt_244 ?_
    refine jj_stn (fun σ11 => ?_)
    refine jj_iinc C (v := x4 + (1 : Int32)) [(4, .int (x4 + (1 : Int32))), (0, .ref (ad 0)), (1, .int x1), (2, .int x2), (3, .int x3)] 4 dX8_sendAt_245 rfl rfl (by decide) rfl ?_
    refine jj_goto C (tgt := 210) dX8_sendAt_248 (by decide) ?_
    refine jj_sub [1, 2, 3, 4, 0] rfl ?_
    exact ih σ11 x1 x2 x3 (x4 + (1 : Int32))

set_option maxHeartbeats 4000000 in
set_option maxRecDepth 100000 in
theorem c_rRef_sendAt {l : Launch} {D : va_G} {ad : Nat → Nat} {cA : FieldType → ClassId} { F : Nat} {σ : jj_S} {a1 : Int32} {z : jj_S} (ho : f_rRef_sendAt  F σ a1 = some z) : jj_Mv l yX8_sendAt (Cond.code yX8_sendAt cX8_sendAt 5 none :: jw_t) { frames := 1, cells := 0, slots := 0, locals := 40 } D vwCl ad cA (gm) [.ref (ad 0), .int a1] σ z := by
  refine jj_ofv (cc := cX8_sendAt) (nL := 5) (ret := none) rfl ho (Nat.le_of_ble_eq_true rfl) ?_
  intro p e s m below meth c C hr hlocks
  generalize hA : va_A (jj_w ad cA (gm) σ) s.heap.size = A at C ⊢
  have hRm : 1 ≤ (headSpec (Cond.code yX8_sendAt cX8_sendAt 5 none :: jw_t) { frames := 1, cells := 0, slots := 0, locals := 40 }).room.frames ∧ 40 ≤ (headSpec (Cond.code yX8_sendAt cX8_sendAt 5 none :: jw_t) { frames := 1, cells := 0, slots := 0, locals := 40 }).room.locals := ⟨Nat.le_refl _, Nat.le_refl _⟩
  generalize (headSpec (Cond.code yX8_sendAt cX8_sendAt 5 none :: jw_t) { frames := 1, cells := 0, slots := 0, locals := 40 }).room = R at C hRm ⊢
  generalize List.toArray ([.ref (ad 0), .int a1] : List Value) = args at C ⊢
  refine jj_sub (lv' := [(0, .ref (ad 0)), (1, .int a1)]) [0, 1] rfl ?_
  unfold f_rRef_sendAt
  refine jj_aload_n C 0 dX8_sendAt_0 rfl rfl ?_
  refine jj_getr C 0 22 in_Ref (rg_0 ) k_Ref (by decide) fl_Ref_50 rfl dX8_sendAt_1 ?_
  refine jj_iload_n C 1 dX8_sendAt_4 rfl rfl ?_
  refine jj_iald C 14 (rg_14 ) dX8_sendAt_5 ?_
  refine jj_if_le C (tgt := 113) dX8_sendAt_6 (by decide) (fun _ => ?_) (fun _ => ?_)
  · refine jj_aload_n C 0 dX8_sendAt_113 rfl rfl ?_
    refine jj_getr C 0 19 in_Ref (rg_0 ) k_Ref (by decide) fl_Ref_41 rfl dX8_sendAt_114 ?_
    refine jj_iload_n C 1 dX8_sendAt_117 rfl rfl ?_
    refine jj_iald C 11 (rg_11 ) dX8_sendAt_118 ?_
    refine jj_if_le C (tgt := 251) dX8_sendAt_119 (by decide) (fun _ => ?_) (fun _ => ?_)
    · exact jj_vret C hr hlocks dX8_sendAt_251
    · refine jj_aload_n C 0 dX8_sendAt_122 rfl rfl ?_
      refine jj_getr C 0 20 in_Ref (rg_0 ) k_Ref (by decide) fl_Ref_44 rfl dX8_sendAt_123 ?_
      refine jj_iconst C (v := (4 : Int32)) dX8_sendAt_126 (by decide) ?_
      refine jj_iload_n C 1 dX8_sendAt_127 rfl rfl ?_
      refine jj_imul C dX8_sendAt_128 ?_
      refine jj_iald C 12 (rg_12 ) dX8_sendAt_129 ?_
      refine jj_ltn (fun v2_1 => ?_)
      refine jj_istore_n C [(2, .int v2_1), (0, .ref (ad 0)), (1, .int a1)] dX8_sendAt_130 rfl (by decide) rfl ?_
      refine jj_bipush C (v := (20 : Int32)) dX8_sendAt_131 (by decide) ?_
      refine jj_iload_n C 2 dX8_sendAt_133 rfl rfl ?_
      refine jj_imul C dX8_sendAt_134 ?_
      refine jj_aload_n C 1 dX8_sendAt_135 rfl rfl ?_
      refine jj_iload_n C 0 dX8_sendAt_136 rfl rfl ?_
      refine jj_callVi C (As := [.int v2_1]) (rest := [.int ((20 : Int32) * a1)]) (fun z hz => c_rRef_channelOf hz) (q_Ref_137 C.2.2.2.2.1 (rm := { frames := 0, cells := 0, slots := 0, locals := 0 }) rfl rfl ⟨Nat.le_trans (by decide) hRm.1, Nat.le_trans (by decide) hRm.2⟩) (rg_0 ) k_Ref rfl rfl (Nat.le_of_ble_eq_true rfl) dX8_sendAt_137 (fun r3 σ2 _ => ?_)
      refine jj_iadd C dX8_sendAt_140 ?_
      refine jj_ltn (fun v3_4 => ?_)
      refine jj_istore_n C [(3, .int v3_4), (2, .int v2_1), (0, .ref (ad 0)), (1, .int a1)] dX8_sendAt_141 rfl (by decide) rfl ?_
      refine jj_aload_n C 2 dX8_sendAt_142 rfl rfl ?_
      refine jj_getr C 0 28 in_Ref (rg_0 ) k_Ref (by decide) fl_Ref_68 rfl dX8_sendAt_143 ?_
      refine jj_iload_n C 0 dX8_sendAt_146 rfl rfl ?_
      refine jj_iald C 20 (rg_20 ) dX8_sendAt_147 ?_
      refine jj_if_le C (tgt := 251) dX8_sendAt_148 (by decide) (fun _ => ?_) (fun _ => ?_)
      · exact jj_vret C hr hlocks dX8_sendAt_251
      · refine jj_aload_n C 2 dX8_sendAt_151 rfl rfl ?_
        refine jj_iload_n C 0 dX8_sendAt_152 rfl rfl ?_
        refine jj_iconst C (v := (4 : Int32)) dX8_sendAt_153 (by decide) ?_
        refine jj_iload_n C 1 dX8_sendAt_154 rfl rfl ?_
        refine jj_imul C dX8_sendAt_155 ?_
        refine jj_aload_n C 2 dX8_sendAt_156 rfl rfl ?_
        refine jj_getr C 0 21 in_Ref (rg_0 ) k_Ref (by decide) fl_Ref_47 rfl dX8_sendAt_157 ?_
        refine jj_iload_n C 3 dX8_sendAt_160 rfl rfl ?_
        refine jj_iald C 13 (rg_13 ) dX8_sendAt_161 ?_
        refine jj_iadd C dX8_sendAt_162 ?_
        refine jj_callVv C (As := [.int v3_4, .int (((4 : Int32) * v2_1) + (σ2 13 a1.toNatClampNeg))]) (rest := []) (fun z hz => c_rRef_send hz) (q_Ref_140 C.2.2.2.2.1 (rm := { frames := 0, cells := 0, slots := 0, locals := 0 }) rfl rfl ⟨Nat.le_trans (by decide) hRm.1, Nat.le_trans (by decide) hRm.2⟩) (rg_0 ) k_Ref rfl rfl (Nat.le_of_ble_eq_true rfl) dX8_sendAt_163 (fun σ5 _ => ?_)
        refine jj_aload_n C 2 dX8_sendAt_166 rfl rfl ?_
        refine jj_getr C 0 21 in_Ref (rg_0 ) k_Ref (by decide) fl_Ref_47 rfl dX8_sendAt_167 ?_
        refine jj_iload_n C 3 dX8_sendAt_170 rfl rfl ?_
        refine jj_dup2 C dX8_sendAt_171 rfl rfl ?_
        refine jj_iald C 13 (rg_13 ) dX8_sendAt_172 ?_
        refine jj_iconst C (v := (1 : Int32)) dX8_sendAt_173 (by decide) ?_
        refine jj_iadd C dX8_sendAt_174 ?_
        refine jj_iast C 13 (rg_13 ) dX8_sendAt_175 ?_
        refine jj_stn (fun σ6 => ?_)
        refine jj_aload_n C 2 dX8_sendAt_176 rfl rfl ?_
        refine jj_getr C 0 21 in_Ref (rg_0 ) k_Ref (by decide) fl_Ref_47 rfl dX8_sendAt_177 ?_
        refine jj_iload_n C 3 dX8_sendAt_180 rfl rfl ?_
        refine jj_iald C 13 (rg_13 ) dX8_sendAt_181 ?_
        refine jj_aload_n C 2 dX8_sendAt_182 rfl rfl ?_
        refine jj_iload_n C 1 dX8_sendAt_183 rfl rfl ?_
        refine jj_callVi C (As := [.int v2_1]) (rest := [.int (σ6 13 a1.toNatClampNeg)]) (fun z hz => c_rRef_length hz) (q_Ref_115 C.2.2.2.2.1 (rm := { frames := 0, cells := 0, slots := 0, locals := 0 }) rfl rfl ⟨Nat.le_trans (by decide) hRm.1, Nat.le_trans (by decide) hRm.2⟩) (rg_0 ) k_Ref rfl rfl (Nat.le_of_ble_eq_true rfl) dX8_sendAt_184 (fun r8 σ7 _ => ?_)
        refine jj_icmp_ne C (tgt := 251) dX8_sendAt_187 (by decide) (fun _ => ?_) (fun _ => ?_)
        · exact jj_vret C hr hlocks dX8_sendAt_251
        · refine jj_aload_n C 2 dX8_sendAt_190 rfl rfl ?_
          refine jj_getr C 0 21 in_Ref (rg_0 ) k_Ref (by decide) fl_Ref_47 rfl dX8_sendAt_191 ?_
          refine jj_iload_n C 3 dX8_sendAt_194 rfl rfl ?_
          refine jj_iconst C (v := (0 : Int32)) dX8_sendAt_195 (by decide) ?_
          refine jj_iast C 13 (rg_13 ) dX8_sendAt_196 ?_
          refine jj_stn (fun σ9 => ?_)
          refine jj_aload_n C 2 dX8_sendAt_197 rfl rfl ?_
          refine jj_getr C 0 19 in_Ref (rg_0 ) k_Ref (by decide) fl_Ref_41 rfl dX8_sendAt_198 ?_
          refine jj_iload_n C 3 dX8_sendAt_201 rfl rfl ?_
          refine jj_dup2 C dX8_sendAt_202 rfl rfl ?_
          refine jj_iald C 11 (rg_11 ) dX8_sendAt_203 ?_
          refine jj_iconst C (v := (1 : Int32)) dX8_sendAt_204 (by decide) ?_
          refine jj_isub C dX8_sendAt_205 ?_
          refine jj_iast C 11 (rg_11 ) dX8_sendAt_206 ?_
          refine jj_stn (fun σ10 => ?_)
          refine jj_iconst C (v := (0 : Int32)) dX8_sendAt_207 (by decide) ?_
          refine jj_istore C [(4, .int (0 : Int32)), (3, .int v3_4), (2, .int v2_1), (0, .ref (ad 0)), (1, .int a1)] dX8_sendAt_208 (by decide) rfl ?_
          refine jj_sub [3, 4, 2, 1, 0] rfl ?_
          refine l_rRef_sendAt_210 C hr hlocks hRm (fun σ12 x1_13 x2_14 x3_15 x4_16 => ?_) F σ10 a1 v2_1 v3_4 (0 : Int32)
          exact jj_vret C hr hlocks dX8_sendAt_251
  · refine jj_aload_n C 0 dX8_sendAt_9 rfl rfl ?_
    refine jj_getr C 0 23 in_Ref (rg_0 ) k_Ref (by decide) fl_Ref_53 rfl dX8_sendAt_10 ?_
    refine jj_iconst C (v := (2 : Int32)) dX8_sendAt_13 (by decide) ?_
    refine jj_iload_n C 1 dX8_sendAt_14 rfl rfl ?_
    refine jj_imul C dX8_sendAt_15 ?_
    refine jj_iald C 15 (rg_15 ) dX8_sendAt_16 ?_
    refine jj_ltn (fun v2_17 => ?_)
    refine jj_istore_n C [(2, .int v2_17), (0, .ref (ad 0)), (1, .int a1)] dX8_sendAt_17 rfl (by decide) rfl ?_
    refine jj_bipush C (v := (20 : Int32)) dX8_sendAt_18 (by decide) ?_
    refine jj_iload_n C 2 dX8_sendAt_20 rfl rfl ?_
    refine jj_imul C dX8_sendAt_21 ?_
    refine jj_aload_n C 1 dX8_sendAt_22 rfl rfl ?_
    refine jj_iload_n C 0 dX8_sendAt_23 rfl rfl ?_
    refine jj_callVi C (As := [.int v2_17]) (rest := [.int ((20 : Int32) * a1)]) (fun z hz => c_rRef_channelOf hz) (q_Ref_137 C.2.2.2.2.1 (rm := { frames := 0, cells := 0, slots := 0, locals := 0 }) rfl rfl ⟨Nat.le_trans (by decide) hRm.1, Nat.le_trans (by decide) hRm.2⟩) (rg_0 ) k_Ref rfl rfl (Nat.le_of_ble_eq_true rfl) dX8_sendAt_24 (fun r19 σ18 _ => ?_)
    refine jj_iadd C dX8_sendAt_27 ?_
    refine jj_ltn (fun v3_20 => ?_)
    refine jj_istore_n C [(3, .int v3_20), (2, .int v2_17), (0, .ref (ad 0)), (1, .int a1)] dX8_sendAt_28 rfl (by decide) rfl ?_
    refine jj_aload_n C 2 dX8_sendAt_29 rfl rfl ?_
    refine jj_getr C 0 28 in_Ref (rg_0 ) k_Ref (by decide) fl_Ref_68 rfl dX8_sendAt_30 ?_
    refine jj_iload_n C 0 dX8_sendAt_33 rfl rfl ?_
    refine jj_iald C 20 (rg_20 ) dX8_sendAt_34 ?_
    refine jj_if_le C (tgt := 113) dX8_sendAt_35 (by decide) (fun _ => ?_) (fun _ => ?_)
    · refine jj_aload_n C 2 dX8_sendAt_113 rfl rfl ?_
      refine jj_getr C 0 19 in_Ref (rg_0 ) k_Ref (by decide) fl_Ref_41 rfl dX8_sendAt_114 ?_
      refine jj_iload_n C 3 dX8_sendAt_117 rfl rfl ?_
      refine jj_iald C 11 (rg_11 ) dX8_sendAt_118 ?_
      refine jj_if_le C (tgt := 251) dX8_sendAt_119 (by decide) (fun _ => ?_) (fun _ => ?_)
      · exact jj_vret C hr hlocks dX8_sendAt_251
      · refine jj_aload_n C 2 dX8_sendAt_122 rfl rfl ?_
        refine jj_getr C 0 20 in_Ref (rg_0 ) k_Ref (by decide) fl_Ref_44 rfl dX8_sendAt_123 ?_
        refine jj_iconst C (v := (4 : Int32)) dX8_sendAt_126 (by decide) ?_
        refine jj_iload_n C 3 dX8_sendAt_127 rfl rfl ?_
        refine jj_imul C dX8_sendAt_128 ?_
        refine jj_iald C 12 (rg_12 ) dX8_sendAt_129 ?_
        refine jj_ltn (fun v2_21 => ?_)
        refine jj_istore_n C [(2, .int v2_21), (3, .int v3_20), (0, .ref (ad 0)), (1, .int a1)] dX8_sendAt_130 rfl (by decide) rfl ?_
        refine jj_bipush C (v := (20 : Int32)) dX8_sendAt_131 (by decide) ?_
        refine jj_iload_n C 3 dX8_sendAt_133 rfl rfl ?_
        refine jj_imul C dX8_sendAt_134 ?_
        refine jj_aload_n C 2 dX8_sendAt_135 rfl rfl ?_
        refine jj_iload_n C 0 dX8_sendAt_136 rfl rfl ?_
        refine jj_callVi C (As := [.int v2_21]) (rest := [.int ((20 : Int32) * a1)]) (fun z hz => c_rRef_channelOf hz) (q_Ref_137 C.2.2.2.2.1 (rm := { frames := 0, cells := 0, slots := 0, locals := 0 }) rfl rfl ⟨Nat.le_trans (by decide) hRm.1, Nat.le_trans (by decide) hRm.2⟩) (rg_0 ) k_Ref rfl rfl (Nat.le_of_ble_eq_true rfl) dX8_sendAt_137 (fun r23 σ22 _ => ?_)
        refine jj_iadd C dX8_sendAt_140 ?_
        refine jj_ltn (fun v3_24 => ?_)
        refine jj_istore_n C [(3, .int v3_24), (2, .int v2_21), (0, .ref (ad 0)), (1, .int a1)] dX8_sendAt_141 rfl (by decide) rfl ?_
        refine jj_aload_n C 2 dX8_sendAt_142 rfl rfl ?_
        refine jj_getr C 0 28 in_Ref (rg_0 ) k_Ref (by decide) fl_Ref_68 rfl dX8_sendAt_143 ?_
        refine jj_iload_n C 0 dX8_sendAt_146 rfl rfl ?_
        refine jj_iald C 20 (rg_20 ) dX8_sendAt_147 ?_
        refine jj_if_le C (tgt := 251) dX8_sendAt_148 (by decide) (fun _ => ?_) (fun _ => ?_)
        · exact jj_vret C hr hlocks dX8_sendAt_251
        · refine jj_aload_n C 2 dX8_sendAt_151 rfl rfl ?_
          refine jj_iload_n C 0 dX8_sendAt_152 rfl rfl ?_
          refine jj_iconst C (v := (4 : Int32)) dX8_sendAt_153 (by decide) ?_
          refine jj_iload_n C 1 dX8_sendAt_154 rfl rfl ?_
          refine jj_imul C dX8_sendAt_155 ?_
          refine jj_aload_n C 2 dX8_sendAt_156 rfl rfl ?_
          refine jj_getr C 0 21 in_Ref (rg_0 ) k_Ref (by decide) fl_Ref_47 rfl dX8_sendAt_157 ?_
          refine jj_iload_n C 3 dX8_sendAt_160 rfl rfl ?_
          refine jj_iald C 13 (rg_13 ) dX8_sendAt_161 ?_
          refine jj_iadd C dX8_sendAt_162 ?_
          refine jj_callVv C (As := [.int v3_24, .int (((4 : Int32) * v2_21) + (σ22 13 a1.toNatClampNeg))]) (rest := []) (fun z hz => c_rRef_send hz) (q_Ref_140 C.2.2.2.2.1 (rm := { frames := 0, cells := 0, slots := 0, locals := 0 }) rfl rfl ⟨Nat.le_trans (by decide) hRm.1, Nat.le_trans (by decide) hRm.2⟩) (rg_0 ) k_Ref rfl rfl (Nat.le_of_ble_eq_true rfl) dX8_sendAt_163 (fun σ25 _ => ?_)
          refine jj_aload_n C 2 dX8_sendAt_166 rfl rfl ?_
          refine jj_getr C 0 21 in_Ref (rg_0 ) k_Ref (by decide) fl_Ref_47 rfl dX8_sendAt_167 ?_
          refine jj_iload_n C 3 dX8_sendAt_170 rfl rfl ?_
          refine jj_dup2 C dX8_sendAt_171 rfl rfl ?_
          refine jj_iald C 13 (rg_13 ) dX8_sendAt_172 ?_
          refine jj_iconst C (v := (1 : Int32)) dX8_sendAt_173 (by decide) ?_
          refine jj_iadd C dX8_sendAt_174 ?_
          refine jj_iast C 13 (rg_13 ) dX8_sendAt_175 ?_
          refine jj_stn (fun σ26 => ?_)
          refine jj_aload_n C 2 dX8_sendAt_176 rfl rfl ?_
          refine jj_getr C 0 21 in_Ref (rg_0 ) k_Ref (by decide) fl_Ref_47 rfl dX8_sendAt_177 ?_
          refine jj_iload_n C 3 dX8_sendAt_180 rfl rfl ?_
          refine jj_iald C 13 (rg_13 ) dX8_sendAt_181 ?_
          refine jj_aload_n C 2 dX8_sendAt_182 rfl rfl ?_
          refine jj_iload_n C 1 dX8_sendAt_183 rfl rfl ?_
          refine jj_callVi C (As := [.int v2_21]) (rest := [.int (σ26 13 a1.toNatClampNeg)]) (fun z hz => c_rRef_length hz) (q_Ref_115 C.2.2.2.2.1 (rm := { frames := 0, cells := 0, slots := 0, locals := 0 }) rfl rfl ⟨Nat.le_trans (by decide) hRm.1, Nat.le_trans (by decide) hRm.2⟩) (rg_0 ) k_Ref rfl rfl (Nat.le_of_ble_eq_true rfl) dX8_sendAt_184 (fun r28 σ27 _ => ?_)
          refine jj_icmp_ne C (tgt := 251) dX8_sendAt_187 (by decide) (fun _ => ?_) (fun _ => ?_)
          · exact jj_vret C hr hlocks dX8_sendAt_251
          · refine jj_aload_n C 2 dX8_sendAt_190 rfl rfl ?_
            refine jj_getr C 0 21 in_Ref (rg_0 ) k_Ref (by decide) fl_Ref_47 rfl dX8_sendAt_191 ?_
            refine jj_iload_n C 3 dX8_sendAt_194 rfl rfl ?_
            refine jj_iconst C (v := (0 : Int32)) dX8_sendAt_195 (by decide) ?_
            refine jj_iast C 13 (rg_13 ) dX8_sendAt_196 ?_
            refine jj_stn (fun σ29 => ?_)
            refine jj_aload_n C 2 dX8_sendAt_197 rfl rfl ?_
            refine jj_getr C 0 19 in_Ref (rg_0 ) k_Ref (by decide) fl_Ref_41 rfl dX8_sendAt_198 ?_
            refine jj_iload_n C 3 dX8_sendAt_201 rfl rfl ?_
            refine jj_dup2 C dX8_sendAt_202 rfl rfl ?_
            refine jj_iald C 11 (rg_11 ) dX8_sendAt_203 ?_
            refine jj_iconst C (v := (1 : Int32)) dX8_sendAt_204 (by decide) ?_
            refine jj_isub C dX8_sendAt_205 ?_
            refine jj_iast C 11 (rg_11 ) dX8_sendAt_206 ?_
            refine jj_stn (fun σ30 => ?_)
            refine jj_iconst C (v := (0 : Int32)) dX8_sendAt_207 (by decide) ?_
            refine jj_istore C [(4, .int (0 : Int32)), (3, .int v3_24), (2, .int v2_21), (0, .ref (ad 0)), (1, .int a1)] dX8_sendAt_208 (by decide) rfl ?_
            refine jj_sub [3, 4, 2, 1, 0] rfl ?_
            refine l_rRef_sendAt_210 C hr hlocks hRm (fun σ31 x1_32 x2_33 x3_34 x4_35 => ?_) F σ30 a1 v2_21 v3_24 (0 : Int32)
            exact jj_vret C hr hlocks dX8_sendAt_251
    · refine jj_aload_n C 2 dX8_sendAt_38 rfl rfl ?_
      refine jj_iload_n C 0 dX8_sendAt_39 rfl rfl ?_
      refine jj_iconst C (v := (4 : Int32)) dX8_sendAt_40 (by decide) ?_
      refine jj_iload_n C 1 dX8_sendAt_41 rfl rfl ?_
      refine jj_imul C dX8_sendAt_42 ?_
      refine jj_aload_n C 2 dX8_sendAt_43 rfl rfl ?_
      refine jj_getr C 0 24 in_Ref (rg_0 ) k_Ref (by decide) fl_Ref_56 rfl dX8_sendAt_44 ?_
      refine jj_iload_n C 3 dX8_sendAt_47 rfl rfl ?_
      refine jj_iald C 16 (rg_16 ) dX8_sendAt_48 ?_
      refine jj_iadd C dX8_sendAt_49 ?_
      refine jj_callVv C (As := [.int v3_20, .int (((4 : Int32) * v2_17) + (σ18 16 a1.toNatClampNeg))]) (rest := []) (fun z hz => c_rRef_send hz) (q_Ref_140 C.2.2.2.2.1 (rm := { frames := 0, cells := 0, slots := 0, locals := 0 }) rfl rfl ⟨Nat.le_trans (by decide) hRm.1, Nat.le_trans (by decide) hRm.2⟩) (rg_0 ) k_Ref rfl rfl (Nat.le_of_ble_eq_true rfl) dX8_sendAt_50 (fun σ36 _ => ?_)
      refine jj_aload_n C 2 dX8_sendAt_53 rfl rfl ?_
      refine jj_getr C 0 24 in_Ref (rg_0 ) k_Ref (by decide) fl_Ref_56 rfl dX8_sendAt_54 ?_
      refine jj_iload_n C 3 dX8_sendAt_57 rfl rfl ?_
      refine jj_dup2 C dX8_sendAt_58 rfl rfl ?_
      refine jj_iald C 16 (rg_16 ) dX8_sendAt_59 ?_
      refine jj_iconst C (v := (1 : Int32)) dX8_sendAt_60 (by decide) ?_
      refine jj_iadd C dX8_sendAt_61 ?_
      refine jj_iast C 16 (rg_16 ) dX8_sendAt_62 ?_
      refine jj_stn (fun σ37 => ?_)
      refine jj_aload_n C 2 dX8_sendAt_63 rfl rfl ?_
      refine jj_getr C 0 24 in_Ref (rg_0 ) k_Ref (by decide) fl_Ref_56 rfl dX8_sendAt_64 ?_
      refine jj_iload_n C 3 dX8_sendAt_67 rfl rfl ?_
      refine jj_iald C 16 (rg_16 ) dX8_sendAt_68 ?_
      refine jj_aload_n C 2 dX8_sendAt_69 rfl rfl ?_
      refine jj_iload_n C 1 dX8_sendAt_70 rfl rfl ?_
      refine jj_callVi C (As := [.int v2_17]) (rest := [.int (σ37 16 a1.toNatClampNeg)]) (fun z hz => c_rRef_length hz) (q_Ref_115 C.2.2.2.2.1 (rm := { frames := 0, cells := 0, slots := 0, locals := 0 }) rfl rfl ⟨Nat.le_trans (by decide) hRm.1, Nat.le_trans (by decide) hRm.2⟩) (rg_0 ) k_Ref rfl rfl (Nat.le_of_ble_eq_true rfl) dX8_sendAt_71 (fun r39 σ38 _ => ?_)
      refine jj_icmp_ne C (tgt := 112) dX8_sendAt_74 (by decide) (fun _ => ?_) (fun _ => ?_)
      · exact jj_vret C hr hlocks dX8_sendAt_112
      · refine jj_aload_n C 2 dX8_sendAt_77 rfl rfl ?_
        refine jj_getr C 0 24 in_Ref (rg_0 ) k_Ref (by decide) fl_Ref_56 rfl dX8_sendAt_78 ?_
        refine jj_iload_n C 3 dX8_sendAt_81 rfl rfl ?_
        refine jj_iconst C (v := (0 : Int32)) dX8_sendAt_82 (by decide) ?_
        refine jj_iast C 16 (rg_16 ) dX8_sendAt_83 ?_
        refine jj_stn (fun σ40 => ?_)
        refine jj_aload_n C 2 dX8_sendAt_84 rfl rfl ?_
        refine jj_getr C 0 22 in_Ref (rg_0 ) k_Ref (by decide) fl_Ref_50 rfl dX8_sendAt_85 ?_
        refine jj_iload_n C 3 dX8_sendAt_88 rfl rfl ?_
        refine jj_dup2 C dX8_sendAt_89 rfl rfl ?_
        refine jj_iald C 14 (rg_14 ) dX8_sendAt_90 ?_
        refine jj_iconst C (v := (1 : Int32)) dX8_sendAt_91 (by decide) ?_
        refine jj_isub C dX8_sendAt_92 ?_
        refine jj_iast C 14 (rg_14 ) dX8_sendAt_93 ?_
        refine jj_stn (fun σ41 => ?_)
        refine jj_aload_n C 2 dX8_sendAt_94 rfl rfl ?_
        refine jj_getr C 0 23 in_Ref (rg_0 ) k_Ref (by decide) fl_Ref_53 rfl dX8_sendAt_95 ?_
        refine jj_iconst C (v := (2 : Int32)) dX8_sendAt_98 (by decide) ?_
        refine jj_iload_n C 3 dX8_sendAt_99 rfl rfl ?_
        refine jj_imul C dX8_sendAt_100 ?_
        refine jj_aload_n C 2 dX8_sendAt_101 rfl rfl ?_
        refine jj_getr C 0 23 in_Ref (rg_0 ) k_Ref (by decide) fl_Ref_53 rfl dX8_sendAt_102 ?_
        refine jj_iconst C (v := (2 : Int32)) dX8_sendAt_105 (by decide) ?_
        refine jj_iload_n C 3 dX8_sendAt_106 rfl rfl ?_
        refine jj_imul C dX8_sendAt_107 ?_
        refine jj_iconst C (v := (1 : Int32)) dX8_sendAt_108 (by decide) ?_
        refine jj_iadd C dX8_sendAt_109 ?_
        refine jj_iald C 15 (rg_15 ) dX8_sendAt_110 ?_
        refine jj_iast C 15 (rg_15 ) dX8_sendAt_111 ?_
        refine jj_stn (fun σ42 => ?_)
        exact jj_vret C hr hlocks dX8_sendAt_112

set_option maxHeartbeats 4000000 in
set_option maxRecDepth 100000 in
theorem c_rRef_beyond {l : Launch} {D : va_G} {ad : Nat → Nat} {cA : FieldType → ClassId} { F : Nat} {σ : jj_S} {a1 a2 a3 : Int32} {z : (Int32 × jj_S)} (ho : f_rRef_beyond  F σ a1 a2 a3 = some z) : jj_Mi l yX8_beyond (Cond.code yX8_beyond cX8_beyond 6 (some .int) :: jw_t) { frames := 0, cells := 0, slots := 0, locals := 0 } D vwCl ad cA (gm) [.ref (ad 0), .int a1, .int a2, .int a3] σ z := by
  refine jj_ofi (cc := cX8_beyond) (nL := 6) (ret := (some .int)) rfl ho (Nat.le_of_ble_eq_true rfl) ?_
  intro p e s m below meth c C hr hlocks
  generalize hA : va_A (jj_w ad cA (gm) σ) s.heap.size = A at C ⊢
  have hRm : 0 ≤ (headSpec (Cond.code yX8_beyond cX8_beyond 6 (some .int) :: jw_t) { frames := 0, cells := 0, slots := 0, locals := 0 }).room.frames ∧ 0 ≤ (headSpec (Cond.code yX8_beyond cX8_beyond 6 (some .int) :: jw_t) { frames := 0, cells := 0, slots := 0, locals := 0 }).room.locals := ⟨Nat.le_refl _, Nat.le_refl _⟩
  generalize (headSpec (Cond.code yX8_beyond cX8_beyond 6 (some .int) :: jw_t) { frames := 0, cells := 0, slots := 0, locals := 0 }).room = R at C hRm ⊢
  generalize List.toArray ([.ref (ad 0), .int a1, .int a2, .int a3] : List Value) = args at C ⊢
  refine jj_sub (lv' := [(0, .ref (ad 0)), (1, .int a1), (2, .int a2), (3, .int a3)]) [0, 1, 2, 3] rfl ?_
  unfold f_rRef_beyond
  refine jj_iload_n C 2 dX8_beyond_0 rfl rfl ?_
  refine jj_if_ne C (tgt := 14) dX8_beyond_1 (by decide) (fun _ => ?_) (fun _ => ?_)
  · refine jj_iload_n C 2 dX8_beyond_14 rfl rfl ?_
    refine jj_iconst C (v := (1 : Int32)) dX8_beyond_15 (by decide) ?_
    refine jj_icmp_ne C (tgt := 25) dX8_beyond_16 (by decide) (fun _ => ?_) (fun _ => ?_)
    · refine jj_iload_n C 2 dX8_beyond_25 rfl rfl ?_
      refine jj_iconst C (v := (2 : Int32)) dX8_beyond_26 (by decide) ?_
      refine jj_icmp_ne C (tgt := 36) dX8_beyond_27 (by decide) (fun _ => ?_) (fun _ => ?_)
      · refine jj_iload_n C 2 dX8_beyond_36 rfl rfl ?_
        refine jj_iconst C (v := (3 : Int32)) dX8_beyond_37 (by decide) ?_
        refine jj_icmp_ne C (tgt := 50) dX8_beyond_38 (by decide) (fun _ => ?_) (fun _ => ?_)
        · refine jj_iload_n C 1 dX8_beyond_50 rfl rfl ?_
          refine jj_aload_n C 0 dX8_beyond_51 rfl rfl ?_
          refine jj_geti C 0 0 in_Ref (rg_0 ) k_Ref (by decide) fl_Ref_95 rfl dX8_beyond_52 ?_
          refine jj_isub C dX8_beyond_55 ?_
          refine jj_ltn (fun v4_1 => ?_)
          refine jj_istore C [(4, .int v4_1), (0, .ref (ad 0)), (1, .int a1), (2, .int a2), (3, .int a3)] dX8_beyond_56 (by decide) rfl ?_
          refine jj_iload_n C 3 dX8_beyond_58 rfl rfl ?_
          refine jj_iconst C (v := (1 : Int32)) dX8_beyond_59 (by decide) ?_
          refine jj_icmp_ne C (tgt := 67) dX8_beyond_60 (by decide) (fun _ => ?_) (fun _ => ?_)
          · refine jj_iload_n C 3 dX8_beyond_67 rfl rfl ?_
            refine jj_iconst C (v := (2 : Int32)) dX8_beyond_68 (by decide) ?_
            refine jj_icmp_ne C (tgt := 76) dX8_beyond_69 (by decide) (fun _ => ?_) (fun _ => ?_)
            · refine jj_iload_n C 3 dX8_beyond_76 rfl rfl ?_
              refine jj_iconst C (v := (3 : Int32)) dX8_beyond_77 (by decide) ?_
              refine jj_icmp_ne C (tgt := 85) dX8_beyond_78 (by decide) (fun _ => ?_) (fun _ => ?_)
              · refine jj_iconst C (v := (3 : Int32)) dX8_beyond_85 (by decide) ?_
                refine jj_istore C [(5, .int (3 : Int32)), (4, .int v4_1), (0, .ref (ad 0)), (1, .int a1), (2, .int a2), (3, .int a3)] dX8_beyond_86 (by decide) rfl ?_
                refine jj_iconst C (v := (4 : Int32)) dX8_beyond_88 (by decide) ?_
                refine jj_iconst C (v := (5 : Int32)) dX8_beyond_89 (by decide) ?_
                refine jj_iload C 1 dX8_beyond_90 rfl ?_
                refine jj_imul C dX8_beyond_92 ?_
                refine jj_iload C 0 dX8_beyond_93 rfl ?_
                refine jj_iadd C dX8_beyond_95 ?_
                refine jj_imul C dX8_beyond_96 ?_
                refine jj_iload_n C 5 dX8_beyond_97 rfl rfl ?_
                refine jj_iadd C dX8_beyond_98 ?_
                exact jj_iret C hr hlocks dX8_beyond_99
              · refine jj_iconst C (v := (4 : Int32)) dX8_beyond_81 (by decide) ?_
                refine jj_goto C (tgt := 86) dX8_beyond_82 (by decide) ?_
                refine jj_istore C [(5, .int (4 : Int32)), (4, .int v4_1), (0, .ref (ad 0)), (1, .int a1), (2, .int a2), (3, .int a3)] dX8_beyond_86 (by decide) rfl ?_
                refine jj_iconst C (v := (4 : Int32)) dX8_beyond_88 (by decide) ?_
                refine jj_iconst C (v := (5 : Int32)) dX8_beyond_89 (by decide) ?_
                refine jj_iload C 1 dX8_beyond_90 rfl ?_
                refine jj_imul C dX8_beyond_92 ?_
                refine jj_iload C 0 dX8_beyond_93 rfl ?_
                refine jj_iadd C dX8_beyond_95 ?_
                refine jj_imul C dX8_beyond_96 ?_
                refine jj_iload_n C 5 dX8_beyond_97 rfl rfl ?_
                refine jj_iadd C dX8_beyond_98 ?_
                exact jj_iret C hr hlocks dX8_beyond_99
            · refine jj_iconst C (v := (1 : Int32)) dX8_beyond_72 (by decide) ?_
              refine jj_goto C (tgt := 86) dX8_beyond_73 (by decide) ?_
              refine jj_istore C [(5, .int (1 : Int32)), (4, .int v4_1), (0, .ref (ad 0)), (1, .int a1), (2, .int a2), (3, .int a3)] dX8_beyond_86 (by decide) rfl ?_
              refine jj_iconst C (v := (4 : Int32)) dX8_beyond_88 (by decide) ?_
              refine jj_iconst C (v := (5 : Int32)) dX8_beyond_89 (by decide) ?_
              refine jj_iload C 1 dX8_beyond_90 rfl ?_
              refine jj_imul C dX8_beyond_92 ?_
              refine jj_iload C 0 dX8_beyond_93 rfl ?_
              refine jj_iadd C dX8_beyond_95 ?_
              refine jj_imul C dX8_beyond_96 ?_
              refine jj_iload_n C 5 dX8_beyond_97 rfl rfl ?_
              refine jj_iadd C dX8_beyond_98 ?_
              exact jj_iret C hr hlocks dX8_beyond_99
          · refine jj_iconst C (v := (2 : Int32)) dX8_beyond_63 (by decide) ?_
            refine jj_goto C (tgt := 86) dX8_beyond_64 (by decide) ?_
            refine jj_istore C [(5, .int (2 : Int32)), (4, .int v4_1), (0, .ref (ad 0)), (1, .int a1), (2, .int a2), (3, .int a3)] dX8_beyond_86 (by decide) rfl ?_
            refine jj_iconst C (v := (4 : Int32)) dX8_beyond_88 (by decide) ?_
            refine jj_iconst C (v := (5 : Int32)) dX8_beyond_89 (by decide) ?_
            refine jj_iload C 1 dX8_beyond_90 rfl ?_
            refine jj_imul C dX8_beyond_92 ?_
            refine jj_iload C 0 dX8_beyond_93 rfl ?_
            refine jj_iadd C dX8_beyond_95 ?_
            refine jj_imul C dX8_beyond_96 ?_
            refine jj_iload_n C 5 dX8_beyond_97 rfl rfl ?_
            refine jj_iadd C dX8_beyond_98 ?_
            exact jj_iret C hr hlocks dX8_beyond_99
        · refine jj_iload_n C 1 dX8_beyond_41 rfl rfl ?_
          refine jj_aload_n C 0 dX8_beyond_42 rfl rfl ?_
          refine jj_geti C 0 0 in_Ref (rg_0 ) k_Ref (by decide) fl_Ref_95 rfl dX8_beyond_43 ?_
          refine jj_iadd C dX8_beyond_46 ?_
          refine jj_goto C (tgt := 56) dX8_beyond_47 (by decide) ?_
          refine jj_ltn (fun v4_2 => ?_)
          refine jj_istore C [(4, .int v4_2), (0, .ref (ad 0)), (1, .int a1), (2, .int a2), (3, .int a3)] dX8_beyond_56 (by decide) rfl ?_
          refine jj_iload_n C 3 dX8_beyond_58 rfl rfl ?_
          refine jj_iconst C (v := (1 : Int32)) dX8_beyond_59 (by decide) ?_
          refine jj_icmp_ne C (tgt := 67) dX8_beyond_60 (by decide) (fun _ => ?_) (fun _ => ?_)
          · refine jj_iload_n C 3 dX8_beyond_67 rfl rfl ?_
            refine jj_iconst C (v := (2 : Int32)) dX8_beyond_68 (by decide) ?_
            refine jj_icmp_ne C (tgt := 76) dX8_beyond_69 (by decide) (fun _ => ?_) (fun _ => ?_)
            · refine jj_iload_n C 3 dX8_beyond_76 rfl rfl ?_
              refine jj_iconst C (v := (3 : Int32)) dX8_beyond_77 (by decide) ?_
              refine jj_icmp_ne C (tgt := 85) dX8_beyond_78 (by decide) (fun _ => ?_) (fun _ => ?_)
              · refine jj_iconst C (v := (3 : Int32)) dX8_beyond_85 (by decide) ?_
                refine jj_istore C [(5, .int (3 : Int32)), (4, .int v4_2), (0, .ref (ad 0)), (1, .int a1), (2, .int a2), (3, .int a3)] dX8_beyond_86 (by decide) rfl ?_
                refine jj_iconst C (v := (4 : Int32)) dX8_beyond_88 (by decide) ?_
                refine jj_iconst C (v := (5 : Int32)) dX8_beyond_89 (by decide) ?_
                refine jj_iload C 1 dX8_beyond_90 rfl ?_
                refine jj_imul C dX8_beyond_92 ?_
                refine jj_iload C 0 dX8_beyond_93 rfl ?_
                refine jj_iadd C dX8_beyond_95 ?_
                refine jj_imul C dX8_beyond_96 ?_
                refine jj_iload_n C 5 dX8_beyond_97 rfl rfl ?_
                refine jj_iadd C dX8_beyond_98 ?_
                exact jj_iret C hr hlocks dX8_beyond_99
              · refine jj_iconst C (v := (4 : Int32)) dX8_beyond_81 (by decide) ?_
                refine jj_goto C (tgt := 86) dX8_beyond_82 (by decide) ?_
                refine jj_istore C [(5, .int (4 : Int32)), (4, .int v4_2), (0, .ref (ad 0)), (1, .int a1), (2, .int a2), (3, .int a3)] dX8_beyond_86 (by decide) rfl ?_
                refine jj_iconst C (v := (4 : Int32)) dX8_beyond_88 (by decide) ?_
                refine jj_iconst C (v := (5 : Int32)) dX8_beyond_89 (by decide) ?_
                refine jj_iload C 1 dX8_beyond_90 rfl ?_
                refine jj_imul C dX8_beyond_92 ?_
                refine jj_iload C 0 dX8_beyond_93 rfl ?_
                refine jj_iadd C dX8_beyond_95 ?_
                refine jj_imul C dX8_beyond_96 ?_
                refine jj_iload_n C 5 dX8_beyond_97 rfl rfl ?_
                refine jj_iadd C dX8_beyond_98 ?_
                exact jj_iret C hr hlocks dX8_beyond_99
            · refine jj_iconst C (v := (1 : Int32)) dX8_beyond_72 (by decide) ?_
              refine jj_goto C (tgt := 86) dX8_beyond_73 (by decide) ?_
              refine jj_istore C [(5, .int (1 : Int32)), (4, .int v4_2), (0, .ref (ad 0)), (1, .int a1), (2, .int a2), (3, .int a3)] dX8_beyond_86 (by decide) rfl ?_
              refine jj_iconst C (v := (4 : Int32)) dX8_beyond_88 (by decide) ?_
              refine jj_iconst C (v := (5 : Int32)) dX8_beyond_89 (by decide) ?_
              refine jj_iload C 1 dX8_beyond_90 rfl ?_
              refine jj_imul C dX8_beyond_92 ?_
              refine jj_iload C 0 dX8_beyond_93 rfl ?_
              refine jj_iadd C dX8_beyond_95 ?_
              refine jj_imul C dX8_beyond_96 ?_
              refine jj_iload_n C 5 dX8_beyond_97 rfl rfl ?_
              refine jj_iadd C dX8_beyond_98 ?_
              exact jj_iret C hr hlocks dX8_beyond_99
          · refine jj_iconst C (v := (2 : Int32)) dX8_beyond_63 (by decide) ?_
            refine jj_goto C (tgt := 86) dX8_beyond_64 (by decide) ?_
            refine jj_istore C [(5, .int (2 : Int32)), (4, .int v4_2), (0, .ref (ad 0)), (1, .int a1), (2, .int a2), (3, .int a3)] dX8_beyond_86 (by decide) rfl ?_
            refine jj_iconst C (v := (4 : Int32)) dX8_beyond_88 (by decide) ?_
            refine jj_iconst C (v := (5 : Int32)) dX8_beyond_89 (by decide) ?_
            refine jj_iload C 1 dX8_beyond_90 rfl ?_
            refine jj_imul C dX8_beyond_92 ?_
            refine jj_iload C 0 dX8_beyond_93 rfl ?_
            refine jj_iadd C dX8_beyond_95 ?_
            refine jj_imul C dX8_beyond_96 ?_
            refine jj_iload_n C 5 dX8_beyond_97 rfl rfl ?_
            refine jj_iadd C dX8_beyond_98 ?_
            exact jj_iret C hr hlocks dX8_beyond_99
      · refine jj_iload_n C 1 dX8_beyond_30 rfl rfl ?_
        refine jj_iconst C (v := (1 : Int32)) dX8_beyond_31 (by decide) ?_
        refine jj_isub C dX8_beyond_32 ?_
        refine jj_goto C (tgt := 56) dX8_beyond_33 (by decide) ?_
        refine jj_ltn (fun v4_3 => ?_)
        refine jj_istore C [(4, .int v4_3), (0, .ref (ad 0)), (1, .int a1), (2, .int a2), (3, .int a3)] dX8_beyond_56 (by decide) rfl ?_
        refine jj_iload_n C 3 dX8_beyond_58 rfl rfl ?_
        refine jj_iconst C (v := (1 : Int32)) dX8_beyond_59 (by decide) ?_
        refine jj_icmp_ne C (tgt := 67) dX8_beyond_60 (by decide) (fun _ => ?_) (fun _ => ?_)
        · refine jj_iload_n C 3 dX8_beyond_67 rfl rfl ?_
          refine jj_iconst C (v := (2 : Int32)) dX8_beyond_68 (by decide) ?_
          refine jj_icmp_ne C (tgt := 76) dX8_beyond_69 (by decide) (fun _ => ?_) (fun _ => ?_)
          · refine jj_iload_n C 3 dX8_beyond_76 rfl rfl ?_
            refine jj_iconst C (v := (3 : Int32)) dX8_beyond_77 (by decide) ?_
            refine jj_icmp_ne C (tgt := 85) dX8_beyond_78 (by decide) (fun _ => ?_) (fun _ => ?_)
            · refine jj_iconst C (v := (3 : Int32)) dX8_beyond_85 (by decide) ?_
              refine jj_istore C [(5, .int (3 : Int32)), (4, .int v4_3), (0, .ref (ad 0)), (1, .int a1), (2, .int a2), (3, .int a3)] dX8_beyond_86 (by decide) rfl ?_
              refine jj_iconst C (v := (4 : Int32)) dX8_beyond_88 (by decide) ?_
              refine jj_iconst C (v := (5 : Int32)) dX8_beyond_89 (by decide) ?_
              refine jj_iload C 1 dX8_beyond_90 rfl ?_
              refine jj_imul C dX8_beyond_92 ?_
              refine jj_iload C 0 dX8_beyond_93 rfl ?_
              refine jj_iadd C dX8_beyond_95 ?_
              refine jj_imul C dX8_beyond_96 ?_
              refine jj_iload_n C 5 dX8_beyond_97 rfl rfl ?_
              refine jj_iadd C dX8_beyond_98 ?_
              exact jj_iret C hr hlocks dX8_beyond_99
            · refine jj_iconst C (v := (4 : Int32)) dX8_beyond_81 (by decide) ?_
              refine jj_goto C (tgt := 86) dX8_beyond_82 (by decide) ?_
              refine jj_istore C [(5, .int (4 : Int32)), (4, .int v4_3), (0, .ref (ad 0)), (1, .int a1), (2, .int a2), (3, .int a3)] dX8_beyond_86 (by decide) rfl ?_
              refine jj_iconst C (v := (4 : Int32)) dX8_beyond_88 (by decide) ?_
              refine jj_iconst C (v := (5 : Int32)) dX8_beyond_89 (by decide) ?_
              refine jj_iload C 1 dX8_beyond_90 rfl ?_
              refine jj_imul C dX8_beyond_92 ?_
              refine jj_iload C 0 dX8_beyond_93 rfl ?_
              refine jj_iadd C dX8_beyond_95 ?_
              refine jj_imul C dX8_beyond_96 ?_
              refine jj_iload_n C 5 dX8_beyond_97 rfl rfl ?_
              refine jj_iadd C dX8_beyond_98 ?_
              exact jj_iret C hr hlocks dX8_beyond_99
          · refine jj_iconst C (v := (1 : Int32)) dX8_beyond_72 (by decide) ?_
            refine jj_goto C (tgt := 86) dX8_beyond_73 (by decide) ?_
            refine jj_istore C [(5, .int (1 : Int32)), (4, .int v4_3), (0, .ref (ad 0)), (1, .int a1), (2, .int a2), (3, .int a3)] dX8_beyond_86 (by decide) rfl ?_
            refine jj_iconst C (v := (4 : Int32)) dX8_beyond_88 (by decide) ?_
            refine jj_iconst C (v := (5 : Int32)) dX8_beyond_89 (by decide) ?_
            refine jj_iload C 1 dX8_beyond_90 rfl ?_
            refine jj_imul C dX8_beyond_92 ?_
            refine jj_iload C 0 dX8_beyond_93 rfl ?_
            refine jj_iadd C dX8_beyond_95 ?_
            refine jj_imul C dX8_beyond_96 ?_
            refine jj_iload_n C 5 dX8_beyond_97 rfl rfl ?_
            refine jj_iadd C dX8_beyond_98 ?_
            exact jj_iret C hr hlocks dX8_beyond_99
        · refine jj_iconst C (v := (2 : Int32)) dX8_beyond_63 (by decide) ?_
          refine jj_goto C (tgt := 86) dX8_beyond_64 (by decide) ?_
          refine jj_istore C [(5, .int (2 : Int32)), (4, .int v4_3), (0, .ref (ad 0)), (1, .int a1), (2, .int a2), (3, .int a3)] dX8_beyond_86 (by decide) rfl ?_
          refine jj_iconst C (v := (4 : Int32)) dX8_beyond_88 (by decide) ?_
          refine jj_iconst C (v := (5 : Int32)) dX8_beyond_89 (by decide) ?_
          refine jj_iload C 1 dX8_beyond_90 rfl ?_
          refine jj_imul C dX8_beyond_92 ?_
          refine jj_iload C 0 dX8_beyond_93 rfl ?_
          refine jj_iadd C dX8_beyond_95 ?_
          refine jj_imul C dX8_beyond_96 ?_
          refine jj_iload_n C 5 dX8_beyond_97 rfl rfl ?_
          refine jj_iadd C dX8_beyond_98 ?_
          exact jj_iret C hr hlocks dX8_beyond_99
    · refine jj_iload_n C 1 dX8_beyond_19 rfl rfl ?_
      refine jj_iconst C (v := (1 : Int32)) dX8_beyond_20 (by decide) ?_
      refine jj_iadd C dX8_beyond_21 ?_
      refine jj_goto C (tgt := 56) dX8_beyond_22 (by decide) ?_
      refine jj_ltn (fun v4_4 => ?_)
      refine jj_istore C [(4, .int v4_4), (0, .ref (ad 0)), (1, .int a1), (2, .int a2), (3, .int a3)] dX8_beyond_56 (by decide) rfl ?_
      refine jj_iload_n C 3 dX8_beyond_58 rfl rfl ?_
      refine jj_iconst C (v := (1 : Int32)) dX8_beyond_59 (by decide) ?_
      refine jj_icmp_ne C (tgt := 67) dX8_beyond_60 (by decide) (fun _ => ?_) (fun _ => ?_)
      · refine jj_iload_n C 3 dX8_beyond_67 rfl rfl ?_
        refine jj_iconst C (v := (2 : Int32)) dX8_beyond_68 (by decide) ?_
        refine jj_icmp_ne C (tgt := 76) dX8_beyond_69 (by decide) (fun _ => ?_) (fun _ => ?_)
        · refine jj_iload_n C 3 dX8_beyond_76 rfl rfl ?_
          refine jj_iconst C (v := (3 : Int32)) dX8_beyond_77 (by decide) ?_
          refine jj_icmp_ne C (tgt := 85) dX8_beyond_78 (by decide) (fun _ => ?_) (fun _ => ?_)
          · refine jj_iconst C (v := (3 : Int32)) dX8_beyond_85 (by decide) ?_
            refine jj_istore C [(5, .int (3 : Int32)), (4, .int v4_4), (0, .ref (ad 0)), (1, .int a1), (2, .int a2), (3, .int a3)] dX8_beyond_86 (by decide) rfl ?_
            refine jj_iconst C (v := (4 : Int32)) dX8_beyond_88 (by decide) ?_
            refine jj_iconst C (v := (5 : Int32)) dX8_beyond_89 (by decide) ?_
            refine jj_iload C 1 dX8_beyond_90 rfl ?_
            refine jj_imul C dX8_beyond_92 ?_
            refine jj_iload C 0 dX8_beyond_93 rfl ?_
            refine jj_iadd C dX8_beyond_95 ?_
            refine jj_imul C dX8_beyond_96 ?_
            refine jj_iload_n C 5 dX8_beyond_97 rfl rfl ?_
            refine jj_iadd C dX8_beyond_98 ?_
            exact jj_iret C hr hlocks dX8_beyond_99
          · refine jj_iconst C (v := (4 : Int32)) dX8_beyond_81 (by decide) ?_
            refine jj_goto C (tgt := 86) dX8_beyond_82 (by decide) ?_
            refine jj_istore C [(5, .int (4 : Int32)), (4, .int v4_4), (0, .ref (ad 0)), (1, .int a1), (2, .int a2), (3, .int a3)] dX8_beyond_86 (by decide) rfl ?_
            refine jj_iconst C (v := (4 : Int32)) dX8_beyond_88 (by decide) ?_
            refine jj_iconst C (v := (5 : Int32)) dX8_beyond_89 (by decide) ?_
            refine jj_iload C 1 dX8_beyond_90 rfl ?_
            refine jj_imul C dX8_beyond_92 ?_
            refine jj_iload C 0 dX8_beyond_93 rfl ?_
            refine jj_iadd C dX8_beyond_95 ?_
            refine jj_imul C dX8_beyond_96 ?_
            refine jj_iload_n C 5 dX8_beyond_97 rfl rfl ?_
            refine jj_iadd C dX8_beyond_98 ?_
            exact jj_iret C hr hlocks dX8_beyond_99
        · refine jj_iconst C (v := (1 : Int32)) dX8_beyond_72 (by decide) ?_
          refine jj_goto C (tgt := 86) dX8_beyond_73 (by decide) ?_
          refine jj_istore C [(5, .int (1 : Int32)), (4, .int v4_4), (0, .ref (ad 0)), (1, .int a1), (2, .int a2), (3, .int a3)] dX8_beyond_86 (by decide) rfl ?_
          refine jj_iconst C (v := (4 : Int32)) dX8_beyond_88 (by decide) ?_
          refine jj_iconst C (v := (5 : Int32)) dX8_beyond_89 (by decide) ?_
          refine jj_iload C 1 dX8_beyond_90 rfl ?_
          refine jj_imul C dX8_beyond_92 ?_
          refine jj_iload C 0 dX8_beyond_93 rfl ?_
          refine jj_iadd C dX8_beyond_95 ?_
          refine jj_imul C dX8_beyond_96 ?_
          refine jj_iload_n C 5 dX8_beyond_97 rfl rfl ?_
          refine jj_iadd C dX8_beyond_98 ?_
          exact jj_iret C hr hlocks dX8_beyond_99
      · refine jj_iconst C (v := (2 : Int32)) dX8_beyond_63 (by decide) ?_
        refine jj_goto C (tgt := 86) dX8_beyond_64 (by decide) ?_
        refine jj_istore C [(5, .int (2 : Int32)), (4, .int v4_4), (0, .ref (ad 0)), (1, .int a1), (2, .int a2), (3, .int a3)] dX8_beyond_86 (by decide) rfl ?_
        refine jj_iconst C (v := (4 : Int32)) dX8_beyond_88 (by decide) ?_
        refine jj_iconst C (v := (5 : Int32)) dX8_beyond_89 (by decide) ?_
        refine jj_iload C 1 dX8_beyond_90 rfl ?_
        refine jj_imul C dX8_beyond_92 ?_
        refine jj_iload C 0 dX8_beyond_93 rfl ?_
        refine jj_iadd C dX8_beyond_95 ?_
        refine jj_imul C dX8_beyond_96 ?_
        refine jj_iload_n C 5 dX8_beyond_97 rfl rfl ?_
        refine jj_iadd C dX8_beyond_98 ?_
        exact jj_iret C hr hlocks dX8_beyond_99
  · refine jj_sipush C (v := (180 : Int32)) dX8_beyond_4 (by decide) ?_
    refine jj_iconst C (v := (4 : Int32)) dX8_beyond_7 (by decide) ?_
    refine jj_iload_n C 1 dX8_beyond_8 rfl rfl ?_
    refine jj_imul C dX8_beyond_9 ?_
    refine jj_iadd C dX8_beyond_10 ?_
    refine jj_iload_n C 3 dX8_beyond_11 rfl rfl ?_
    refine jj_iadd C dX8_beyond_12 ?_
    exact jj_iret C hr hlocks dX8_beyond_13
