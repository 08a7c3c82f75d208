theorem jl_end {p : Program} {l : Launch} {e : Env} {s : State} {m : MethodId} {below : List Frame} {meth : Method} {c : Code} {D : va_G} {ad1 ad2 : Nat → Nat} {cA : FieldType → ClassId} {n S SD L b : Nat} {xs : Nat → Int32} {σ τ : jj_S} {pc : Nat} {lv : List (Nat × Value)} (C : jl_C p room_1 s m #[Value.ref b] c D vwCl (fun q : Nat => s.heap.size ≤ q) ad1 (gc n S SD) ad2 gm cA 4 67 67000 code RL jw_t b L xs) (hr : meth.sig.returnType = ret) (hlocks : meth.locks = false) (hd : decode code pc = .ok (.ireturn, 1)) : jl_J p l e room_1 s m #[Value.ref b] below meth c D vwCl (fun q : Nat => s.heap.size ≤ q) ad1 (gc n S SD) ad2 gm cA 4 67 67000 (fun _ : Unit => lw_Z below #[Value.ref b] s) (some ()) σ τ pc lv [.int 1] := fun z hz H locs ls hP hT hS hl => va_forget (fun q hq => hS.2.2 q hq) (W.widen (k := 600000) (n := 7302250) (by decide) (by decide) (lw_ret C.1.1 C.1.2.1 hr hlocks hd))
set_option maxHeartbeats 4000000 in
set_option maxRecDepth 100000 in
theorem law_loop {p : Program} {l : Launch} {e : Env} {s : State} {m : MethodId} {below : List Frame} {meth : Method} {c : Code} {D : va_G} {ad1 ad2 : Nat → Nat} {cA : FieldType → ClassId} {n S SD F L b : Nat} {xs : Nat → Int32} (C : jl_C p room_1 s m #[Value.ref b] c D vwCl (fun q : Nat => s.heap.size ≤ q) ad1 (gc n S SD) ad2 gm cA 4 67 67000 code RL jw_t b L xs) (hr : meth.sig.returnType = ret) (hlocks : meth.locks = false) : ∀ (k : Nat) (σ τ : jj_S) (x3 : Int32), jl_J p l e room_1 s m #[Value.ref b] below meth c D vwCl (fun q : Nat => s.heap.size ≤ q) ad1 (gc n S SD) ad2 gm cA 4 67 67000 (fun _ : Unit => lw_Z below #[Value.ref b] s) (jl_lp (b_law n S SD F L xs) k σ τ x3) σ τ 58 [(0, .ref b), (1, .ref (ad1 0)), (2, .ref (ad2 0)), (3, .int x3)] [] := by
  refine jl_loop (T := fun o σ τ x3 => jl_J p l e room_1 s m #[Value.ref b] below meth c D vwCl (fun q : Nat => s.heap.size ≤ q) ad1 (gc n S SD) ad2 gm cA 4 67 67000 (fun _ : Unit => lw_Z below #[Value.ref b] s) o σ τ 58 [(0, .ref b), (1, .ref (ad1 0)), (2, .ref (ad2 0)), (3, .int x3)] []) (fun _ _ _ _ h => by cases h) ?_
  intro rec ih σ τ x3
  unfold b_law
  refine jl_iload_n C 3 dL_law_58 rfl rfl ?_
  refine jl_aload_n C 0 dL_law_59 rfl rfl ?_
  refine jl_slen C dL_law_60 ?_
  refine jl_bipush C (v := (6 : Int32)) dL_law_61 (by decide) ?_
  refine jl_isub C dL_law_63 ?_
  refine jl_icmp_gt C (tgt := 557) dL_law_64 (by decide) (fun h1 => ?_) (fun h1 => ?_)
  · refine jl_iconst C (v := (1 : Int32)) dL_law_557 (by decide) ?_
    exact jl_end C hr hlocks dL_law_558
  · refine jl_aload_n C 0 dL_law_67 rfl rfl ?_
    refine jl_iload_n C 3 dL_law_68 rfl rfl ?_
    refine jl_sld C dL_law_69 ?_
    refine jl_bipush C (v := (15 : Int32)) dL_law_70 (by decide) ?_
    refine jl_iand C dL_law_72 ?_
    refine jl_by (fun hx => ?_) (fun hx0 => ?_)
    · refine jl_tsi C (v := (0 : Int32)) (tgt := 140) dL_law_73 hx (by decide) (by decide) rfl (by decide) ?_
      refine jl_aload_n C 1 dL_law_140 rfl rfl ?_
      refine jl_callx C (As := []) (rest := []) (fun z hz => c_Mesh_nodes hz) (q_Law_21 C.1.2.2.2.2.1 (rm := { frames := 0, cells := 0, slots := 0, locals := 0 }) rfl rfl ⟨Nat.le_of_ble_eq_true rfl, Nat.le_of_ble_eq_true rfl⟩) (g_0 n S SD) k_Mesh rfl rfl (Nat.le_of_ble_eq_true rfl) dL_law_141 (fun r3 σ2 _ => ?_)
      refine jl_aload_n C 2 dL_law_144 rfl rfl ?_
      refine jl_callm C (As := []) (rest := [.int r3]) (fun z hz => c_rRef_nodes hz) (q_Law_25 C.1.2.2.2.2.1 (rm := { frames := 0, cells := 0, slots := 0, locals := 0 }) rfl rfl ⟨Nat.le_of_ble_eq_true rfl, Nat.le_of_ble_eq_true rfl⟩) rg_0 k_Ref rfl rfl (Nat.le_of_ble_eq_true rfl) dL_law_145 (fun r5 τ4 _ => ?_)
      refine jl_icmp_eq C (tgt := 551) dL_law_148 (by decide) (fun h6 => ?_) (fun h6 => ?_)
      · refine jl_iinc C (v := x3 + (6 : Int32)) [(3, .int (x3 + (6 : Int32))), (0, .ref b), (1, .ref (ad1 0)), (2, .ref (ad2 0))] 3 dL_law_551 rfl rfl (by decide) rfl ?_
        refine jl_goto C (tgt := 58) dL_law_554 (by decide) ?_
        refine jl_sub [1, 2, 3, 0] rfl ?_
        exact ih σ2 τ4 (x3 + (6 : Int32))
      · exact fun z hz => by cases hz
    refine jl_by (fun hx => ?_) (fun hx1 => ?_)
    · refine jl_tsi C (v := (1 : Int32)) (tgt := 153) dL_law_73 hx (by decide) (by decide) rfl (by decide) ?_
      refine jl_aload_n C 1 dL_law_153 rfl rfl ?_
      refine jl_aload_n C 0 dL_law_154 rfl rfl ?_
      refine jl_iload_n C 3 dL_law_155 rfl rfl ?_
      refine jl_iconst C (v := (1 : Int32)) dL_law_156 (by decide) ?_
      refine jl_iadd C dL_law_157 ?_
      refine jl_sld C dL_law_158 ?_
      refine jl_aload_n C 0 dL_law_159 rfl rfl ?_
      refine jl_iload_n C 3 dL_law_160 rfl rfl ?_
      refine jl_iconst C (v := (2 : Int32)) dL_law_161 (by decide) ?_
      refine jl_iadd C dL_law_162 ?_
      refine jl_sld C dL_law_163 ?_
      refine jl_aload_n C 0 dL_law_164 rfl rfl ?_
      refine jl_iload_n C 3 dL_law_165 rfl rfl ?_
      refine jl_iconst C (v := (3 : Int32)) dL_law_166 (by decide) ?_
      refine jl_iadd C dL_law_167 ?_
      refine jl_sld C dL_law_168 ?_
      refine jl_if_eq C (tgt := 176) dL_law_169 (by decide) (fun h7 => ?_) (fun h7 => ?_)
      · refine jl_iconst C (v := (0 : Int32)) dL_law_176 (by decide) ?_
        refine jl_aload_n C 0 dL_law_177 rfl rfl ?_
        refine jl_iload_n C 3 dL_law_178 rfl rfl ?_
        refine jl_iconst C (v := (4 : Int32)) dL_law_179 (by decide) ?_
        refine jl_iadd C dL_law_180 ?_
        refine jl_sld C dL_law_181 ?_
        refine jl_aload_n C 0 dL_law_182 rfl rfl ?_
        refine jl_iload_n C 3 dL_law_183 rfl rfl ?_
        refine jl_iconst C (v := (5 : Int32)) dL_law_184 (by decide) ?_
        refine jl_iadd C dL_law_185 ?_
        refine jl_sld C dL_law_186 ?_
        refine jl_callx C (As := [.int (xs (x3 + (1 : Int32)).toNatClampNeg), .int (xs (x3 + (2 : Int32)).toNatClampNeg), .int (0 : Int32), .int (xs (x3 + (4 : Int32)).toNatClampNeg), .int (xs (x3 + (5 : Int32)).toNatClampNeg)]) (rest := []) (fun z hz => c_Mesh_request hz) (q_Law_26 C.1.2.2.2.2.1 (rm := { frames := 1, cells := 0, slots := 0, locals := 40 }) rfl rfl ⟨Nat.le_of_ble_eq_true rfl, Nat.le_of_ble_eq_true rfl⟩) (g_0 n S SD) k_Mesh rfl rfl (Nat.le_of_ble_eq_true rfl) dL_law_187 (fun r9 σ8 _ => ?_)
        refine jl_aload_n C 2 dL_law_190 rfl rfl ?_
        refine jl_aload_n C 0 dL_law_191 rfl rfl ?_
        refine jl_iload_n C 3 dL_law_192 rfl rfl ?_
        refine jl_iconst C (v := (1 : Int32)) dL_law_193 (by decide) ?_
        refine jl_iadd C dL_law_194 ?_
        refine jl_sld C dL_law_195 ?_
        refine jl_aload_n C 0 dL_law_196 rfl rfl ?_
        refine jl_iload_n C 3 dL_law_197 rfl rfl ?_
        refine jl_iconst C (v := (2 : Int32)) dL_law_198 (by decide) ?_
        refine jl_iadd C dL_law_199 ?_
        refine jl_sld C dL_law_200 ?_
        refine jl_aload_n C 0 dL_law_201 rfl rfl ?_
        refine jl_iload_n C 3 dL_law_202 rfl rfl ?_
        refine jl_iconst C (v := (3 : Int32)) dL_law_203 (by decide) ?_
        refine jl_iadd C dL_law_204 ?_
        refine jl_sld C dL_law_205 ?_
        refine jl_if_eq_t C (tgt := 213) dL_law_206 (by decide) h7 ?_
        refine jl_iconst C (v := (0 : Int32)) dL_law_213 (by decide) ?_
        refine jl_aload_n C 0 dL_law_214 rfl rfl ?_
        refine jl_iload_n C 3 dL_law_215 rfl rfl ?_
        refine jl_iconst C (v := (4 : Int32)) dL_law_216 (by decide) ?_
        refine jl_iadd C dL_law_217 ?_
        refine jl_sld C dL_law_218 ?_
        refine jl_aload_n C 0 dL_law_219 rfl rfl ?_
        refine jl_iload_n C 3 dL_law_220 rfl rfl ?_
        refine jl_iconst C (v := (5 : Int32)) dL_law_221 (by decide) ?_
        refine jl_iadd C dL_law_222 ?_
        refine jl_sld C dL_law_223 ?_
        refine jl_callm C (As := [.int (xs (x3 + (1 : Int32)).toNatClampNeg), .int (xs (x3 + (2 : Int32)).toNatClampNeg), .int (0 : Int32), .int (xs (x3 + (4 : Int32)).toNatClampNeg), .int (xs (x3 + (5 : Int32)).toNatClampNeg)]) (rest := [.int r9]) (fun z hz => c_rRef_request hz) (q_Law_30 C.1.2.2.2.2.1 (rm := { frames := 1, cells := 0, slots := 0, locals := 40 }) rfl rfl ⟨Nat.le_of_ble_eq_true rfl, Nat.le_of_ble_eq_true rfl⟩) rg_0 k_Ref rfl rfl (Nat.le_of_ble_eq_true rfl) dL_law_224 (fun r11 τ10 _ => ?_)
        refine jl_icmp_eq C (tgt := 551) dL_law_227 (by decide) (fun h12 => ?_) (fun h12 => ?_)
        · refine jl_iinc C (v := x3 + (6 : Int32)) [(3, .int (x3 + (6 : Int32))), (0, .ref b), (1, .ref (ad1 0)), (2, .ref (ad2 0))] 3 dL_law_551 rfl rfl (by decide) rfl ?_
          refine jl_goto C (tgt := 58) dL_law_554 (by decide) ?_
          refine jl_sub [1, 2, 3, 0] rfl ?_
          exact ih σ8 τ10 (x3 + (6 : Int32))
        · exact fun z hz => by cases hz
      · refine jl_iconst C (v := (1 : Int32)) dL_law_172 (by decide) ?_
        refine jl_goto C (tgt := 177) dL_law_173 (by decide) ?_
        refine jl_aload_n C 0 dL_law_177 rfl rfl ?_
        refine jl_iload_n C 3 dL_law_178 rfl rfl ?_
        refine jl_iconst C (v := (4 : Int32)) dL_law_179 (by decide) ?_
        refine jl_iadd C dL_law_180 ?_
        refine jl_sld C dL_law_181 ?_
        refine jl_aload_n C 0 dL_law_182 rfl rfl ?_
        refine jl_iload_n C 3 dL_law_183 rfl rfl ?_
        refine jl_iconst C (v := (5 : Int32)) dL_law_184 (by decide) ?_
        refine jl_iadd C dL_law_185 ?_
        refine jl_sld C dL_law_186 ?_
        refine jl_callx C (As := [.int (xs (x3 + (1 : Int32)).toNatClampNeg), .int (xs (x3 + (2 : Int32)).toNatClampNeg), .int (1 : Int32), .int (xs (x3 + (4 : Int32)).toNatClampNeg), .int (xs (x3 + (5 : Int32)).toNatClampNeg)]) (rest := []) (fun z hz => c_Mesh_request hz) (q_Law_26 C.1.2.2.2.2.1 (rm := { frames := 1, cells := 0, slots := 0, locals := 40 }) rfl rfl ⟨Nat.le_of_ble_eq_true rfl, Nat.le_of_ble_eq_true rfl⟩) (g_0 n S SD) k_Mesh rfl rfl (Nat.le_of_ble_eq_true rfl) dL_law_187 (fun r14 σ13 _ => ?_)
        refine jl_aload_n C 2 dL_law_190 rfl rfl ?_
        refine jl_aload_n C 0 dL_law_191 rfl rfl ?_
        refine jl_iload_n C 3 dL_law_192 rfl rfl ?_
        refine jl_iconst C (v := (1 : Int32)) dL_law_193 (by decide) ?_
        refine jl_iadd C dL_law_194 ?_
        refine jl_sld C dL_law_195 ?_
        refine jl_aload_n C 0 dL_law_196 rfl rfl ?_
        refine jl_iload_n C 3 dL_law_197 rfl rfl ?_
        refine jl_iconst C (v := (2 : Int32)) dL_law_198 (by decide) ?_
        refine jl_iadd C dL_law_199 ?_
        refine jl_sld C dL_law_200 ?_
        refine jl_aload_n C 0 dL_law_201 rfl rfl ?_
        refine jl_iload_n C 3 dL_law_202 rfl rfl ?_
        refine jl_iconst C (v := (3 : Int32)) dL_law_203 (by decide) ?_
        refine jl_iadd C dL_law_204 ?_
        refine jl_sld C dL_law_205 ?_
        refine jl_if_eq_f C (tgt := 213) dL_law_206 (by decide) h7 ?_
        refine jl_iconst C (v := (1 : Int32)) dL_law_209 (by decide) ?_
        refine jl_goto C (tgt := 214) dL_law_210 (by decide) ?_
        refine jl_aload_n C 0 dL_law_214 rfl rfl ?_
        refine jl_iload_n C 3 dL_law_215 rfl rfl ?_
        refine jl_iconst C (v := (4 : Int32)) dL_law_216 (by decide) ?_
        refine jl_iadd C dL_law_217 ?_
        refine jl_sld C dL_law_218 ?_
        refine jl_aload_n C 0 dL_law_219 rfl rfl ?_
        refine jl_iload_n C 3 dL_law_220 rfl rfl ?_
        refine jl_iconst C (v := (5 : Int32)) dL_law_221 (by decide) ?_
        refine jl_iadd C dL_law_222 ?_
        refine jl_sld C dL_law_223 ?_
        refine jl_callm C (As := [.int (xs (x3 + (1 : Int32)).toNatClampNeg), .int (xs (x3 + (2 : Int32)).toNatClampNeg), .int (1 : Int32), .int (xs (x3 + (4 : Int32)).toNatClampNeg), .int (xs (x3 + (5 : Int32)).toNatClampNeg)]) (rest := [.int r14]) (fun z hz => c_rRef_request hz) (q_Law_30 C.1.2.2.2.2.1 (rm := { frames := 1, cells := 0, slots := 0, locals := 40 }) rfl rfl ⟨Nat.le_of_ble_eq_true rfl, Nat.le_of_ble_eq_true rfl⟩) rg_0 k_Ref rfl rfl (Nat.le_of_ble_eq_true rfl) dL_law_224 (fun r16 τ15 _ => ?_)
        refine jl_icmp_eq C (tgt := 551) dL_law_227 (by decide) (fun h17 => ?_) (fun h17 => ?_)
        · refine jl_iinc C (v := x3 + (6 : Int32)) [(3, .int (x3 + (6 : Int32))), (0, .ref b), (1, .ref (ad1 0)), (2, .ref (ad2 0))] 3 dL_law_551 rfl rfl (by decide) rfl ?_
          refine jl_goto C (tgt := 58) dL_law_554 (by decide) ?_
          refine jl_sub [1, 2, 3, 0] rfl ?_
          exact ih σ13 τ15 (x3 + (6 : Int32))
        · exact fun z hz => by cases hz
    refine jl_by (fun hx => ?_) (fun hx2 => ?_)
    · refine jl_tsi C (v := (2 : Int32)) (tgt := 232) dL_law_73 hx (by decide) (by decide) rfl (by decide) ?_
      refine jl_aload_n C 1 dL_law_232 rfl rfl ?_
      refine jl_aload_n C 0 dL_law_233 rfl rfl ?_
      refine jl_iload_n C 3 dL_law_234 rfl rfl ?_
      refine jl_iconst C (v := (1 : Int32)) dL_law_235 (by decide) ?_
      refine jl_iadd C dL_law_236 ?_
      refine jl_sld C dL_law_237 ?_
      refine jl_aload_n C 0 dL_law_238 rfl rfl ?_
      refine jl_iload_n C 3 dL_law_239 rfl rfl ?_
      refine jl_iconst C (v := (2 : Int32)) dL_law_240 (by decide) ?_
      refine jl_iadd C dL_law_241 ?_
      refine jl_sld C dL_law_242 ?_
      refine jl_if_eq C (tgt := 250) dL_law_243 (by decide) (fun h18 => ?_) (fun h18 => ?_)
      · refine jl_iconst C (v := (0 : Int32)) dL_law_250 (by decide) ?_
        refine jl_callx C (As := [.int (xs (x3 + (1 : Int32)).toNatClampNeg), .int (0 : Int32)]) (rest := []) (fun z hz => c_Mesh_hold hz) (q_Law_31 C.1.2.2.2.2.1 (rm := { frames := 1, cells := 0, slots := 0, locals := 40 }) rfl rfl ⟨Nat.le_of_ble_eq_true rfl, Nat.le_of_ble_eq_true rfl⟩) (g_0 n S SD) k_Mesh rfl rfl (Nat.le_of_ble_eq_true rfl) dL_law_251 (fun r20 σ19 _ => ?_)
        refine jl_aload_n C 2 dL_law_254 rfl rfl ?_
        refine jl_aload_n C 0 dL_law_255 rfl rfl ?_
        refine jl_iload_n C 3 dL_law_256 rfl rfl ?_
        refine jl_iconst C (v := (1 : Int32)) dL_law_257 (by decide) ?_
        refine jl_iadd C dL_law_258 ?_
        refine jl_sld C dL_law_259 ?_
        refine jl_aload_n C 0 dL_law_260 rfl rfl ?_
        refine jl_iload_n C 3 dL_law_261 rfl rfl ?_
        refine jl_iconst C (v := (2 : Int32)) dL_law_262 (by decide) ?_
        refine jl_iadd C dL_law_263 ?_
        refine jl_sld C dL_law_264 ?_
        refine jl_if_eq_t C (tgt := 272) dL_law_265 (by decide) h18 ?_
        refine jl_iconst C (v := (0 : Int32)) dL_law_272 (by decide) ?_
        refine jl_callm C (As := [.int (xs (x3 + (1 : Int32)).toNatClampNeg), .int (0 : Int32)]) (rest := [.int r20]) (fun z hz => c_rRef_hold hz) (q_Law_35 C.1.2.2.2.2.1 (rm := { frames := 1, cells := 0, slots := 0, locals := 40 }) rfl rfl ⟨Nat.le_of_ble_eq_true rfl, Nat.le_of_ble_eq_true rfl⟩) rg_0 k_Ref rfl rfl (Nat.le_of_ble_eq_true rfl) dL_law_273 (fun r22 τ21 _ => ?_)
        refine jl_icmp_eq C (tgt := 551) dL_law_276 (by decide) (fun h23 => ?_) (fun h23 => ?_)
        · refine jl_iinc C (v := x3 + (6 : Int32)) [(3, .int (x3 + (6 : Int32))), (0, .ref b), (1, .ref (ad1 0)), (2, .ref (ad2 0))] 3 dL_law_551 rfl rfl (by decide) rfl ?_
          refine jl_goto C (tgt := 58) dL_law_554 (by decide) ?_
          refine jl_sub [1, 2, 3, 0] rfl ?_
          exact ih σ19 τ21 (x3 + (6 : Int32))
        · exact fun z hz => by cases hz
      · refine jl_iconst C (v := (1 : Int32)) dL_law_246 (by decide) ?_
        refine jl_goto C (tgt := 251) dL_law_247 (by decide) ?_
        refine jl_callx C (As := [.int (xs (x3 + (1 : Int32)).toNatClampNeg), .int (1 : Int32)]) (rest := []) (fun z hz => c_Mesh_hold hz) (q_Law_31 C.1.2.2.2.2.1 (rm := { frames := 1, cells := 0, slots := 0, locals := 40 }) rfl rfl ⟨Nat.le_of_ble_eq_true rfl, Nat.le_of_ble_eq_true rfl⟩) (g_0 n S SD) k_Mesh rfl rfl (Nat.le_of_ble_eq_true rfl) dL_law_251 (fun r25 σ24 _ => ?_)
        refine jl_aload_n C 2 dL_law_254 rfl rfl ?_
        refine jl_aload_n C 0 dL_law_255 rfl rfl ?_
        refine jl_iload_n C 3 dL_law_256 rfl rfl ?_
        refine jl_iconst C (v := (1 : Int32)) dL_law_257 (by decide) ?_
        refine jl_iadd C dL_law_258 ?_
        refine jl_sld C dL_law_259 ?_
        refine jl_aload_n C 0 dL_law_260 rfl rfl ?_
        refine jl_iload_n C 3 dL_law_261 rfl rfl ?_
        refine jl_iconst C (v := (2 : Int32)) dL_law_262 (by decide) ?_
        refine jl_iadd C dL_law_263 ?_
        refine jl_sld C dL_law_264 ?_
        refine jl_if_eq_f C (tgt := 272) dL_law_265 (by decide) h18 ?_
        refine jl_iconst C (v := (1 : Int32)) dL_law_268 (by decide) ?_
        refine jl_goto C (tgt := 273) dL_law_269 (by decide) ?_
        refine jl_callm C (As := [.int (xs (x3 + (1 : Int32)).toNatClampNeg), .int (1 : Int32)]) (rest := [.int r25]) (fun z hz => c_rRef_hold hz) (q_Law_35 C.1.2.2.2.2.1 (rm := { frames := 1, cells := 0, slots := 0, locals := 40 }) rfl rfl ⟨Nat.le_of_ble_eq_true rfl, Nat.le_of_ble_eq_true rfl⟩) rg_0 k_Ref rfl rfl (Nat.le_of_ble_eq_true rfl) dL_law_273 (fun r27 τ26 _ => ?_)
        refine jl_icmp_eq C (tgt := 551) dL_law_276 (by decide) (fun h28 => ?_) (fun h28 => ?_)
        · refine jl_iinc C (v := x3 + (6 : Int32)) [(3, .int (x3 + (6 : Int32))), (0, .ref b), (1, .ref (ad1 0)), (2, .ref (ad2 0))] 3 dL_law_551 rfl rfl (by decide) rfl ?_
          refine jl_goto C (tgt := 58) dL_law_554 (by decide) ?_
          refine jl_sub [1, 2, 3, 0] rfl ?_
          exact ih σ24 τ26 (x3 + (6 : Int32))
        · exact fun z hz => by cases hz
    refine jl_by (fun hx => ?_) (fun hx3 => ?_)
    · refine jl_tsi C (v := (3 : Int32)) (tgt := 281) dL_law_73 hx (by decide) (by decide) rfl (by decide) ?_
      refine jl_aload_n C 1 dL_law_281 rfl rfl ?_
      refine jl_aload_n C 0 dL_law_282 rfl rfl ?_
      refine jl_iload_n C 3 dL_law_283 rfl rfl ?_
      refine jl_iconst C (v := (1 : Int32)) dL_law_284 (by decide) ?_
      refine jl_iadd C dL_law_285 ?_
      refine jl_sld C dL_law_286 ?_
      refine jl_callx C (As := [.int (xs (x3 + (1 : Int32)).toNatClampNeg)]) (rest := []) (fun z hz => c_Mesh_run hz) (q_Law_36 C.1.2.2.2.2.1 (rm := { frames := 5, cells := 0, slots := 0, locals := 200 }) rfl rfl ⟨Nat.le_of_ble_eq_true rfl, Nat.le_of_ble_eq_true rfl⟩) (g_0 n S SD) k_Mesh rfl rfl (Nat.le_of_ble_eq_true rfl) dL_law_287 (fun r30 σ29 _ => ?_)
      refine jl_aload_n C 2 dL_law_290 rfl rfl ?_
      refine jl_aload_n C 0 dL_law_291 rfl rfl ?_
      refine jl_iload_n C 3 dL_law_292 rfl rfl ?_
      refine jl_iconst C (v := (1 : Int32)) dL_law_293 (by decide) ?_
      refine jl_iadd C dL_law_294 ?_
      refine jl_sld C dL_law_295 ?_
      refine jl_callm C (As := [.int (xs (x3 + (1 : Int32)).toNatClampNeg)]) (rest := [.int r30]) (fun z hz => c_rRef_run hz) (q_Law_40 C.1.2.2.2.2.1 (rm := { frames := 5, cells := 0, slots := 0, locals := 200 }) rfl rfl ⟨Nat.le_of_ble_eq_true rfl, Nat.le_of_ble_eq_true rfl⟩) rg_0 k_Ref rfl rfl (Nat.le_of_ble_eq_true rfl) dL_law_296 (fun r32 τ31 _ => ?_)
      refine jl_icmp_eq C (tgt := 551) dL_law_299 (by decide) (fun h33 => ?_) (fun h33 => ?_)
      · refine jl_iinc C (v := x3 + (6 : Int32)) [(3, .int (x3 + (6 : Int32))), (0, .ref b), (1, .ref (ad1 0)), (2, .ref (ad2 0))] 3 dL_law_551 rfl rfl (by decide) rfl ?_
        refine jl_goto C (tgt := 58) dL_law_554 (by decide) ?_
        refine jl_sub [1, 2, 3, 0] rfl ?_
        exact ih σ29 τ31 (x3 + (6 : Int32))
      · exact fun z hz => by cases hz
    refine jl_by (fun hx => ?_) (fun hx4 => ?_)
    · refine jl_tsi C (v := (4 : Int32)) (tgt := 304) dL_law_73 hx (by decide) (by decide) rfl (by decide) ?_
      refine jl_aload_n C 1 dL_law_304 rfl rfl ?_
      refine jl_callx C (As := []) (rest := []) (fun z hz => c_Mesh_ticks hz) (q_Law_41 C.1.2.2.2.2.1 (rm := { frames := 0, cells := 0, slots := 0, locals := 0 }) rfl rfl ⟨Nat.le_of_ble_eq_true rfl, Nat.le_of_ble_eq_true rfl⟩) (g_0 n S SD) k_Mesh rfl rfl (Nat.le_of_ble_eq_true rfl) dL_law_305 (fun r35 σ34 _ => ?_)
      refine jl_aload_n C 2 dL_law_308 rfl rfl ?_
      refine jl_callm C (As := []) (rest := [.int r35]) (fun z hz => c_rRef_ticks hz) (q_Law_44 C.1.2.2.2.2.1 (rm := { frames := 0, cells := 0, slots := 0, locals := 0 }) rfl rfl ⟨Nat.le_of_ble_eq_true rfl, Nat.le_of_ble_eq_true rfl⟩) rg_0 k_Ref rfl rfl (Nat.le_of_ble_eq_true rfl) dL_law_309 (fun r37 τ36 _ => ?_)
      refine jl_icmp_eq C (tgt := 551) dL_law_312 (by decide) (fun h38 => ?_) (fun h38 => ?_)
      · refine jl_iinc C (v := x3 + (6 : Int32)) [(3, .int (x3 + (6 : Int32))), (0, .ref b), (1, .ref (ad1 0)), (2, .ref (ad2 0))] 3 dL_law_551 rfl rfl (by decide) rfl ?_
        refine jl_goto C (tgt := 58) dL_law_554 (by decide) ?_
        refine jl_sub [1, 2, 3, 0] rfl ?_
        exact ih σ34 τ36 (x3 + (6 : Int32))
      · exact fun z hz => by cases hz
    refine jl_by (fun hx => ?_) (fun hx5 => ?_)
    · refine jl_tsi C (v := (5 : Int32)) (tgt := 317) dL_law_73 hx (by decide) (by decide) rfl (by decide) ?_
      refine jl_aload_n C 1 dL_law_317 rfl rfl ?_
      refine jl_callx C (As := []) (rest := []) (fun z hz => c_Mesh_replies hz) (q_Law_45 C.1.2.2.2.2.1 (rm := { frames := 0, cells := 0, slots := 0, locals := 0 }) rfl rfl ⟨Nat.le_of_ble_eq_true rfl, Nat.le_of_ble_eq_true rfl⟩) (g_0 n S SD) k_Mesh rfl rfl (Nat.le_of_ble_eq_true rfl) dL_law_318 (fun r40 σ39 _ => ?_)
      refine jl_aload_n C 2 dL_law_321 rfl rfl ?_
      refine jl_callm C (As := []) (rest := [.int r40]) (fun z hz => c_rRef_replies hz) (q_Law_48 C.1.2.2.2.2.1 (rm := { frames := 0, cells := 0, slots := 0, locals := 0 }) rfl rfl ⟨Nat.le_of_ble_eq_true rfl, Nat.le_of_ble_eq_true rfl⟩) rg_0 k_Ref rfl rfl (Nat.le_of_ble_eq_true rfl) dL_law_322 (fun r42 τ41 _ => ?_)
      refine jl_icmp_eq C (tgt := 551) dL_law_325 (by decide) (fun h43 => ?_) (fun h43 => ?_)
      · refine jl_iinc C (v := x3 + (6 : Int32)) [(3, .int (x3 + (6 : Int32))), (0, .ref b), (1, .ref (ad1 0)), (2, .ref (ad2 0))] 3 dL_law_551 rfl rfl (by decide) rfl ?_
        refine jl_goto C (tgt := 58) dL_law_554 (by decide) ?_
        refine jl_sub [1, 2, 3, 0] rfl ?_
        exact ih σ39 τ41 (x3 + (6 : Int32))
      · exact fun z hz => by cases hz
    refine jl_by (fun hx => ?_) (fun hx6 => ?_)
    · refine jl_tsi C (v := (6 : Int32)) (tgt := 330) dL_law_73 hx (by decide) (by decide) rfl (by decide) ?_
      refine jl_aload_n C 1 dL_law_330 rfl rfl ?_
      refine jl_aload_n C 0 dL_law_331 rfl rfl ?_
      refine jl_iload_n C 3 dL_law_332 rfl rfl ?_
      refine jl_iconst C (v := (1 : Int32)) dL_law_333 (by decide) ?_
      refine jl_iadd C dL_law_334 ?_
      refine jl_sld C dL_law_335 ?_
      refine jl_aload_n C 0 dL_law_336 rfl rfl ?_
      refine jl_iload_n C 3 dL_law_337 rfl rfl ?_
      refine jl_iconst C (v := (2 : Int32)) dL_law_338 (by decide) ?_
      refine jl_iadd C dL_law_339 ?_
      refine jl_sld C dL_law_340 ?_
      refine jl_callx C (As := [.int (xs (x3 + (1 : Int32)).toNatClampNeg), .int (xs (x3 + (2 : Int32)).toNatClampNeg)]) (rest := []) (fun z hz => c_Mesh_reply hz) (q_Law_49 C.1.2.2.2.2.1 (rm := { frames := 0, cells := 0, slots := 0, locals := 0 }) rfl rfl ⟨Nat.le_of_ble_eq_true rfl, Nat.le_of_ble_eq_true rfl⟩) (g_0 n S SD) k_Mesh rfl rfl (Nat.le_of_ble_eq_true rfl) dL_law_341 (fun r45 σ44 _ => ?_)
      refine jl_aload_n C 2 dL_law_344 rfl rfl ?_
      refine jl_aload_n C 0 dL_law_345 rfl rfl ?_
      refine jl_iload_n C 3 dL_law_346 rfl rfl ?_
      refine jl_iconst C (v := (1 : Int32)) dL_law_347 (by decide) ?_
      refine jl_iadd C dL_law_348 ?_
      refine jl_sld C dL_law_349 ?_
      refine jl_aload_n C 0 dL_law_350 rfl rfl ?_
      refine jl_iload_n C 3 dL_law_351 rfl rfl ?_
      refine jl_iconst C (v := (2 : Int32)) dL_law_352 (by decide) ?_
      refine jl_iadd C dL_law_353 ?_
      refine jl_sld C dL_law_354 ?_
      refine jl_callm C (As := [.int (xs (x3 + (1 : Int32)).toNatClampNeg), .int (xs (x3 + (2 : Int32)).toNatClampNeg)]) (rest := [.int r45]) (fun z hz => c_rRef_reply hz) (q_Law_53 C.1.2.2.2.2.1 (rm := { frames := 0, cells := 0, slots := 0, locals := 0 }) rfl rfl ⟨Nat.le_of_ble_eq_true rfl, Nat.le_of_ble_eq_true rfl⟩) rg_0 k_Ref rfl rfl (Nat.le_of_ble_eq_true rfl) dL_law_355 (fun r47 τ46 _ => ?_)
      refine jl_icmp_eq C (tgt := 551) dL_law_358 (by decide) (fun h48 => ?_) (fun h48 => ?_)
      · refine jl_iinc C (v := x3 + (6 : Int32)) [(3, .int (x3 + (6 : Int32))), (0, .ref b), (1, .ref (ad1 0)), (2, .ref (ad2 0))] 3 dL_law_551 rfl rfl (by decide) rfl ?_
        refine jl_goto C (tgt := 58) dL_law_554 (by decide) ?_
        refine jl_sub [1, 2, 3, 0] rfl ?_
        exact ih σ44 τ46 (x3 + (6 : Int32))
      · exact fun z hz => by cases hz
    refine jl_by (fun hx => ?_) (fun hx7 => ?_)
    · refine jl_tsi C (v := (7 : Int32)) (tgt := 363) dL_law_73 hx (by decide) (by decide) rfl (by decide) ?_
      refine jl_aload_n C 1 dL_law_363 rfl rfl ?_
      refine jl_aload_n C 0 dL_law_364 rfl rfl ?_
      refine jl_iload_n C 3 dL_law_365 rfl rfl ?_
      refine jl_iconst C (v := (1 : Int32)) dL_law_366 (by decide) ?_
      refine jl_iadd C dL_law_367 ?_
      refine jl_sld C dL_law_368 ?_
      refine jl_aload_n C 0 dL_law_369 rfl rfl ?_
      refine jl_iload_n C 3 dL_law_370 rfl rfl ?_
      refine jl_iconst C (v := (2 : Int32)) dL_law_371 (by decide) ?_
      refine jl_iadd C dL_law_372 ?_
      refine jl_sld C dL_law_373 ?_
      refine jl_callx C (As := [.int (xs (x3 + (1 : Int32)).toNatClampNeg), .int (xs (x3 + (2 : Int32)).toNatClampNeg)]) (rest := []) (fun z hz => c_Mesh_memory hz) (q_Law_54 C.1.2.2.2.2.1 (rm := { frames := 1, cells := 0, slots := 0, locals := 40 }) rfl rfl ⟨Nat.le_of_ble_eq_true rfl, Nat.le_of_ble_eq_true rfl⟩) (g_0 n S SD) k_Mesh rfl rfl (Nat.le_of_ble_eq_true rfl) dL_law_374 (fun r50 σ49 _ => ?_)
      refine jl_aload_n C 2 dL_law_377 rfl rfl ?_
      refine jl_aload_n C 0 dL_law_378 rfl rfl ?_
      refine jl_iload_n C 3 dL_law_379 rfl rfl ?_
      refine jl_iconst C (v := (1 : Int32)) dL_law_380 (by decide) ?_
      refine jl_iadd C dL_law_381 ?_
      refine jl_sld C dL_law_382 ?_
      refine jl_aload_n C 0 dL_law_383 rfl rfl ?_
      refine jl_iload_n C 3 dL_law_384 rfl rfl ?_
      refine jl_iconst C (v := (2 : Int32)) dL_law_385 (by decide) ?_
      refine jl_iadd C dL_law_386 ?_
      refine jl_sld C dL_law_387 ?_
      refine jl_callm C (As := [.int (xs (x3 + (1 : Int32)).toNatClampNeg), .int (xs (x3 + (2 : Int32)).toNatClampNeg)]) (rest := [.int r50]) (fun z hz => c_rRef_memory hz) (q_Law_57 C.1.2.2.2.2.1 (rm := { frames := 1, cells := 0, slots := 0, locals := 40 }) rfl rfl ⟨Nat.le_of_ble_eq_true rfl, Nat.le_of_ble_eq_true rfl⟩) rg_0 k_Ref rfl rfl (Nat.le_of_ble_eq_true rfl) dL_law_388 (fun r52 τ51 _ => ?_)
      refine jl_icmp_eq C (tgt := 551) dL_law_391 (by decide) (fun h53 => ?_) (fun h53 => ?_)
      · refine jl_iinc C (v := x3 + (6 : Int32)) [(3, .int (x3 + (6 : Int32))), (0, .ref b), (1, .ref (ad1 0)), (2, .ref (ad2 0))] 3 dL_law_551 rfl rfl (by decide) rfl ?_
        refine jl_goto C (tgt := 58) dL_law_554 (by decide) ?_
        refine jl_sub [1, 2, 3, 0] rfl ?_
        exact ih σ49 τ51 (x3 + (6 : Int32))
      · exact fun z hz => by cases hz
    refine jl_by (fun hx => ?_) (fun hx8 => ?_)
    · refine jl_tsi C (v := (8 : Int32)) (tgt := 396) dL_law_73 hx (by decide) (by decide) rfl (by decide) ?_
      refine jl_aload_n C 1 dL_law_396 rfl rfl ?_
      refine jl_aload_n C 0 dL_law_397 rfl rfl ?_
      refine jl_iload_n C 3 dL_law_398 rfl rfl ?_
      refine jl_iconst C (v := (1 : Int32)) dL_law_399 (by decide) ?_
      refine jl_iadd C dL_law_400 ?_
      refine jl_sld C dL_law_401 ?_
      refine jl_callx C (As := [.int (xs (x3 + (1 : Int32)).toNatClampNeg)]) (rest := []) (fun z hz => c_Mesh_waiting hz) (q_Law_58 C.1.2.2.2.2.1 (rm := { frames := 1, cells := 0, slots := 0, locals := 40 }) rfl rfl ⟨Nat.le_of_ble_eq_true rfl, Nat.le_of_ble_eq_true rfl⟩) (g_0 n S SD) k_Mesh rfl rfl (Nat.le_of_ble_eq_true rfl) dL_law_402 (fun r55 σ54 _ => ?_)
      refine jl_aload_n C 2 dL_law_405 rfl rfl ?_
      refine jl_aload_n C 0 dL_law_406 rfl rfl ?_
      refine jl_iload_n C 3 dL_law_407 rfl rfl ?_
      refine jl_iconst C (v := (1 : Int32)) dL_law_408 (by decide) ?_
      refine jl_iadd C dL_law_409 ?_
      refine jl_sld C dL_law_410 ?_
      refine jl_callm C (As := [.int (xs (x3 + (1 : Int32)).toNatClampNeg)]) (rest := [.int r55]) (fun z hz => c_rRef_waiting hz) (q_Law_61 C.1.2.2.2.2.1 (rm := { frames := 1, cells := 0, slots := 0, locals := 40 }) rfl rfl ⟨Nat.le_of_ble_eq_true rfl, Nat.le_of_ble_eq_true rfl⟩) rg_0 k_Ref rfl rfl (Nat.le_of_ble_eq_true rfl) dL_law_411 (fun r57 τ56 _ => ?_)
      refine jl_icmp_eq C (tgt := 551) dL_law_414 (by decide) (fun h58 => ?_) (fun h58 => ?_)
      · refine jl_iinc C (v := x3 + (6 : Int32)) [(3, .int (x3 + (6 : Int32))), (0, .ref b), (1, .ref (ad1 0)), (2, .ref (ad2 0))] 3 dL_law_551 rfl rfl (by decide) rfl ?_
        refine jl_goto C (tgt := 58) dL_law_554 (by decide) ?_
        refine jl_sub [1, 2, 3, 0] rfl ?_
        exact ih σ54 τ56 (x3 + (6 : Int32))
      · exact fun z hz => by cases hz
    refine jl_by (fun hx => ?_) (fun hx9 => ?_)
    · refine jl_tsi C (v := (9 : Int32)) (tgt := 419) dL_law_73 hx (by decide) (by decide) rfl (by decide) ?_
      refine jl_aload_n C 1 dL_law_419 rfl rfl ?_
      refine jl_aload_n C 0 dL_law_420 rfl rfl ?_
      refine jl_iload_n C 3 dL_law_421 rfl rfl ?_
      refine jl_iconst C (v := (1 : Int32)) dL_law_422 (by decide) ?_
      refine jl_iadd C dL_law_423 ?_
      refine jl_sld C dL_law_424 ?_
      refine jl_aload_n C 0 dL_law_425 rfl rfl ?_
      refine jl_iload_n C 3 dL_law_426 rfl rfl ?_
      refine jl_iconst C (v := (2 : Int32)) dL_law_427 (by decide) ?_
      refine jl_iadd C dL_law_428 ?_
      refine jl_sld C dL_law_429 ?_
      refine jl_aload_n C 0 dL_law_430 rfl rfl ?_
      refine jl_iload_n C 3 dL_law_431 rfl rfl ?_
      refine jl_iconst C (v := (3 : Int32)) dL_law_432 (by decide) ?_
      refine jl_iadd C dL_law_433 ?_
      refine jl_sld C dL_law_434 ?_
      refine jl_callx C (As := [.int (xs (x3 + (1 : Int32)).toNatClampNeg), .int (xs (x3 + (2 : Int32)).toNatClampNeg), .int (xs (x3 + (3 : Int32)).toNatClampNeg)]) (rest := []) (fun z hz => c_Mesh_lane hz) (q_Law_62 C.1.2.2.2.2.1 (rm := { frames := 2, cells := 0, slots := 0, locals := 80 }) rfl rfl ⟨Nat.le_of_ble_eq_true rfl, Nat.le_of_ble_eq_true rfl⟩) (g_0 n S SD) k_Mesh rfl rfl (Nat.le_of_ble_eq_true rfl) dL_law_435 (fun r60 σ59 _ => ?_)
      refine jl_aload_n C 2 dL_law_438 rfl rfl ?_
      refine jl_aload_n C 0 dL_law_439 rfl rfl ?_
      refine jl_iload_n C 3 dL_law_440 rfl rfl ?_
      refine jl_iconst C (v := (1 : Int32)) dL_law_441 (by decide) ?_
      refine jl_iadd C dL_law_442 ?_
      refine jl_sld C dL_law_443 ?_
      refine jl_aload_n C 0 dL_law_444 rfl rfl ?_
      refine jl_iload_n C 3 dL_law_445 rfl rfl ?_
      refine jl_iconst C (v := (2 : Int32)) dL_law_446 (by decide) ?_
      refine jl_iadd C dL_law_447 ?_
      refine jl_sld C dL_law_448 ?_
      refine jl_aload_n C 0 dL_law_449 rfl rfl ?_
      refine jl_iload_n C 3 dL_law_450 rfl rfl ?_
      refine jl_iconst C (v := (3 : Int32)) dL_law_451 (by decide) ?_
      refine jl_iadd C dL_law_452 ?_
      refine jl_sld C dL_law_453 ?_
      refine jl_callm C (As := [.int (xs (x3 + (1 : Int32)).toNatClampNeg), .int (xs (x3 + (2 : Int32)).toNatClampNeg), .int (xs (x3 + (3 : Int32)).toNatClampNeg)]) (rest := [.int r60]) (fun z hz => c_rRef_lane hz) (q_Law_66 C.1.2.2.2.2.1 (rm := { frames := 2, cells := 0, slots := 0, locals := 80 }) rfl rfl ⟨Nat.le_of_ble_eq_true rfl, Nat.le_of_ble_eq_true rfl⟩) rg_0 k_Ref rfl rfl (Nat.le_of_ble_eq_true rfl) dL_law_454 (fun r62 τ61 _ => ?_)
      refine jl_icmp_eq C (tgt := 551) dL_law_457 (by decide) (fun h63 => ?_) (fun h63 => ?_)
      · refine jl_iinc C (v := x3 + (6 : Int32)) [(3, .int (x3 + (6 : Int32))), (0, .ref b), (1, .ref (ad1 0)), (2, .ref (ad2 0))] 3 dL_law_551 rfl rfl (by decide) rfl ?_
        refine jl_goto C (tgt := 58) dL_law_554 (by decide) ?_
        refine jl_sub [1, 2, 3, 0] rfl ?_
        exact ih σ59 τ61 (x3 + (6 : Int32))
      · exact fun z hz => by cases hz
    refine jl_by (fun hx => ?_) (fun hx10 => ?_)
    · refine jl_tsi C (v := (10 : Int32)) (tgt := 462) dL_law_73 hx (by decide) (by decide) rfl (by decide) ?_
      refine jl_aload_n C 1 dL_law_462 rfl rfl ?_
      refine jl_aload_n C 0 dL_law_463 rfl rfl ?_
      refine jl_iload_n C 3 dL_law_464 rfl rfl ?_
      refine jl_iconst C (v := (1 : Int32)) dL_law_465 (by decide) ?_
      refine jl_iadd C dL_law_466 ?_
      refine jl_sld C dL_law_467 ?_
      refine jl_aload_n C 0 dL_law_468 rfl rfl ?_
      refine jl_iload_n C 3 dL_law_469 rfl rfl ?_
      refine jl_iconst C (v := (2 : Int32)) dL_law_470 (by decide) ?_
      refine jl_iadd C dL_law_471 ?_
      refine jl_sld C dL_law_472 ?_
      refine jl_aload_n C 0 dL_law_473 rfl rfl ?_
      refine jl_iload_n C 3 dL_law_474 rfl rfl ?_
      refine jl_iconst C (v := (3 : Int32)) dL_law_475 (by decide) ?_
      refine jl_iadd C dL_law_476 ?_
      refine jl_sld C dL_law_477 ?_
      refine jl_callx C (As := [.int (xs (x3 + (1 : Int32)).toNatClampNeg), .int (xs (x3 + (2 : Int32)).toNatClampNeg), .int (xs (x3 + (3 : Int32)).toNatClampNeg)]) (rest := []) (fun z hz => c_Mesh_output hz) (q_Law_67 C.1.2.2.2.2.1 (rm := { frames := 2, cells := 0, slots := 0, locals := 80 }) rfl rfl ⟨Nat.le_of_ble_eq_true rfl, Nat.le_of_ble_eq_true rfl⟩) (g_0 n S SD) k_Mesh rfl rfl (Nat.le_of_ble_eq_true rfl) dL_law_478 (fun r65 σ64 _ => ?_)
      refine jl_aload_n C 2 dL_law_481 rfl rfl ?_
      refine jl_aload_n C 0 dL_law_482 rfl rfl ?_
      refine jl_iload_n C 3 dL_law_483 rfl rfl ?_
      refine jl_iconst C (v := (1 : Int32)) dL_law_484 (by decide) ?_
      refine jl_iadd C dL_law_485 ?_
      refine jl_sld C dL_law_486 ?_
      refine jl_aload_n C 0 dL_law_487 rfl rfl ?_
      refine jl_iload_n C 3 dL_law_488 rfl rfl ?_
      refine jl_iconst C (v := (2 : Int32)) dL_law_489 (by decide) ?_
      refine jl_iadd C dL_law_490 ?_
      refine jl_sld C dL_law_491 ?_
      refine jl_aload_n C 0 dL_law_492 rfl rfl ?_
      refine jl_iload_n C 3 dL_law_493 rfl rfl ?_
      refine jl_iconst C (v := (3 : Int32)) dL_law_494 (by decide) ?_
      refine jl_iadd C dL_law_495 ?_
      refine jl_sld C dL_law_496 ?_
      refine jl_callm C (As := [.int (xs (x3 + (1 : Int32)).toNatClampNeg), .int (xs (x3 + (2 : Int32)).toNatClampNeg), .int (xs (x3 + (3 : Int32)).toNatClampNeg)]) (rest := [.int r65]) (fun z hz => c_rRef_output hz) (q_Law_70 C.1.2.2.2.2.1 (rm := { frames := 2, cells := 0, slots := 0, locals := 80 }) rfl rfl ⟨Nat.le_of_ble_eq_true rfl, Nat.le_of_ble_eq_true rfl⟩) rg_0 k_Ref rfl rfl (Nat.le_of_ble_eq_true rfl) dL_law_497 (fun r67 τ66 _ => ?_)
      refine jl_icmp_eq C (tgt := 551) dL_law_500 (by decide) (fun h68 => ?_) (fun h68 => ?_)
      · refine jl_iinc C (v := x3 + (6 : Int32)) [(3, .int (x3 + (6 : Int32))), (0, .ref b), (1, .ref (ad1 0)), (2, .ref (ad2 0))] 3 dL_law_551 rfl rfl (by decide) rfl ?_
        refine jl_goto C (tgt := 58) dL_law_554 (by decide) ?_
        refine jl_sub [1, 2, 3, 0] rfl ?_
        exact ih σ64 τ66 (x3 + (6 : Int32))
      · exact fun z hz => by cases hz
    refine jl_by (fun hx => ?_) (fun hx11 => ?_)
    · refine jl_tsi C (v := (11 : Int32)) (tgt := 505) dL_law_73 hx (by decide) (by decide) rfl (by decide) ?_
      refine jl_aload_n C 1 dL_law_505 rfl rfl ?_
      refine jl_aload_n C 0 dL_law_506 rfl rfl ?_
      refine jl_iload_n C 3 dL_law_507 rfl rfl ?_
      refine jl_iconst C (v := (1 : Int32)) dL_law_508 (by decide) ?_
      refine jl_iadd C dL_law_509 ?_
      refine jl_sld C dL_law_510 ?_
      refine jl_aload_n C 0 dL_law_511 rfl rfl ?_
      refine jl_iload_n C 3 dL_law_512 rfl rfl ?_
      refine jl_iconst C (v := (2 : Int32)) dL_law_513 (by decide) ?_
      refine jl_iadd C dL_law_514 ?_
      refine jl_sld C dL_law_515 ?_
      refine jl_callx C (As := [.int (xs (x3 + (1 : Int32)).toNatClampNeg), .int (xs (x3 + (2 : Int32)).toNatClampNeg)]) (rest := []) (fun z hz => c_Mesh_arrival hz) (q_Law_71 C.1.2.2.2.2.1 (rm := { frames := 1, cells := 0, slots := 0, locals := 40 }) rfl rfl ⟨Nat.le_of_ble_eq_true rfl, Nat.le_of_ble_eq_true rfl⟩) (g_0 n S SD) k_Mesh rfl rfl (Nat.le_of_ble_eq_true rfl) dL_law_516 (fun r70 σ69 _ => ?_)
      refine jl_aload_n C 2 dL_law_519 rfl rfl ?_
      refine jl_aload_n C 0 dL_law_520 rfl rfl ?_
      refine jl_iload_n C 3 dL_law_521 rfl rfl ?_
      refine jl_iconst C (v := (1 : Int32)) dL_law_522 (by decide) ?_
      refine jl_iadd C dL_law_523 ?_
      refine jl_sld C dL_law_524 ?_
      refine jl_aload_n C 0 dL_law_525 rfl rfl ?_
      refine jl_iload_n C 3 dL_law_526 rfl rfl ?_
      refine jl_iconst C (v := (2 : Int32)) dL_law_527 (by decide) ?_
      refine jl_iadd C dL_law_528 ?_
      refine jl_sld C dL_law_529 ?_
      refine jl_callm C (As := [.int (xs (x3 + (1 : Int32)).toNatClampNeg), .int (xs (x3 + (2 : Int32)).toNatClampNeg)]) (rest := [.int r70]) (fun z hz => c_rRef_arrival hz) (q_Law_74 C.1.2.2.2.2.1 (rm := { frames := 2, cells := 0, slots := 0, locals := 80 }) rfl rfl ⟨Nat.le_of_ble_eq_true rfl, Nat.le_of_ble_eq_true rfl⟩) rg_0 k_Ref rfl rfl (Nat.le_of_ble_eq_true rfl) dL_law_530 (fun r72 τ71 _ => ?_)
      refine jl_icmp_eq C (tgt := 551) dL_law_533 (by decide) (fun h73 => ?_) (fun h73 => ?_)
      · refine jl_iinc C (v := x3 + (6 : Int32)) [(3, .int (x3 + (6 : Int32))), (0, .ref b), (1, .ref (ad1 0)), (2, .ref (ad2 0))] 3 dL_law_551 rfl rfl (by decide) rfl ?_
        refine jl_goto C (tgt := 58) dL_law_554 (by decide) ?_
        refine jl_sub [1, 2, 3, 0] rfl ?_
        exact ih σ69 τ71 (x3 + (6 : Int32))
      · exact fun z hz => by cases hz
    refine jl_by (fun hx => ?_) (fun hx12 => ?_)
    · refine jl_tsi C (v := (12 : Int32)) (tgt := 538) dL_law_73 hx (by decide) (by decide) rfl (by decide) ?_
      refine jl_aload_n C 1 dL_law_538 rfl rfl ?_
      refine jl_callx C (As := []) (rest := []) (fun z hz => c_Mesh_sent hz) (q_Law_75 C.1.2.2.2.2.1 (rm := { frames := 0, cells := 0, slots := 0, locals := 0 }) rfl rfl ⟨Nat.le_of_ble_eq_true rfl, Nat.le_of_ble_eq_true rfl⟩) (g_0 n S SD) k_Mesh rfl rfl (Nat.le_of_ble_eq_true rfl) dL_law_539 (fun r75 σ74 _ => ?_)
      refine jl_aload_n C 2 dL_law_542 rfl rfl ?_
      refine jl_callm C (As := []) (rest := [.int r75]) (fun z hz => c_rRef_sent hz) (q_Law_78 C.1.2.2.2.2.1 (rm := { frames := 0, cells := 0, slots := 0, locals := 0 }) rfl rfl ⟨Nat.le_of_ble_eq_true rfl, Nat.le_of_ble_eq_true rfl⟩) rg_0 k_Ref rfl rfl (Nat.le_of_ble_eq_true rfl) dL_law_543 (fun r77 τ76 _ => ?_)
      refine jl_icmp_eq C (tgt := 551) dL_law_546 (by decide) (fun h78 => ?_) (fun h78 => ?_)
      · refine jl_iinc C (v := x3 + (6 : Int32)) [(3, .int (x3 + (6 : Int32))), (0, .ref b), (1, .ref (ad1 0)), (2, .ref (ad2 0))] 3 dL_law_551 rfl rfl (by decide) rfl ?_
        refine jl_goto C (tgt := 58) dL_law_554 (by decide) ?_
        refine jl_sub [1, 2, 3, 0] rfl ?_
        exact ih σ74 τ76 (x3 + (6 : Int32))
      · exact fun z hz => by cases hz
    refine jl_tso C (tgt := 551) dL_law_73 (fun j h1 h2 e1 => by rcases (show j = 0 ∨ j = 1 ∨ j = 2 ∨ j = 3 ∨ j = 4 ∨ j = 5 ∨ j = 6 ∨ j = 7 ∨ j = 8 ∨ j = 9 ∨ j = 10 ∨ j = 11 ∨ j = 12 by omega) with rfl | rfl | rfl | rfl | rfl | rfl | rfl | rfl | rfl | rfl | rfl | rfl | rfl <;> first | exact hx0 (Int32.toInt_inj.mp e1) | exact hx1 (Int32.toInt_inj.mp e1) | exact hx2 (Int32.toInt_inj.mp e1) | exact hx3 (Int32.toInt_inj.mp e1) | exact hx4 (Int32.toInt_inj.mp e1) | exact hx5 (Int32.toInt_inj.mp e1) | exact hx6 (Int32.toInt_inj.mp e1) | exact hx7 (Int32.toInt_inj.mp e1) | exact hx8 (Int32.toInt_inj.mp e1) | exact hx9 (Int32.toInt_inj.mp e1) | exact hx10 (Int32.toInt_inj.mp e1) | exact hx11 (Int32.toInt_inj.mp e1) | exact hx12 (Int32.toInt_inj.mp e1)) (by decide) ?_
    refine jl_iinc C (v := x3 + (6 : Int32)) [(3, .int (x3 + (6 : Int32))), (0, .ref b), (1, .ref (ad1 0)), (2, .ref (ad2 0))] 3 dL_law_551 rfl rfl (by decide) rfl ?_
    refine jl_goto C (tgt := 58) dL_law_554 (by decide) ?_
    refine jl_sub [1, 2, 3, 0] rfl ?_
    exact ih σ τ (x3 + (6 : Int32))
