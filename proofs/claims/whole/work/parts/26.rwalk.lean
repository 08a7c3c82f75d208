set_option maxHeartbeats 4000000 in
set_option maxRecDepth 100000 in
theorem c_rRef_leads {l : Launch} {D : va_G} {ad : Nat → Nat} {cA : FieldType → ClassId} { F : Nat} {σ : jj_S} {a1 a2 : Int32} {z : (Int32 × jj_S)} (ho : f_rRef_leads  F σ a1 a2 = some z) : jj_Mi l yX8_leads (Cond.code yX8_leads cX8_leads 5 (some .boolean) :: jw_t) { frames := 0, cells := 0, slots := 0, locals := 0 } D vwCl ad cA (gm) [.ref (ad 0), .int a1, .int a2] σ z := by
  refine jj_ofi (cc := cX8_leads) (nL := 5) (ret := (some .boolean)) rfl ho (Nat.le_of_ble_eq_true rfl) ?_
  intro p e s m below meth c C hr hlocks
  generalize hA : va_A (jj_w ad cA (gm) σ) s.heap.size = A at C ⊢
  have hRm : 0 ≤ (headSpec (Cond.code yX8_leads cX8_leads 5 (some .boolean) :: jw_t) { frames := 0, cells := 0, slots := 0, locals := 0 }).room.frames ∧ 0 ≤ (headSpec (Cond.code yX8_leads cX8_leads 5 (some .boolean) :: jw_t) { frames := 0, cells := 0, slots := 0, locals := 0 }).room.locals := ⟨Nat.le_refl _, Nat.le_refl _⟩
  generalize (headSpec (Cond.code yX8_leads cX8_leads 5 (some .boolean) :: jw_t) { frames := 0, cells := 0, slots := 0, locals := 0 }).room = R at C hRm ⊢
  generalize List.toArray ([.ref (ad 0), .int a1, .int a2] : List Value) = args at C ⊢
  refine jj_sub (lv' := [(0, .ref (ad 0)), (1, .int a1), (2, .int a2)]) [0, 1, 2] rfl ?_
  unfold f_rRef_leads
  refine jj_iload_n C 1 dX8_leads_0 rfl rfl ?_
  refine jj_aload_n C 0 dX8_leads_1 rfl rfl ?_
  refine jj_geti C 0 0 in_Ref (rg_0 ) k_Ref (by decide) fl_Ref_95 rfl dX8_leads_2 ?_
  refine jj_irem C dX8_leads_5 ?_
  refine jj_ltn (fun v3_1 => ?_)
  refine jj_istore_n C [(3, .int v3_1), (0, .ref (ad 0)), (1, .int a1), (2, .int a2)] dX8_leads_6 rfl (by decide) rfl ?_
  refine jj_iload_n C 2 dX8_leads_7 rfl rfl ?_
  refine jj_aload_n C 1 dX8_leads_8 rfl rfl ?_
  refine jj_geti C 0 0 in_Ref (rg_0 ) k_Ref (by decide) fl_Ref_95 rfl dX8_leads_9 ?_
  refine jj_idiv C dX8_leads_12 ?_
  refine jj_ltn (fun v4_2 => ?_)
  refine jj_istore C [(4, .int v4_2), (3, .int v3_1), (0, .ref (ad 0)), (1, .int a1), (2, .int a2)] dX8_leads_13 (by decide) rfl ?_
  refine jj_iload_n C 4 dX8_leads_15 rfl rfl ?_
  refine jj_if_eq C (tgt := 69) dX8_leads_16 (by decide) (fun _ => ?_) (fun _ => ?_)
  · refine jj_iconst C (v := (1 : Int32)) dX8_leads_69 (by decide) ?_
    refine jj_goto C (tgt := 74) dX8_leads_70 (by decide) ?_
    exact jj_zret C hr hlocks (by first | rfl | decide +kernel) dX8_leads_74
  · refine jj_iload_n C 4 dX8_leads_19 rfl rfl ?_
    refine jj_iconst C (v := (1 : Int32)) dX8_leads_20 (by decide) ?_
    refine jj_icmp_ne C (tgt := 34) dX8_leads_21 (by decide) (fun _ => ?_) (fun _ => ?_)
    · refine jj_iload_n C 4 dX8_leads_34 rfl rfl ?_
      refine jj_iconst C (v := (2 : Int32)) dX8_leads_35 (by decide) ?_
      refine jj_icmp_ne C (tgt := 43) dX8_leads_36 (by decide) (fun _ => ?_) (fun _ => ?_)
      · refine jj_iload_n C 4 dX8_leads_43 rfl rfl ?_
        refine jj_iconst C (v := (3 : Int32)) dX8_leads_44 (by decide) ?_
        refine jj_icmp_ne C (tgt := 59) dX8_leads_45 (by decide) (fun _ => ?_) (fun _ => ?_)
        · refine jj_iload_n C 4 dX8_leads_59 rfl rfl ?_
          refine jj_iconst C (v := (4 : Int32)) dX8_leads_60 (by decide) ?_
          refine jj_icmp_ne C (tgt := 73) dX8_leads_61 (by decide) (fun _ => ?_) (fun _ => ?_)
          · refine jj_iconst C (v := (0 : Int32)) dX8_leads_73 (by decide) ?_
            exact jj_zret C hr hlocks (by first | rfl | decide +kernel) dX8_leads_74
          · refine jj_iload C 0 dX8_leads_64 rfl ?_
            refine jj_if_le C (tgt := 73) dX8_leads_66 (by decide) (fun _ => ?_) (fun _ => ?_)
            · refine jj_iconst C (v := (0 : Int32)) dX8_leads_73 (by decide) ?_
              exact jj_zret C hr hlocks (by first | rfl | decide +kernel) dX8_leads_74
            · refine jj_iconst C (v := (1 : Int32)) dX8_leads_69 (by decide) ?_
              refine jj_goto C (tgt := 74) dX8_leads_70 (by decide) ?_
              exact jj_zret C hr hlocks (by first | rfl | decide +kernel) dX8_leads_74
        · refine jj_iload C 0 dX8_leads_48 rfl ?_
          refine jj_aload_n C 2 dX8_leads_50 rfl rfl ?_
          refine jj_geti C 0 1 in_Ref (rg_0 ) k_Ref (by decide) fl_Ref_99 rfl dX8_leads_51 ?_
          refine jj_iconst C (v := (1 : Int32)) dX8_leads_54 (by decide) ?_
          refine jj_isub C dX8_leads_55 ?_
          refine jj_icmp_lt C (tgt := 69) dX8_leads_56 (by decide) (fun _ => ?_) (fun _ => ?_)
          · refine jj_iconst C (v := (1 : Int32)) dX8_leads_69 (by decide) ?_
            refine jj_goto C (tgt := 74) dX8_leads_70 (by decide) ?_
            exact jj_zret C hr hlocks (by first | rfl | decide +kernel) dX8_leads_74
          · refine jj_iload_n C 4 dX8_leads_59 rfl rfl ?_
            refine jj_iconst C (v := (4 : Int32)) dX8_leads_60 (by decide) ?_
            refine jj_icmp_ne C (tgt := 73) dX8_leads_61 (by decide) (fun _ => ?_) (fun _ => ?_)
            · refine jj_iconst C (v := (0 : Int32)) dX8_leads_73 (by decide) ?_
              exact jj_zret C hr hlocks (by first | rfl | decide +kernel) dX8_leads_74
            · refine jj_iload C 0 dX8_leads_64 rfl ?_
              refine jj_if_le C (tgt := 73) dX8_leads_66 (by decide) (fun _ => ?_) (fun _ => ?_)
              · refine jj_iconst C (v := (0 : Int32)) dX8_leads_73 (by decide) ?_
                exact jj_zret C hr hlocks (by first | rfl | decide +kernel) dX8_leads_74
              · refine jj_iconst C (v := (1 : Int32)) dX8_leads_69 (by decide) ?_
                refine jj_goto C (tgt := 74) dX8_leads_70 (by decide) ?_
                exact jj_zret C hr hlocks (by first | rfl | decide +kernel) dX8_leads_74
      · refine jj_iload_n C 1 dX8_leads_39 rfl rfl ?_
        refine jj_if_gt C (tgt := 69) dX8_leads_40 (by decide) (fun _ => ?_) (fun _ => ?_)
        · refine jj_iconst C (v := (1 : Int32)) dX8_leads_69 (by decide) ?_
          refine jj_goto C (tgt := 74) dX8_leads_70 (by decide) ?_
          exact jj_zret C hr hlocks (by first | rfl | decide +kernel) dX8_leads_74
        · refine jj_iload_n C 4 dX8_leads_43 rfl rfl ?_
          refine jj_iconst C (v := (3 : Int32)) dX8_leads_44 (by decide) ?_
          refine jj_icmp_ne C (tgt := 59) dX8_leads_45 (by decide) (fun _ => ?_) (fun _ => ?_)
          · refine jj_iload_n C 4 dX8_leads_59 rfl rfl ?_
            refine jj_iconst C (v := (4 : Int32)) dX8_leads_60 (by decide) ?_
            refine jj_icmp_ne C (tgt := 73) dX8_leads_61 (by decide) (fun _ => ?_) (fun _ => ?_)
            · refine jj_iconst C (v := (0 : Int32)) dX8_leads_73 (by decide) ?_
              exact jj_zret C hr hlocks (by first | rfl | decide +kernel) dX8_leads_74
            · refine jj_iload C 0 dX8_leads_64 rfl ?_
              refine jj_if_le C (tgt := 73) dX8_leads_66 (by decide) (fun _ => ?_) (fun _ => ?_)
              · refine jj_iconst C (v := (0 : Int32)) dX8_leads_73 (by decide) ?_
                exact jj_zret C hr hlocks (by first | rfl | decide +kernel) dX8_leads_74
              · refine jj_iconst C (v := (1 : Int32)) dX8_leads_69 (by decide) ?_
                refine jj_goto C (tgt := 74) dX8_leads_70 (by decide) ?_
                exact jj_zret C hr hlocks (by first | rfl | decide +kernel) dX8_leads_74
          · refine jj_iload C 0 dX8_leads_48 rfl ?_
            refine jj_aload_n C 2 dX8_leads_50 rfl rfl ?_
            refine jj_geti C 0 1 in_Ref (rg_0 ) k_Ref (by decide) fl_Ref_99 rfl dX8_leads_51 ?_
            refine jj_iconst C (v := (1 : Int32)) dX8_leads_54 (by decide) ?_
            refine jj_isub C dX8_leads_55 ?_
            refine jj_icmp_lt C (tgt := 69) dX8_leads_56 (by decide) (fun _ => ?_) (fun _ => ?_)
            · refine jj_iconst C (v := (1 : Int32)) dX8_leads_69 (by decide) ?_
              refine jj_goto C (tgt := 74) dX8_leads_70 (by decide) ?_
              exact jj_zret C hr hlocks (by first | rfl | decide +kernel) dX8_leads_74
            · refine jj_iload_n C 4 dX8_leads_59 rfl rfl ?_
              refine jj_iconst C (v := (4 : Int32)) dX8_leads_60 (by decide) ?_
              refine jj_icmp_ne C (tgt := 73) dX8_leads_61 (by decide) (fun _ => ?_) (fun _ => ?_)
              · refine jj_iconst C (v := (0 : Int32)) dX8_leads_73 (by decide) ?_
                exact jj_zret C hr hlocks (by first | rfl | decide +kernel) dX8_leads_74
              · refine jj_iload C 0 dX8_leads_64 rfl ?_
                refine jj_if_le C (tgt := 73) dX8_leads_66 (by decide) (fun _ => ?_) (fun _ => ?_)
                · refine jj_iconst C (v := (0 : Int32)) dX8_leads_73 (by decide) ?_
                  exact jj_zret C hr hlocks (by first | rfl | decide +kernel) dX8_leads_74
                · refine jj_iconst C (v := (1 : Int32)) dX8_leads_69 (by decide) ?_
                  refine jj_goto C (tgt := 74) dX8_leads_70 (by decide) ?_
                  exact jj_zret C hr hlocks (by first | rfl | decide +kernel) dX8_leads_74
    · refine jj_iload_n C 1 dX8_leads_24 rfl rfl ?_
      refine jj_aload_n C 2 dX8_leads_25 rfl rfl ?_
      refine jj_geti C 0 0 in_Ref (rg_0 ) k_Ref (by decide) fl_Ref_95 rfl dX8_leads_26 ?_
      refine jj_iconst C (v := (1 : Int32)) dX8_leads_29 (by decide) ?_
      refine jj_isub C dX8_leads_30 ?_
      refine jj_icmp_lt C (tgt := 69) dX8_leads_31 (by decide) (fun _ => ?_) (fun _ => ?_)
      · refine jj_iconst C (v := (1 : Int32)) dX8_leads_69 (by decide) ?_
        refine jj_goto C (tgt := 74) dX8_leads_70 (by decide) ?_
        exact jj_zret C hr hlocks (by first | rfl | decide +kernel) dX8_leads_74
      · refine jj_iload_n C 4 dX8_leads_34 rfl rfl ?_
        refine jj_iconst C (v := (2 : Int32)) dX8_leads_35 (by decide) ?_
        refine jj_icmp_ne C (tgt := 43) dX8_leads_36 (by decide) (fun _ => ?_) (fun _ => ?_)
        · refine jj_iload_n C 4 dX8_leads_43 rfl rfl ?_
          refine jj_iconst C (v := (3 : Int32)) dX8_leads_44 (by decide) ?_
          refine jj_icmp_ne C (tgt := 59) dX8_leads_45 (by decide) (fun _ => ?_) (fun _ => ?_)
          · refine jj_iload_n C 4 dX8_leads_59 rfl rfl ?_
            refine jj_iconst C (v := (4 : Int32)) dX8_leads_60 (by decide) ?_
            refine jj_icmp_ne C (tgt := 73) dX8_leads_61 (by decide) (fun _ => ?_) (fun _ => ?_)
            · refine jj_iconst C (v := (0 : Int32)) dX8_leads_73 (by decide) ?_
              exact jj_zret C hr hlocks (by first | rfl | decide +kernel) dX8_leads_74
            · refine jj_iload C 0 dX8_leads_64 rfl ?_
              refine jj_if_le C (tgt := 73) dX8_leads_66 (by decide) (fun _ => ?_) (fun _ => ?_)
              · refine jj_iconst C (v := (0 : Int32)) dX8_leads_73 (by decide) ?_
                exact jj_zret C hr hlocks (by first | rfl | decide +kernel) dX8_leads_74
              · refine jj_iconst C (v := (1 : Int32)) dX8_leads_69 (by decide) ?_
                refine jj_goto C (tgt := 74) dX8_leads_70 (by decide) ?_
                exact jj_zret C hr hlocks (by first | rfl | decide +kernel) dX8_leads_74
          · refine jj_iload C 0 dX8_leads_48 rfl ?_
            refine jj_aload_n C 2 dX8_leads_50 rfl rfl ?_
            refine jj_geti C 0 1 in_Ref (rg_0 ) k_Ref (by decide) fl_Ref_99 rfl dX8_leads_51 ?_
            refine jj_iconst C (v := (1 : Int32)) dX8_leads_54 (by decide) ?_
            refine jj_isub C dX8_leads_55 ?_
            refine jj_icmp_lt C (tgt := 69) dX8_leads_56 (by decide) (fun _ => ?_) (fun _ => ?_)
            · refine jj_iconst C (v := (1 : Int32)) dX8_leads_69 (by decide) ?_
              refine jj_goto C (tgt := 74) dX8_leads_70 (by decide) ?_
              exact jj_zret C hr hlocks (by first | rfl | decide +kernel) dX8_leads_74
            · refine jj_iload_n C 4 dX8_leads_59 rfl rfl ?_
              refine jj_iconst C (v := (4 : Int32)) dX8_leads_60 (by decide) ?_
              refine jj_icmp_ne C (tgt := 73) dX8_leads_61 (by decide) (fun _ => ?_) (fun _ => ?_)
              · refine jj_iconst C (v := (0 : Int32)) dX8_leads_73 (by decide) ?_
                exact jj_zret C hr hlocks (by first | rfl | decide +kernel) dX8_leads_74
              · refine jj_iload C 0 dX8_leads_64 rfl ?_
                refine jj_if_le C (tgt := 73) dX8_leads_66 (by decide) (fun _ => ?_) (fun _ => ?_)
                · refine jj_iconst C (v := (0 : Int32)) dX8_leads_73 (by decide) ?_
                  exact jj_zret C hr hlocks (by first | rfl | decide +kernel) dX8_leads_74
                · refine jj_iconst C (v := (1 : Int32)) dX8_leads_69 (by decide) ?_
                  refine jj_goto C (tgt := 74) dX8_leads_70 (by decide) ?_
                  exact jj_zret C hr hlocks (by first | rfl | decide +kernel) dX8_leads_74
        · refine jj_iload_n C 1 dX8_leads_39 rfl rfl ?_
          refine jj_if_gt C (tgt := 69) dX8_leads_40 (by decide) (fun _ => ?_) (fun _ => ?_)
          · refine jj_iconst C (v := (1 : Int32)) dX8_leads_69 (by decide) ?_
            refine jj_goto C (tgt := 74) dX8_leads_70 (by decide) ?_
            exact jj_zret C hr hlocks (by first | rfl | decide +kernel) dX8_leads_74
          · refine jj_iload_n C 4 dX8_leads_43 rfl rfl ?_
            refine jj_iconst C (v := (3 : Int32)) dX8_leads_44 (by decide) ?_
            refine jj_icmp_ne C (tgt := 59) dX8_leads_45 (by decide) (fun _ => ?_) (fun _ => ?_)
            · refine jj_iload_n C 4 dX8_leads_59 rfl rfl ?_
              refine jj_iconst C (v := (4 : Int32)) dX8_leads_60 (by decide) ?_
              refine jj_icmp_ne C (tgt := 73) dX8_leads_61 (by decide) (fun _ => ?_) (fun _ => ?_)
              · refine jj_iconst C (v := (0 : Int32)) dX8_leads_73 (by decide) ?_
                exact jj_zret C hr hlocks (by first | rfl | decide +kernel) dX8_leads_74
              · refine jj_iload C 0 dX8_leads_64 rfl ?_
                refine jj_if_le C (tgt := 73) dX8_leads_66 (by decide) (fun _ => ?_) (fun _ => ?_)
                · refine jj_iconst C (v := (0 : Int32)) dX8_leads_73 (by decide) ?_
                  exact jj_zret C hr hlocks (by first | rfl | decide +kernel) dX8_leads_74
                · refine jj_iconst C (v := (1 : Int32)) dX8_leads_69 (by decide) ?_
                  refine jj_goto C (tgt := 74) dX8_leads_70 (by decide) ?_
                  exact jj_zret C hr hlocks (by first | rfl | decide +kernel) dX8_leads_74
            · refine jj_iload C 0 dX8_leads_48 rfl ?_
              refine jj_aload_n C 2 dX8_leads_50 rfl rfl ?_
              refine jj_geti C 0 1 in_Ref (rg_0 ) k_Ref (by decide) fl_Ref_99 rfl dX8_leads_51 ?_
              refine jj_iconst C (v := (1 : Int32)) dX8_leads_54 (by decide) ?_
              refine jj_isub C dX8_leads_55 ?_
              refine jj_icmp_lt C (tgt := 69) dX8_leads_56 (by decide) (fun _ => ?_) (fun _ => ?_)
              · refine jj_iconst C (v := (1 : Int32)) dX8_leads_69 (by decide) ?_
                refine jj_goto C (tgt := 74) dX8_leads_70 (by decide) ?_
                exact jj_zret C hr hlocks (by first | rfl | decide +kernel) dX8_leads_74
              · refine jj_iload_n C 4 dX8_leads_59 rfl rfl ?_
                refine jj_iconst C (v := (4 : Int32)) dX8_leads_60 (by decide) ?_
                refine jj_icmp_ne C (tgt := 73) dX8_leads_61 (by decide) (fun _ => ?_) (fun _ => ?_)
                · refine jj_iconst C (v := (0 : Int32)) dX8_leads_73 (by decide) ?_
                  exact jj_zret C hr hlocks (by first | rfl | decide +kernel) dX8_leads_74
                · refine jj_iload C 0 dX8_leads_64 rfl ?_
                  refine jj_if_le C (tgt := 73) dX8_leads_66 (by decide) (fun _ => ?_) (fun _ => ?_)
                  · refine jj_iconst C (v := (0 : Int32)) dX8_leads_73 (by decide) ?_
                    exact jj_zret C hr hlocks (by first | rfl | decide +kernel) dX8_leads_74
                  · refine jj_iconst C (v := (1 : Int32)) dX8_leads_69 (by decide) ?_
                    refine jj_goto C (tgt := 74) dX8_leads_70 (by decide) ?_
                    exact jj_zret C hr hlocks (by first | rfl | decide +kernel) dX8_leads_74

set_option maxHeartbeats 4000000 in
set_option maxRecDepth 100000 in
theorem c_rRef_output {l : Launch} {D : va_G} {ad : Nat → Nat} {cA : FieldType → ClassId} { F : Nat} {σ : jj_S} {a1 a2 a3 : Int32} {z : (Int32 × jj_S)} (ho : f_rRef_output  F σ a1 a2 a3 = some z) : jj_Mi l yX8_output (Cond.code yX8_output cX8_output 5 (some .int) :: jw_t) { frames := 2, cells := 0, slots := 0, locals := 80 } D vwCl ad cA (gm) [.ref (ad 0), .int a1, .int a2, .int a3] σ z := by
  refine jj_ofi (cc := cX8_output) (nL := 5) (ret := (some .int)) rfl ho (Nat.le_of_ble_eq_true rfl) ?_
  intro p e s m below meth c C hr hlocks
  generalize hA : va_A (jj_w ad cA (gm) σ) s.heap.size = A at C ⊢
  have hRm : 2 ≤ (headSpec (Cond.code yX8_output cX8_output 5 (some .int) :: jw_t) { frames := 2, cells := 0, slots := 0, locals := 80 }).room.frames ∧ 80 ≤ (headSpec (Cond.code yX8_output cX8_output 5 (some .int) :: jw_t) { frames := 2, cells := 0, slots := 0, locals := 80 }).room.locals := ⟨Nat.le_refl _, Nat.le_refl _⟩
  generalize (headSpec (Cond.code yX8_output cX8_output 5 (some .int) :: jw_t) { frames := 2, cells := 0, slots := 0, locals := 80 }).room = R at C hRm ⊢
  generalize List.toArray ([.ref (ad 0), .int a1, .int a2, .int a3] : List Value) = args at C ⊢
  refine jj_sub (lv' := [(0, .ref (ad 0)), (1, .int a1), (2, .int a2), (3, .int a3)]) [0, 1, 2, 3] rfl ?_
  unfold f_rRef_output
  refine jj_aload_n C 0 dX8_output_0 rfl rfl ?_
  refine jj_iload_n C 1 dX8_output_1 rfl rfl ?_
  refine jj_iload_n C 2 dX8_output_2 rfl rfl ?_
  refine jj_iload_n C 3 dX8_output_3 rfl rfl ?_
  refine jj_callVi C (As := [.int a1, .int a2, .int a3]) (rest := []) (fun z hz => c_rRef_isPlace hz) (q_Ref_185 C.2.2.2.2.1 (rm := { frames := 1, cells := 0, slots := 0, locals := 40 }) rfl rfl ⟨Nat.le_trans (by decide) hRm.1, Nat.le_trans (by decide) hRm.2⟩) (rg_0 ) k_Ref rfl rfl (Nat.le_of_ble_eq_true rfl) dX8_output_4 (fun r2 σ1 _ => ?_)
  refine jj_if_ne C (tgt := 12) dX8_output_7 (by decide) (fun _ => ?_) (fun _ => ?_)
  · refine jj_aload_n C 0 dX8_output_12 rfl rfl ?_
    refine jj_iload_n C 1 dX8_output_13 rfl rfl ?_
    refine jj_iload_n C 2 dX8_output_14 rfl rfl ?_
    refine jj_callVi C (As := [.int a1, .int a2]) (rest := []) (fun z hz => c_rRef_leads hz) (q_Ref_188 C.2.2.2.2.1 (rm := { frames := 0, cells := 0, slots := 0, locals := 0 }) rfl rfl ⟨Nat.le_trans (by decide) hRm.1, Nat.le_trans (by decide) hRm.2⟩) (rg_0 ) k_Ref rfl rfl (Nat.le_of_ble_eq_true rfl) dX8_output_15 (fun r4 σ3 _ => ?_)
    refine jj_if_eq C (tgt := 36) dX8_output_18 (by decide) (fun _ => ?_) (fun _ => ?_)
    · refine jj_aload_n C 0 dX8_output_36 rfl rfl ?_
      refine jj_geti C 0 2 in_Ref (rg_0 ) k_Ref (by decide) fl_Ref_102 rfl dX8_output_37 ?_
      refine jj_ltn (fun v4_5 => ?_)
      refine jj_istore C [(4, .int v4_5), (0, .ref (ad 0)), (1, .int a1), (2, .int a2), (3, .int a3)] dX8_output_40 (by decide) rfl ?_
      refine jj_iload C 0 dX8_output_42 rfl ?_
      refine jj_aload_n C 1 dX8_output_44 rfl rfl ?_
      refine jj_getr C 0 32 in_Ref (rg_0 ) k_Ref (by decide) fl_Ref_80 rfl dX8_output_45 ?_
      refine jj_iconst C (v := (4 : Int32)) dX8_output_48 (by decide) ?_
      refine jj_iconst C (v := (5 : Int32)) dX8_output_49 (by decide) ?_
      refine jj_iload_n C 2 dX8_output_50 rfl rfl ?_
      refine jj_imul C dX8_output_51 ?_
      refine jj_iload_n C 3 dX8_output_52 rfl rfl ?_
      refine jj_iadd C dX8_output_53 ?_
      refine jj_imul C dX8_output_54 ?_
      refine jj_iload_n C 4 dX8_output_55 rfl rfl ?_
      refine jj_iadd C dX8_output_56 ?_
      refine jj_zald C 24 (rg_24 ) dX8_output_57 ?_
      refine jj_if_eq C (tgt := 66) dX8_output_58 (by decide) (fun _ => ?_) (fun _ => ?_)
      · refine jj_iconst C (v := (0 : Int32)) dX8_output_66 (by decide) ?_
        refine jj_iadd C dX8_output_67 ?_
        exact jj_iret C hr hlocks dX8_output_68
      · refine jj_bipush C (v := (8 : Int32)) dX8_output_61 (by decide) ?_
        refine jj_goto C (tgt := 67) dX8_output_63 (by decide) ?_
        refine jj_iadd C dX8_output_67 ?_
        exact jj_iret C hr hlocks dX8_output_68
    · refine jj_aload_n C 0 dX8_output_21 rfl rfl ?_
      refine jj_getr C 0 28 in_Ref (rg_0 ) k_Ref (by decide) fl_Ref_68 rfl dX8_output_22 ?_
      refine jj_aload_n C 0 dX8_output_25 rfl rfl ?_
      refine jj_iload_n C 1 dX8_output_26 rfl rfl ?_
      refine jj_iload_n C 2 dX8_output_27 rfl rfl ?_
      refine jj_iload_n C 3 dX8_output_28 rfl rfl ?_
      refine jj_callVi C (As := [.int a1, .int a2, .int a3]) (rest := [.ref (ad 20)]) (fun z hz => c_rRef_beyond hz) (q_Ref_144 C.2.2.2.2.1 (rm := { frames := 0, cells := 0, slots := 0, locals := 0 }) rfl rfl ⟨Nat.le_trans (by decide) hRm.1, Nat.le_trans (by decide) hRm.2⟩) (rg_0 ) k_Ref rfl rfl (Nat.le_of_ble_eq_true rfl) dX8_output_29 (fun r7 σ6 _ => ?_)
      refine jj_iald C 20 (rg_20 ) dX8_output_32 ?_
      refine jj_goto C (tgt := 40) dX8_output_33 (by decide) ?_
      refine jj_ltn (fun v4_8 => ?_)
      refine jj_istore C [(4, .int v4_8), (0, .ref (ad 0)), (1, .int a1), (2, .int a2), (3, .int a3)] dX8_output_40 (by decide) rfl ?_
      refine jj_iload C 0 dX8_output_42 rfl ?_
      refine jj_aload_n C 1 dX8_output_44 rfl rfl ?_
      refine jj_getr C 0 32 in_Ref (rg_0 ) k_Ref (by decide) fl_Ref_80 rfl dX8_output_45 ?_
      refine jj_iconst C (v := (4 : Int32)) dX8_output_48 (by decide) ?_
      refine jj_iconst C (v := (5 : Int32)) dX8_output_49 (by decide) ?_
      refine jj_iload_n C 2 dX8_output_50 rfl rfl ?_
      refine jj_imul C dX8_output_51 ?_
      refine jj_iload_n C 3 dX8_output_52 rfl rfl ?_
      refine jj_iadd C dX8_output_53 ?_
      refine jj_imul C dX8_output_54 ?_
      refine jj_iload_n C 4 dX8_output_55 rfl rfl ?_
      refine jj_iadd C dX8_output_56 ?_
      refine jj_zald C 24 (rg_24 ) dX8_output_57 ?_
      refine jj_if_eq C (tgt := 66) dX8_output_58 (by decide) (fun _ => ?_) (fun _ => ?_)
      · refine jj_iconst C (v := (0 : Int32)) dX8_output_66 (by decide) ?_
        refine jj_iadd C dX8_output_67 ?_
        exact jj_iret C hr hlocks dX8_output_68
      · refine jj_bipush C (v := (8 : Int32)) dX8_output_61 (by decide) ?_
        refine jj_goto C (tgt := 67) dX8_output_63 (by decide) ?_
        refine jj_iadd C dX8_output_67 ?_
        exact jj_iret C hr hlocks dX8_output_68
  · refine jj_iconst C (v := (-1 : Int32)) dX8_output_10 (by decide) ?_
    exact jj_iret C hr hlocks dX8_output_11

set_option maxHeartbeats 4000000 in
set_option maxRecDepth 100000 in
theorem c_rRef_arrival {l : Launch} {D : va_G} {ad : Nat → Nat} {cA : FieldType → ClassId} { F : Nat} {σ : jj_S} {a1 a2 : Int32} {z : (Int32 × jj_S)} (ho : f_rRef_arrival  F σ a1 a2 = some z) : jj_Mi l yX8_arrival (Cond.code yX8_arrival cX8_arrival 3 (some .int) :: jw_t) { frames := 2, cells := 0, slots := 0, locals := 80 } D vwCl ad cA (gm) [.ref (ad 0), .int a1, .int a2] σ z := by
  refine jj_ofi (cc := cX8_arrival) (nL := 3) (ret := (some .int)) rfl ho (Nat.le_of_ble_eq_true rfl) ?_
  intro p e s m below meth c C hr hlocks
  generalize hA : va_A (jj_w ad cA (gm) σ) s.heap.size = A at C ⊢
  have hRm : 2 ≤ (headSpec (Cond.code yX8_arrival cX8_arrival 3 (some .int) :: jw_t) { frames := 2, cells := 0, slots := 0, locals := 80 }).room.frames ∧ 80 ≤ (headSpec (Cond.code yX8_arrival cX8_arrival 3 (some .int) :: jw_t) { frames := 2, cells := 0, slots := 0, locals := 80 }).room.locals := ⟨Nat.le_refl _, Nat.le_refl _⟩
  generalize (headSpec (Cond.code yX8_arrival cX8_arrival 3 (some .int) :: jw_t) { frames := 2, cells := 0, slots := 0, locals := 80 }).room = R at C hRm ⊢
  generalize List.toArray ([.ref (ad 0), .int a1, .int a2] : List Value) = args at C ⊢
  refine jj_sub (lv' := [(0, .ref (ad 0)), (1, .int a1), (2, .int a2)]) [0, 1, 2] rfl ?_
  unfold f_rRef_arrival
  refine jj_aload_n C 0 dX8_arrival_0 rfl rfl ?_
  refine jj_iload_n C 1 dX8_arrival_1 rfl rfl ?_
  refine jj_iconst C (v := (0 : Int32)) dX8_arrival_2 (by decide) ?_
  refine jj_iload_n C 2 dX8_arrival_3 rfl rfl ?_
  refine jj_callVi C (As := [.int a1, .int (0 : Int32), .int a2]) (rest := []) (fun z hz => c_rRef_isPlace hz) (q_Ref_185 C.2.2.2.2.1 (rm := { frames := 1, cells := 0, slots := 0, locals := 40 }) rfl rfl ⟨Nat.le_trans (by decide) hRm.1, Nat.le_trans (by decide) hRm.2⟩) (rg_0 ) k_Ref rfl rfl (Nat.le_of_ble_eq_true rfl) dX8_arrival_4 (fun r2 σ1 _ => ?_)
  refine jj_if_ne C (tgt := 12) dX8_arrival_7 (by decide) (fun _ => ?_) (fun _ => ?_)
  · refine jj_aload_n C 0 dX8_arrival_12 rfl rfl ?_
    refine jj_getr C 0 25 in_Ref (rg_0 ) k_Ref (by decide) fl_Ref_59 rfl dX8_arrival_13 ?_
    refine jj_sipush C (v := (180 : Int32)) dX8_arrival_16 (by decide) ?_
    refine jj_iconst C (v := (4 : Int32)) dX8_arrival_19 (by decide) ?_
    refine jj_iload_n C 1 dX8_arrival_20 rfl rfl ?_
    refine jj_imul C dX8_arrival_21 ?_
    refine jj_iadd C dX8_arrival_22 ?_
    refine jj_iload_n C 2 dX8_arrival_23 rfl rfl ?_
    refine jj_iadd C dX8_arrival_24 ?_
    refine jj_iald C 17 (rg_17 ) dX8_arrival_25 ?_
    refine jj_bipush C (v := (8 : Int32)) dX8_arrival_26 (by decide) ?_
    refine jj_aload_n C 0 dX8_arrival_28 rfl rfl ?_
    refine jj_getr C 0 28 in_Ref (rg_0 ) k_Ref (by decide) fl_Ref_68 rfl dX8_arrival_29 ?_
    refine jj_bipush C (v := (20 : Int32)) dX8_arrival_32 (by decide) ?_
    refine jj_iload_n C 1 dX8_arrival_34 rfl rfl ?_
    refine jj_imul C dX8_arrival_35 ?_
    refine jj_iload_n C 2 dX8_arrival_36 rfl rfl ?_
    refine jj_iadd C dX8_arrival_37 ?_
    refine jj_iald C 20 (rg_20 ) dX8_arrival_38 ?_
    refine jj_imul C dX8_arrival_39 ?_
    refine jj_iadd C dX8_arrival_40 ?_
    exact jj_iret C hr hlocks dX8_arrival_41
  · refine jj_iconst C (v := (-1 : Int32)) dX8_arrival_10 (by decide) ?_
    exact jj_iret C hr hlocks dX8_arrival_11

set_option maxHeartbeats 4000000 in
set_option maxRecDepth 100000 in
theorem c_rRef_sent {l : Launch} {D : va_G} {ad : Nat → Nat} {cA : FieldType → ClassId} { F : Nat} {σ : jj_S} {z : (Int32 × jj_S)} (ho : f_rRef_sent  F σ = some z) : jj_Mi l yX8_sent (Cond.code yX8_sent cX8_sent 1 (some .int) :: jw_t) { frames := 0, cells := 0, slots := 0, locals := 0 } D vwCl ad cA (gm) [.ref (ad 0)] σ z := by
  refine jj_ofi (cc := cX8_sent) (nL := 1) (ret := (some .int)) rfl ho (Nat.le_of_ble_eq_true rfl) ?_
  intro p e s m below meth c C hr hlocks
  generalize hA : va_A (jj_w ad cA (gm) σ) s.heap.size = A at C ⊢
  have hRm : 0 ≤ (headSpec (Cond.code yX8_sent cX8_sent 1 (some .int) :: jw_t) { frames := 0, cells := 0, slots := 0, locals := 0 }).room.frames ∧ 0 ≤ (headSpec (Cond.code yX8_sent cX8_sent 1 (some .int) :: jw_t) { frames := 0, cells := 0, slots := 0, locals := 0 }).room.locals := ⟨Nat.le_refl _, Nat.le_refl _⟩
  generalize (headSpec (Cond.code yX8_sent cX8_sent 1 (some .int) :: jw_t) { frames := 0, cells := 0, slots := 0, locals := 0 }).room = R at C hRm ⊢
  generalize List.toArray ([.ref (ad 0)] : List Value) = args at C ⊢
  refine jj_sub (lv' := [(0, .ref (ad 0))]) [0] rfl ?_
  unfold f_rRef_sent
  refine jj_aload_n C 0 dX8_sent_0 rfl rfl ?_
  refine jj_geti C 0 16 in_Ref (rg_0 ) k_Ref (by decide) fl_Ref_122 rfl dX8_sent_1 ?_
  exact jj_iret C hr hlocks dX8_sent_4
