set_option maxRecDepth 100000 in
theorem ml_min : Cond.methodLink RX1 37 Lib.Math.min.name ∈ jw_t := jj_in (List.mem_of_getElem? (i := 61) rfl) rfl
set_option maxRecDepth 100000 in
theorem ms_min : Cond.static Lib.Math.min.name ∈ jw_t := jj_in (List.mem_of_getElem? (i := 62) rfl) rfl
set_option maxRecDepth 100000 in
theorem mc_min : Cond.code Lib.Math.min.name Lib.Math.min.code 2 (some .int) ∈ jw_t := jj_in (List.mem_of_getElem? (i := 63) rfl) rfl
set_option maxRecDepth 100000 in
theorem ml_max : Cond.methodLink RX1 42 Lib.Math.max.name ∈ jw_t := jj_in (List.mem_of_getElem? (i := 64) rfl) rfl
set_option maxRecDepth 100000 in
theorem ms_max : Cond.static Lib.Math.max.name ∈ jw_t := jj_in (List.mem_of_getElem? (i := 65) rfl) rfl
set_option maxRecDepth 100000 in
theorem mc_max : Cond.code Lib.Math.max.name Lib.Math.max.code 2 (some .int) ∈ jw_t := jj_in (List.mem_of_getElem? (i := 66) rfl) rfl
set_option maxRecDepth 100000 in
theorem iz_Math : Cond.initialized "java/lang/Math" ∈ jw_t := jj_in (List.mem_of_getElem? (i := 36) rfl) rfl
theorem jj_gC {big ys : List Cond} {c : Cond} (hg : GoodIn big ys) (h5 : c ∈ big) (h6 : (c.onTables && c.keeps) = true := by rfl) : GoodIn big (c :: ys) := by
  intro w hw
  rcases List.mem_cons.mp hw with rfl | hw
  · exact ⟨h5, Or.inl h6⟩
  · exact hg w hw
def jj_nx : Cond := .methodLinkNest RX2 11 yX0_init "WormMesh"
def jj_E (U : State) : Prop := va_Nw jj_nx U
theorem jj_Ec : ∀ (a : Array Value) (U : State) (g : JFrame) (mk : MethodId), jj_E U → jj_E (U.calling g mk a) := fun _ _ _ _ h => va_Nw.same rfl rfl h
theorem jj_Ew {s : State} (h : jj_E s) : ∀ U : State, s.WarmedH U.vm → jj_E U := fun _ hW => va_Nw.warmM hW h
set_option maxRecDepth 100000 in
theorem fl_Grid_19 : Cond.fieldLink RX1 19 (TX1 1).1 (TX1 1).2.1 (TX1 1).2.2.1 ∈ jw_t := jj_in (List.mem_of_getElem? (i := 68) rfl) rfl
set_option maxRecDepth 100000 in
theorem fl_Grid_22 : Cond.fieldLink RX1 22 (TX1 2).1 (TX1 2).2.1 (TX1 2).2.2.1 ∈ jw_t := jj_in (List.mem_of_getElem? (i := 70) rfl) rfl
set_option maxRecDepth 100000 in
theorem fl_Grid_25 : Cond.fieldLink RX1 25 (TX1 3).1 (TX1 3).2.1 (TX1 3).2.2.1 ∈ jw_t := jj_in (List.mem_of_getElem? (i := 71) rfl) rfl
set_option maxRecDepth 100000 in
theorem fl_Grid_34 : Cond.fieldLink RX1 34 (TX1 6).1 (TX1 6).2.1 (TX1 6).2.2.1 ∈ jw_t := jj_in (List.mem_of_getElem? (i := 84) rfl) rfl
set_option maxRecDepth 100000 in
theorem fl_Links_9 : Cond.fieldLink RX3 9 (TX1 2).1 (TX1 2).2.1 (TX1 2).2.2.1 ∈ jw_t := jj_in (List.mem_of_getElem? (i := 69) rfl) rfl
set_option maxRecDepth 100000 in
theorem fl_Links_18 : Cond.fieldLink RX3 18 (TX1 6).1 (TX1 6).2.1 (TX1 6).2.2.1 ∈ jw_t := jj_in (List.mem_of_getElem? (i := 82) rfl) rfl
set_option maxRecDepth 100000 in
theorem fl_Links_43 : Cond.fieldLink RX3 43 (TX1 5).1 (TX1 5).2.1 (TX1 5).2.2.1 ∈ jw_t := jj_in (List.mem_of_getElem? (i := 80) rfl) rfl
set_option maxRecDepth 100000 in
theorem fl_Links_46 : Cond.fieldLink RX3 46 (TX1 4).1 (TX1 4).2.1 (TX1 4).2.2.1 ∈ jw_t := jj_in (List.mem_of_getElem? (i := 74) rfl) rfl
set_option maxRecDepth 100000 in
theorem fl_Queues_7 : Cond.fieldLink RX5 7 (TX5 0).1 (TX5 0).2.1 (TX5 0).2.2.1 ∈ jw_t := jj_in (List.mem_of_getElem? (i := 230) rfl) rfl
set_option maxRecDepth 100000 in
theorem fl_Routers_27 : Cond.fieldLink RX6 27 (TX1 6).1 (TX1 6).2.1 (TX1 6).2.2.1 ∈ jw_t := jj_in (List.mem_of_getElem? (i := 83) rfl) rfl
set_option maxRecDepth 100000 in
theorem q_Grid_9 {R : Room} {s : State} {args : Array Value} (hts : ∀ w ∈ jw_t, w.before args s = true) {rm : Room} (h1 : rm.cells = 0) (h2 : rm.slots = 0) (hR : rm.frames + 1 ≤ R.frames ∧ 8 + (2 + 11) + rm.locals ≤ R.locals) : CallB R s args RX1 9 yX1_within cX1_within 2 (some .int) (Cond.code yX1_within cX1_within 2 (some .int) :: jw_t) rm 0 0 2 ∧ (Cond.static yX1_within).before args s = true := va_cwS 2 hts (jj_gS jj_gT (jj_in (List.mem_of_getElem? (i := 58) rfl) rfl) (jj_in (List.mem_of_getElem? (i := 59) rfl) rfl) (jj_in (List.mem_of_getElem? (i := 35) rfl) rfl) (jj_in (List.mem_of_getElem? (i := 60) rfl) rfl)) rfl h1 h2 (by decide +kernel) hR
set_option maxRecDepth 100000 in
theorem q_Grid_45 {R : Room} {s : State} {args : Array Value} (hts : ∀ w ∈ jw_t, w.before args s = true) {rm : Room} (h1 : rm.cells = 0) (h2 : rm.slots = 0) (hR : rm.frames + 1 ≤ R.frames ∧ 8 + (3 + 11) + rm.locals ≤ R.locals) : CallW R s args RX1 yX1_neighbour.cls 45 yX1_neighbour cX1_neighbour 3 (some .int) (Cond.code yX1_neighbour cX1_neighbour 3 (some .int) :: jw_t) rm 0 0 2 := cwV 2 hts (jj_gV jj_gT (jj_in (List.mem_of_getElem? (i := 114) rfl) rfl) (jj_in (List.mem_of_getElem? (i := 116) rfl) rfl) (jj_in (List.mem_of_getElem? (i := 0) rfl) rfl) (jj_in (List.mem_of_getElem? (i := 35) rfl) rfl) (jj_in (List.mem_of_getElem? (i := 117) rfl) rfl)) rfl h1 h2 (by decide +kernel) hR
set_option maxRecDepth 100000 in
theorem q_Grid_48 {R : Room} {s : State} {args : Array Value} (hts : ∀ w ∈ jw_t, w.before args s = true) {rm : Room} (h1 : rm.cells = 0) (h2 : rm.slots = 0) (hR : rm.frames + 1 ≤ R.frames ∧ 8 + (4 + 11) + rm.locals ≤ R.locals) : CallW R s args RX1 yX1_slot.cls 48 yX1_slot cX1_slot 4 (some .int) (Cond.code yX1_slot cX1_slot 4 (some .int) :: jw_t) rm 0 0 3 := cwV 3 hts (jj_gV jj_gT (jj_in (List.mem_of_getElem? (i := 126) rfl) rfl) (jj_in (List.mem_of_getElem? (i := 107) rfl) rfl) (jj_in (List.mem_of_getElem? (i := 108) rfl) rfl) (jj_in (List.mem_of_getElem? (i := 35) rfl) rfl) (jj_in (List.mem_of_getElem? (i := 109) rfl) rfl)) rfl h1 h2 (by decide +kernel) hR
set_option maxRecDepth 100000 in
theorem q_Grid_52 {R : Room} {s : State} {args : Array Value} (hts : ∀ w ∈ jw_t, w.before args s = true) {rm : Room} (h1 : rm.cells = 0) (h2 : rm.slots = 0) (hR : rm.frames + 1 ≤ R.frames ∧ 8 + (1 + 11) + rm.locals ≤ R.locals) : CallB R s args RX1 52 yX1_opposite cX1_opposite 1 (some .int) (Cond.code yX1_opposite cX1_opposite 1 (some .int) :: jw_t) rm 0 0 1 ∧ (Cond.static yX1_opposite).before args s = true := va_cwS 1 hts (jj_gS jj_gT (jj_in (List.mem_of_getElem? (i := 127) rfl) rfl) (jj_in (List.mem_of_getElem? (i := 128) rfl) rfl) (jj_in (List.mem_of_getElem? (i := 35) rfl) rfl) (jj_in (List.mem_of_getElem? (i := 129) rfl) rfl)) rfl h1 h2 (by decide +kernel) hR
set_option maxRecDepth 100000 in
theorem q_Grid_56 {R : Room} {s : State} {args : Array Value} (hts : ∀ w ∈ jw_t, w.before args s = true) {rm : Room} (h1 : rm.cells = 0) (h2 : rm.slots = 0) (hR : rm.frames + 1 ≤ R.frames ∧ 8 + (2 + 11) + rm.locals ≤ R.locals) : CallW R s args RX1 yX1_column.cls 56 yX1_column cX1_column 2 (some .int) (Cond.code yX1_column cX1_column 2 (some .int) :: jw_t) rm 0 0 1 := cwV 1 hts (jj_gV jj_gT (jj_in (List.mem_of_getElem? (i := 118) rfl) rfl) (jj_in (List.mem_of_getElem? (i := 119) rfl) rfl) (jj_in (List.mem_of_getElem? (i := 120) rfl) rfl) (jj_in (List.mem_of_getElem? (i := 35) rfl) rfl) (jj_in (List.mem_of_getElem? (i := 121) rfl) rfl)) rfl h1 h2 (by decide +kernel) hR
set_option maxRecDepth 100000 in
theorem q_Grid_59 {R : Room} {s : State} {args : Array Value} (hts : ∀ w ∈ jw_t, w.before args s = true) {rm : Room} (h1 : rm.cells = 0) (h2 : rm.slots = 0) (hR : rm.frames + 1 ≤ R.frames ∧ 8 + (2 + 11) + rm.locals ≤ R.locals) : CallW R s args RX1 yX1_row.cls 59 yX1_row cX1_row 2 (some .int) (Cond.code yX1_row cX1_row 2 (some .int) :: jw_t) rm 0 0 1 := cwV 1 hts (jj_gV jj_gT (jj_in (List.mem_of_getElem? (i := 122) rfl) rfl) (jj_in (List.mem_of_getElem? (i := 123) rfl) rfl) (jj_in (List.mem_of_getElem? (i := 124) rfl) rfl) (jj_in (List.mem_of_getElem? (i := 35) rfl) rfl) (jj_in (List.mem_of_getElem? (i := 125) rfl) rfl)) rfl h1 h2 (by decide +kernel) hR
set_option maxRecDepth 100000 in
theorem q_Links_49 {R : Room} {s : State} {args : Array Value} (hts : ∀ w ∈ jw_t, w.before args s = true) {rm : Room} (h1 : rm.cells = 0) (h2 : rm.slots = 0) (hR : rm.frames + 1 ≤ R.frames ∧ 8 + (4 + 11) + rm.locals ≤ R.locals) : CallW R s args RX3 yX1_slot.cls 49 yX1_slot cX1_slot 4 (some .int) (Cond.code yX1_slot cX1_slot 4 (some .int) :: jw_t) rm 0 0 3 := cwV 3 hts (jj_gV jj_gT (jj_in (List.mem_of_getElem? (i := 106) rfl) rfl) (jj_in (List.mem_of_getElem? (i := 107) rfl) rfl) (jj_in (List.mem_of_getElem? (i := 108) rfl) rfl) (jj_in (List.mem_of_getElem? (i := 35) rfl) rfl) (jj_in (List.mem_of_getElem? (i := 109) rfl) rfl)) rfl h1 h2 (by decide +kernel) hR
set_option maxRecDepth 100000 in
theorem q_Links_53 {R : Room} {s : State} {args : Array Value} (hts : ∀ w ∈ jw_t, w.before args s = true) {rm : Room} (h1 : rm.cells = 0) (h2 : rm.slots = 0) (hR : rm.frames + 1 ≤ R.frames ∧ 8 + (5 + 11) + rm.locals ≤ R.locals) : CallW R s args RX3 yX1_farSlot.cls 53 yX1_farSlot cX1_farSlot 5 (some .int) (Cond.code yX1_farSlot cX1_farSlot 5 (some .int) :: jw_t) rm 0 0 3 := cwV 3 hts (jj_gV jj_gT (jj_in (List.mem_of_getElem? (i := 110) rfl) rfl) (jj_in (List.mem_of_getElem? (i := 111) rfl) rfl) (jj_in (List.mem_of_getElem? (i := 112) rfl) rfl) (jj_in (List.mem_of_getElem? (i := 35) rfl) rfl) (jj_in (List.mem_of_getElem? (i := 113) rfl) rfl)) rfl h1 h2 (by decide +kernel) hR
set_option maxRecDepth 100000 in
theorem ol_Mesh : Cond.methodLink RX7 1 Lib.objectInit ∈ jw_t := jj_in (List.mem_of_getElem? (i := 49) rfl) rfl
set_option maxRecDepth 100000 in
theorem oi_i : Cond.instanceMethod Lib.objectInit ∈ jw_t := jj_in (List.mem_of_getElem? (i := 50) rfl) rfl
set_option maxRecDepth 100000 in
theorem oi_c : Cond.code Lib.objectInit ⟨#[0xb1]⟩ 1 none ∈ jw_t := jj_in (List.mem_of_getElem? (i := 51) rfl) rfl
set_option maxRecDepth 100000 in
theorem cl_Mesh_7 : Cond.classLink RX7 7 RX1 ∈ jw_t := jj_in (List.mem_of_getElem? (i := 52) rfl) rfl
set_option maxRecDepth 100000 in
theorem it_Grid : Cond.instantiable RX1 7 ∈ jw_t := jj_in (List.mem_of_getElem? (i := 53) rfl) rfl
set_option maxRecDepth 100000 in
theorem iz_Grid : Cond.initialized RX1 ∈ jw_t := jj_in (List.mem_of_getElem? (i := 35) rfl) rfl
set_option maxRecDepth 100000 in
theorem ol_Grid : Cond.methodLink RX1 3 Lib.objectInit ∈ jw_t := jj_in (List.mem_of_getElem? (i := 57) rfl) rfl
set_option maxRecDepth 100000 in
theorem qi_Mesh_9 {R : Room} {s : State} {args : Array Value} (hts : ∀ w ∈ jw_t, w.before args s = true) {rm : Room} {mc ms : Nat} (h1 : rm.cells = mc) (h2 : rm.slots = ms) (hR : rm.frames + 1 ≤ R.frames ∧ 8 + (5 + 11) + rm.locals ≤ R.locals) : CallB R s args RX7 9 yX1_init cX1_init 5 none (Cond.code yX1_init cX1_init 5 none :: jw_t) rm mc ms 4 ∧ yX1_init.name = "<init>" ∧ (Cond.instanceMethod yX1_init).before args s = true := cwI 4 hts (jj_gC jj_gT (jj_in (List.mem_of_getElem? (i := 56) rfl) rfl)) rfl h1 h2 (hts _ (jj_in (List.mem_of_getElem? (i := 35) rfl) rfl)) (hts _ (jj_in (List.mem_of_getElem? (i := 54) rfl) rfl)) (hts _ (jj_in (List.mem_of_getElem? (i := 55) rfl) rfl)) rfl (by decide +kernel) hR
set_option maxRecDepth 100000 in
theorem cl_Mesh_18 : Cond.classLink RX7 18 RX3 ∈ jw_t := jj_in (List.mem_of_getElem? (i := 100) rfl) rfl
set_option maxRecDepth 100000 in
theorem it_Links : Cond.instantiable RX3 9 ∈ jw_t := jj_in (List.mem_of_getElem? (i := 101) rfl) rfl
set_option maxRecDepth 100000 in
theorem iz_Links : Cond.initialized RX3 ∈ jw_t := jj_in (List.mem_of_getElem? (i := 37) rfl) rfl
set_option maxRecDepth 100000 in
theorem ol_Links : Cond.methodLink RX3 3 Lib.objectInit ∈ jw_t := jj_in (List.mem_of_getElem? (i := 105) rfl) rfl
set_option maxRecDepth 100000 in
theorem ac_int : Cond.arrayClass .int ∈ jw_t := jj_in (List.mem_of_getElem? (i := 165) rfl) rfl
set_option maxRecDepth 100000 in
theorem qi_Mesh_20 {R : Room} {s : State} {args : Array Value} (hts : ∀ w ∈ jw_t, w.before args s = true) {rm : Room} {mc ms : Nat} (h1 : rm.cells = mc) (h2 : rm.slots = ms) (hR : rm.frames + 1 ≤ R.frames ∧ 8 + (6 + 11) + rm.locals ≤ R.locals) : CallB R s args RX7 20 yX3_init cX3_init 6 none (Cond.code yX3_init cX3_init 6 none :: jw_t) rm mc ms 1 ∧ yX3_init.name = "<init>" ∧ (Cond.instanceMethod yX3_init).before args s = true := cwI 1 hts (jj_gC jj_gT (jj_in (List.mem_of_getElem? (i := 104) rfl) rfl)) rfl h1 h2 (hts _ (jj_in (List.mem_of_getElem? (i := 37) rfl) rfl)) (hts _ (jj_in (List.mem_of_getElem? (i := 102) rfl) rfl)) (hts _ (jj_in (List.mem_of_getElem? (i := 103) rfl) rfl)) rfl (by decide +kernel) hR
set_option maxRecDepth 100000 in
theorem cl_Mesh_27 : Cond.classLink RX7 27 RX4 ∈ jw_t := jj_in (List.mem_of_getElem? (i := 166) rfl) rfl
set_option maxRecDepth 100000 in
theorem it_Packets : Cond.instantiable RX4 7 ∈ jw_t := jj_in (List.mem_of_getElem? (i := 167) rfl) rfl
set_option maxRecDepth 100000 in
theorem iz_Packets : Cond.initialized RX4 ∈ jw_t := jj_in (List.mem_of_getElem? (i := 38) rfl) rfl
set_option maxRecDepth 100000 in
theorem ol_Packets : Cond.methodLink RX4 3 Lib.objectInit ∈ jw_t := jj_in (List.mem_of_getElem? (i := 171) rfl) rfl
set_option maxRecDepth 100000 in
theorem ac_boolean : Cond.arrayClass .boolean ∈ jw_t := jj_in (List.mem_of_getElem? (i := 198) rfl) rfl
set_option maxRecDepth 100000 in
theorem qi_Mesh_29 {R : Room} {s : State} {args : Array Value} (hts : ∀ w ∈ jw_t, w.before args s = true) {rm : Room} {mc ms : Nat} (h1 : rm.cells = mc) (h2 : rm.slots = ms) (hR : rm.frames + 1 ≤ R.frames ∧ 8 + (2 + 11) + rm.locals ≤ R.locals) : CallB R s args RX7 29 yX4_init cX4_init 2 none (Cond.code yX4_init cX4_init 2 none :: jw_t) rm mc ms 1 ∧ yX4_init.name = "<init>" ∧ (Cond.instanceMethod yX4_init).before args s = true := cwI 1 hts (jj_gC jj_gT (jj_in (List.mem_of_getElem? (i := 170) rfl) rfl)) rfl h1 h2 (hts _ (jj_in (List.mem_of_getElem? (i := 38) rfl) rfl)) (hts _ (jj_in (List.mem_of_getElem? (i := 168) rfl) rfl)) (hts _ (jj_in (List.mem_of_getElem? (i := 169) rfl) rfl)) rfl (by decide +kernel) hR
set_option maxRecDepth 100000 in
theorem cl_Mesh_34 : Cond.classLink RX7 34 RX2 ∈ jw_t := jj_in (List.mem_of_getElem? (i := 199) rfl) rfl
set_option maxRecDepth 100000 in
theorem it_Ifs : Cond.instantiable RX2 8 ∈ jw_t := jj_in (List.mem_of_getElem? (i := 200) rfl) rfl
set_option maxRecDepth 100000 in
theorem iz_Ifs : Cond.initialized RX2 ∈ jw_t := jj_in (List.mem_of_getElem? (i := 39) rfl) rfl
set_option maxRecDepth 100000 in
theorem ol_Ifs : Cond.methodLink RX2 3 Lib.objectInit ∈ jw_t := jj_in (List.mem_of_getElem? (i := 204) rfl) rfl
set_option maxRecDepth 100000 in
theorem cl_Ifs_9 : Cond.classLink RX2 9 RX0 ∈ jw_t := jj_in (List.mem_of_getElem? (i := 205) rfl) rfl
set_option maxRecDepth 100000 in
theorem it_Complete : Cond.instantiable RX0 3 ∈ jw_t := jj_in (List.mem_of_getElem? (i := 206) rfl) rfl
set_option maxRecDepth 100000 in
theorem iz_Complete : Cond.initialized RX0 ∈ jw_t := jj_in (List.mem_of_getElem? (i := 40) rfl) rfl
set_option maxRecDepth 100000 in
theorem ol_Complete : Cond.methodLink RX0 3 Lib.objectInit ∈ jw_t := jj_in (List.mem_of_getElem? (i := 210) rfl) rfl
set_option maxRecDepth 100000 in
theorem qi_Ifs_11 {R : Room} {s : State} {args : Array Value} (hts : ∀ w ∈ jw_t, w.before args s = true) {rm : Room} {mc ms : Nat} (h1 : rm.cells = mc) (h2 : rm.slots = ms) (hR : rm.frames + 1 ≤ R.frames ∧ 8 + (1 + 11) + rm.locals ≤ R.locals) (hNw : jj_E s) : va_CN R s args RX2 11 yX0_init "WormMesh" cX0_init 1 none (Cond.code yX0_init cX0_init 1 none :: jw_t) rm mc ms 0 ∧ yX0_init.name = "<init>" ∧ (Cond.instanceMethod yX0_init).before args s = true := ⟨va_cnB 0 hts (jj_gC jj_gT (jj_in (List.mem_of_getElem? (i := 209) rfl) rfl)) rfl h1 h2 hNw (hts _ (jj_in (List.mem_of_getElem? (i := 40) rfl) rfl)) (by decide +kernel) hR, rfl, hts _ (jj_in (List.mem_of_getElem? (i := 208) rfl) rfl)⟩
set_option maxRecDepth 100000 in
theorem cl_Ifs_30 : Cond.classLink RX2 30 RX5 ∈ jw_t := jj_in (List.mem_of_getElem? (i := 224) rfl) rfl
set_option maxRecDepth 100000 in
theorem it_Queues : Cond.instantiable RX5 5 ∈ jw_t := jj_in (List.mem_of_getElem? (i := 225) rfl) rfl
set_option maxRecDepth 100000 in
theorem iz_Queues : Cond.initialized RX5 ∈ jw_t := jj_in (List.mem_of_getElem? (i := 41) rfl) rfl
set_option maxRecDepth 100000 in
theorem ol_Queues : Cond.methodLink RX5 1 Lib.objectInit ∈ jw_t := jj_in (List.mem_of_getElem? (i := 229) rfl) rfl
set_option maxRecDepth 100000 in
theorem qi_Ifs_38 {R : Room} {s : State} {args : Array Value} (hts : ∀ w ∈ jw_t, w.before args s = true) {rm : Room} {mc ms : Nat} (h1 : rm.cells = mc) (h2 : rm.slots = ms) (hR : rm.frames + 1 ≤ R.frames ∧ 8 + (4 + 11) + rm.locals ≤ R.locals) : CallB R s args RX2 38 yX5_init cX5_init 4 none (Cond.code yX5_init cX5_init 4 none :: jw_t) rm mc ms 3 ∧ yX5_init.name = "<init>" ∧ (Cond.instanceMethod yX5_init).before args s = true := cwI 3 hts (jj_gC jj_gT (jj_in (List.mem_of_getElem? (i := 228) rfl) rfl)) rfl h1 h2 (hts _ (jj_in (List.mem_of_getElem? (i := 41) rfl) rfl)) (hts _ (jj_in (List.mem_of_getElem? (i := 226) rfl) rfl)) (hts _ (jj_in (List.mem_of_getElem? (i := 227) rfl) rfl)) rfl (by decide +kernel) hR
set_option maxRecDepth 100000 in
theorem qi_Mesh_36 {R : Room} {s : State} {args : Array Value} (hts : ∀ w ∈ jw_t, w.before args s = true) {rm : Room} {mc ms : Nat} (h1 : rm.cells = mc) (h2 : rm.slots = ms) (hR : rm.frames + 1 ≤ R.frames ∧ 8 + (4 + 11) + rm.locals ≤ R.locals) : CallB R s args RX7 36 yX2_init cX2_init 4 none (Cond.code yX2_init cX2_init 4 none :: jw_t) rm mc ms 3 ∧ yX2_init.name = "<init>" ∧ (Cond.instanceMethod yX2_init).before args s = true := cwI 3 hts (jj_gC jj_gT (jj_in (List.mem_of_getElem? (i := 203) rfl) rfl)) rfl h1 h2 (hts _ (jj_in (List.mem_of_getElem? (i := 39) rfl) rfl)) (hts _ (jj_in (List.mem_of_getElem? (i := 201) rfl) rfl)) (hts _ (jj_in (List.mem_of_getElem? (i := 202) rfl) rfl)) rfl (by decide +kernel) hR
set_option maxRecDepth 100000 in
theorem cl_Mesh_43 : Cond.classLink RX7 43 RX6 ∈ jw_t := jj_in (List.mem_of_getElem? (i := 280) rfl) rfl
set_option maxRecDepth 100000 in
theorem it_Routers : Cond.instantiable RX6 10 ∈ jw_t := jj_in (List.mem_of_getElem? (i := 281) rfl) rfl
set_option maxRecDepth 100000 in
theorem iz_Routers : Cond.initialized RX6 ∈ jw_t := jj_in (List.mem_of_getElem? (i := 42) rfl) rfl
set_option maxRecDepth 100000 in
theorem ol_Routers : Cond.methodLink RX6 3 Lib.objectInit ∈ jw_t := jj_in (List.mem_of_getElem? (i := 285) rfl) rfl
set_option maxRecDepth 100000 in
theorem qi_Mesh_45 {R : Room} {s : State} {args : Array Value} (hts : ∀ w ∈ jw_t, w.before args s = true) {rm : Room} {mc ms : Nat} (h1 : rm.cells = mc) (h2 : rm.slots = ms) (hR : rm.frames + 1 ≤ R.frames ∧ 8 + (4 + 11) + rm.locals ≤ R.locals) : CallB R s args RX7 45 yX6_init cX6_init 4 none (Cond.code yX6_init cX6_init 4 none :: jw_t) rm mc ms 3 ∧ yX6_init.name = "<init>" ∧ (Cond.instanceMethod yX6_init).before args s = true := cwI 3 hts (jj_gC jj_gT (jj_in (List.mem_of_getElem? (i := 284) rfl) rfl)) rfl h1 h2 (hts _ (jj_in (List.mem_of_getElem? (i := 42) rfl) rfl)) (hts _ (jj_in (List.mem_of_getElem? (i := 282) rfl) rfl)) (hts _ (jj_in (List.mem_of_getElem? (i := 283) rfl) rfl)) rfl (by decide +kernel) hR
set_option maxRecDepth 100000 in
theorem ol_Ref : Cond.methodLink RX8 1 Lib.objectInit ∈ jw_t := jj_in (List.mem_of_getElem? (i := 560) rfl) rfl
theorem jj_len2 {u : List Nat} (h : u.length = 2) : ∃ a0 a1 : Nat, u = [a0, a1] := ⟨u.getD 0 0, u.getD 1 0, by
  apply List.ext_getElem?
  intro i
  by_cases hi : i < 2
  · rw [List.getElem?_eq_getElem (by omega)]
    rcases (show i = 0 ∨ i = 1 by omega) with rfl | rfl <;> simp [List.getD, List.getElem?_eq_getElem, h]
  · rw [List.getElem?_eq_none (by omega), List.getElem?_eq_none (by simp; omega)]⟩
theorem jj_len3 {u : List Nat} (h : u.length = 3) : ∃ a0 a1 a2 : Nat, u = [a0, a1, a2] := ⟨u.getD 0 0, u.getD 1 0, u.getD 2 0, by
  apply List.ext_getElem?
  intro i
  by_cases hi : i < 3
  · rw [List.getElem?_eq_getElem (by omega)]
    rcases (show i = 0 ∨ i = 1 ∨ i = 2 by omega) with rfl | rfl | rfl <;> simp [List.getD, List.getElem?_eq_getElem, h]
  · rw [List.getElem?_eq_none (by omega), List.getElem?_eq_none (by simp; omega)]⟩
theorem jj_len5 {u : List Nat} (h : u.length = 5) : ∃ a0 a1 a2 a3 a4 : Nat, u = [a0, a1, a2, a3, a4] := ⟨u.getD 0 0, u.getD 1 0, u.getD 2 0, u.getD 3 0, u.getD 4 0, by
  apply List.ext_getElem?
  intro i
  by_cases hi : i < 5
  · rw [List.getElem?_eq_getElem (by omega)]
    rcases (show i = 0 ∨ i = 1 ∨ i = 2 ∨ i = 3 ∨ i = 4 by omega) with rfl | rfl | rfl | rfl | rfl <;> simp [List.getD, List.getElem?_eq_getElem, h]
  · rw [List.getElem?_eq_none (by omega), List.getElem?_eq_none (by simp; omega)]⟩
theorem jj_len7 {u : List Nat} (h : u.length = 7) : ∃ a0 a1 a2 a3 a4 a5 a6 : Nat, u = [a0, a1, a2, a3, a4, a5, a6] := ⟨u.getD 0 0, u.getD 1 0, u.getD 2 0, u.getD 3 0, u.getD 4 0, u.getD 5 0, u.getD 6 0, by
  apply List.ext_getElem?
  intro i
  by_cases hi : i < 7
  · rw [List.getElem?_eq_getElem (by omega)]
    rcases (show i = 0 ∨ i = 1 ∨ i = 2 ∨ i = 3 ∨ i = 4 ∨ i = 5 ∨ i = 6 by omega) with rfl | rfl | rfl | rfl | rfl | rfl | rfl <;> simp [List.getD, List.getElem?_eq_getElem, h]
  · rw [List.getElem?_eq_none (by omega), List.getElem?_eq_none (by simp; omega)]⟩
theorem jj_len13 {u : List Nat} (h : u.length = 13) : ∃ a0 a1 a2 a3 a4 a5 a6 a7 a8 a9 a10 a11 a12 : Nat, u = [a0, a1, a2, a3, a4, a5, a6, a7, a8, a9, a10, a11, a12] := ⟨u.getD 0 0, u.getD 1 0, u.getD 2 0, u.getD 3 0, u.getD 4 0, u.getD 5 0, u.getD 6 0, u.getD 7 0, u.getD 8 0, u.getD 9 0, u.getD 10 0, u.getD 11 0, u.getD 12 0, by
  apply List.ext_getElem?
  intro i
  by_cases hi : i < 13
  · rw [List.getElem?_eq_getElem (by omega)]
    rcases (show i = 0 ∨ i = 1 ∨ i = 2 ∨ i = 3 ∨ i = 4 ∨ i = 5 ∨ i = 6 ∨ i = 7 ∨ i = 8 ∨ i = 9 ∨ i = 10 ∨ i = 11 ∨ i = 12 by omega) with rfl | rfl | rfl | rfl | rfl | rfl | rfl | rfl | rfl | rfl | rfl | rfl | rfl <;> simp [List.getD, List.getElem?_eq_getElem, h]
  · rw [List.getElem?_eq_none (by omega), List.getElem?_eq_none (by simp; omega)]⟩
theorem jj_len28 {u : List Nat} (h : u.length = 28) : ∃ a0 a1 a2 a3 a4 a5 a6 a7 a8 a9 a10 a11 a12 a13 a14 a15 a16 a17 a18 a19 a20 a21 a22 a23 a24 a25 a26 a27 : Nat, u = [a0, a1, a2, a3, a4, a5, a6, a7, a8, a9, a10, a11, a12, a13, a14, a15, a16, a17, a18, a19, a20, a21, a22, a23, a24, a25, a26, a27] := ⟨u.getD 0 0, u.getD 1 0, u.getD 2 0, u.getD 3 0, u.getD 4 0, u.getD 5 0, u.getD 6 0, u.getD 7 0, u.getD 8 0, u.getD 9 0, u.getD 10 0, u.getD 11 0, u.getD 12 0, u.getD 13 0, u.getD 14 0, u.getD 15 0, u.getD 16 0, u.getD 17 0, u.getD 18 0, u.getD 19 0, u.getD 20 0, u.getD 21 0, u.getD 22 0, u.getD 23 0, u.getD 24 0, u.getD 25 0, u.getD 26 0, u.getD 27 0, by
  apply List.ext_getElem?
  intro i
  by_cases hi : i < 28
  · rw [List.getElem?_eq_getElem (by omega)]
    rcases (show i = 0 ∨ i = 1 ∨ i = 2 ∨ i = 3 ∨ i = 4 ∨ i = 5 ∨ i = 6 ∨ i = 7 ∨ i = 8 ∨ i = 9 ∨ i = 10 ∨ i = 11 ∨ i = 12 ∨ i = 13 ∨ i = 14 ∨ i = 15 ∨ i = 16 ∨ i = 17 ∨ i = 18 ∨ i = 19 ∨ i = 20 ∨ i = 21 ∨ i = 22 ∨ i = 23 ∨ i = 24 ∨ i = 25 ∨ i = 26 ∨ i = 27 by omega) with rfl | rfl | rfl | rfl | rfl | rfl | rfl | rfl | rfl | rfl | rfl | rfl | rfl | rfl | rfl | rfl | rfl | rfl | rfl | rfl | rfl | rfl | rfl | rfl | rfl | rfl | rfl | rfl <;> simp [List.getD, List.getElem?_eq_getElem, h]
  · rw [List.getElem?_eq_none (by omega), List.getElem?_eq_none (by simp; omega)]⟩
theorem jj_len37 {u : List Nat} (h : u.length = 37) : ∃ a0 a1 a2 a3 a4 a5 a6 a7 a8 a9 a10 a11 a12 a13 a14 a15 a16 a17 a18 a19 a20 a21 a22 a23 a24 a25 a26 a27 a28 a29 a30 a31 a32 a33 a34 a35 a36 : Nat, u = [a0, a1, a2, a3, a4, a5, a6, a7, a8, a9, a10, a11, a12, a13, a14, a15, a16, a17, a18, a19, a20, a21, a22, a23, a24, a25, a26, a27, a28, a29, a30, a31, a32, a33, a34, a35, a36] := ⟨u.getD 0 0, u.getD 1 0, u.getD 2 0, u.getD 3 0, u.getD 4 0, u.getD 5 0, u.getD 6 0, u.getD 7 0, u.getD 8 0, u.getD 9 0, u.getD 10 0, u.getD 11 0, u.getD 12 0, u.getD 13 0, u.getD 14 0, u.getD 15 0, u.getD 16 0, u.getD 17 0, u.getD 18 0, u.getD 19 0, u.getD 20 0, u.getD 21 0, u.getD 22 0, u.getD 23 0, u.getD 24 0, u.getD 25 0, u.getD 26 0, u.getD 27 0, u.getD 28 0, u.getD 29 0, u.getD 30 0, u.getD 31 0, u.getD 32 0, u.getD 33 0, u.getD 34 0, u.getD 35 0, u.getD 36 0, by
  apply List.ext_getElem?
  intro i
  by_cases hi : i < 37
  · rw [List.getElem?_eq_getElem (by omega)]
    rcases (show i = 0 ∨ i = 1 ∨ i = 2 ∨ i = 3 ∨ i = 4 ∨ i = 5 ∨ i = 6 ∨ i = 7 ∨ i = 8 ∨ i = 9 ∨ i = 10 ∨ i = 11 ∨ i = 12 ∨ i = 13 ∨ i = 14 ∨ i = 15 ∨ i = 16 ∨ i = 17 ∨ i = 18 ∨ i = 19 ∨ i = 20 ∨ i = 21 ∨ i = 22 ∨ i = 23 ∨ i = 24 ∨ i = 25 ∨ i = 26 ∨ i = 27 ∨ i = 28 ∨ i = 29 ∨ i = 30 ∨ i = 31 ∨ i = 32 ∨ i = 33 ∨ i = 34 ∨ i = 35 ∨ i = 36 by omega) with rfl | rfl | rfl | rfl | rfl | rfl | rfl | rfl | rfl | rfl | rfl | rfl | rfl | rfl | rfl | rfl | rfl | rfl | rfl | rfl | rfl | rfl | rfl | rfl | rfl | rfl | rfl | rfl | rfl | rfl | rfl | rfl | rfl | rfl | rfl | rfl | rfl <;> simp [List.getD, List.getElem?_eq_getElem, h]
  · rw [List.getElem?_eq_none (by omega), List.getElem?_eq_none (by simp; omega)]⟩
def gia : List jj_H := [.inl (7, [some none, some none, some none, some none, some none, none]), .inl (1, [none, none, none, none, none, none, none])]
theorem iag_0 : (gia )[0]? = some (.inl (7, [some none, some none, some none, some none, some none, none])) := rfl
theorem iag_1 : (gia )[1]? = some (.inl (1, [none, none, none, none, none, none, none])) := rfl
def gib (n S SD : Nat) : List jj_H := [.inl (7, [some (some 1), some none, some none, some none, some none, none]), .inl (1, [none, none, none, none, none, none, none]), .inl (3, [none, some (some 3), some (some 4), some (some 5), some (some 6), some (some 7), some (some 8), some (some 9), none]), .inr (.int, S), .inr (.int, SD), .inr (.int, S), .inr (.int, S), .inr (.int, S), .inr (.int, S), .inr (.int, S)]
theorem ibg_0 (n S SD : Nat) : (gib n S SD)[0]? = some (.inl (7, [some (some 1), some none, some none, some none, some none, none])) := rfl
theorem ibg_1 (n S SD : Nat) : (gib n S SD)[1]? = some (.inl (1, [none, none, none, none, none, none, none])) := rfl
theorem ibg_2 (n S SD : Nat) : (gib n S SD)[2]? = some (.inl (3, [none, some (some 3), some (some 4), some (some 5), some (some 6), some (some 7), some (some 8), some (some 9), none])) := rfl
theorem ibg_3 (n S SD : Nat) : (gib n S SD)[3]? = some (.inr (.int, S)) := rfl
theorem ibg_4 (n S SD : Nat) : (gib n S SD)[4]? = some (.inr (.int, SD)) := rfl
theorem ibg_5 (n S SD : Nat) : (gib n S SD)[5]? = some (.inr (.int, S)) := rfl
theorem ibg_6 (n S SD : Nat) : (gib n S SD)[6]? = some (.inr (.int, S)) := rfl
theorem ibg_7 (n S SD : Nat) : (gib n S SD)[7]? = some (.inr (.int, S)) := rfl
theorem ibg_8 (n S SD : Nat) : (gib n S SD)[8]? = some (.inr (.int, S)) := rfl
theorem ibg_9 (n S SD : Nat) : (gib n S SD)[9]? = some (.inr (.int, S)) := rfl
