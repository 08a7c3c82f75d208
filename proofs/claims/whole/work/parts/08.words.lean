theorem goodIn_r {big : List Cond} (ws : List Cond) (ps : List Nat) (hp : ws = ps.filterMap (fun i => big[i]?)) (h : ws.all goodWord = true) : GoodIn big ws := by
  intro w hw
  have h1 := List.all_eq_true.mp h w hw
  rw [hp] at hw
  obtain ⟨i, -, hi⟩ := List.mem_filterMap.mp hw
  have hm : w ∈ big := by first | exact List.mem_of_getElem? hi | exact List.getElem?_mem hi
  exact ⟨hm, good_of_word h1⟩
theorem goodIn_app {big a b : List Cond} (ha : GoodIn big a) (hb : GoodIn big b) : GoodIn big (a ++ b) := fun w h => (List.mem_append.mp h).elim (ha w) (hb w)
theorem goodIn_ca {big a b : List Cond} {c : Cond} (ha : GoodIn big (c :: a)) (hb : GoodIn big b) : GoodIn big (c :: (a ++ b)) := fun w h => (List.mem_cons.mp h).elim (fun e => ha w (List.mem_cons.mpr (Or.inl e))) (fun h => (List.mem_append.mp h).elim (fun h => ha w (List.mem_cons.mpr (Or.inr h))) (hb w))
theorem goodIn_sub {big ws : List Cond} (hm : ∀ w ∈ ws, w ∈ big) (h : ws.all goodWord = true) : GoodIn big ws := fun w hw => ⟨hm w hw, good_of_word (List.all_eq_true.mp h w hw)⟩
/-! ===== END ===== -/

/-! ===== BEGIN printed: names, fields, word lists, decode rows ===== -/
def jw_t : List Cond := lw_tbl.filter goodWord
theorem jj_in {w : Cond} (h : w ∈ lw_tbl) (hg : goodWord w = true) : w ∈ jw_t := List.mem_filter.mpr ⟨h, hg⟩
theorem jj_gT : GoodIn jw_t jw_t := fun w hw => ⟨hw, good_of_word (List.mem_filter.mp hw).2⟩
theorem jj_gL : GoodIn lw_tbl jw_t := fun w hw => ⟨(List.mem_filter.mp hw).1, good_of_word (List.mem_filter.mp hw).2⟩
theorem jj_gV {big ys : List Cond} {own C : String} {ix : Nat} {y : MethodName} {c : Cond} (hg : GoodIn big ys) (h1 : Cond.methodLink own ix y ∈ big) (h2 : Cond.instanceMethod y ∈ big) (h3 : Cond.selects C y y ∈ big) (h4 : Cond.initialized C ∈ big) (h5 : c ∈ big) (h6 : (c.onTables && c.keeps) = true := by rfl) : GoodIn big (wsV own ix C y (c :: ys)) := by
  intro w hw
  simp only [wsV, List.cons_append, List.nil_append, List.mem_cons] at hw
  rcases hw with rfl | rfl | rfl | rfl | rfl | hw
  · exact ⟨h1, Or.inl rfl⟩
  · exact ⟨h2, Or.inl rfl⟩
  · exact ⟨h3, Or.inl rfl⟩
  · exact ⟨h4, Or.inl rfl⟩
  · exact ⟨h5, Or.inl h6⟩
  · exact hg w hw
theorem jj_gS {big ys : List Cond} {own : String} {ix : Nat} {y : MethodName} {c : Cond} (hg : GoodIn big ys) (h1 : Cond.methodLink own ix y ∈ big) (h2 : Cond.static y ∈ big) (h4 : Cond.initialized y.cls ∈ big) (h5 : c ∈ big) (h6 : (c.onTables && c.keeps) = true := by rfl) : GoodIn big (va_wsS own ix y (c :: ys)) := by
  intro w hw
  simp only [va_wsS, List.cons_append, List.nil_append, List.mem_cons] at hw
  rcases hw with rfl | rfl | rfl | rfl | hw
  · exact ⟨h1, Or.inl rfl⟩
  · exact ⟨h2, Or.inl rfl⟩
  · exact ⟨h4, Or.inl rfl⟩
  · exact ⟨h5, Or.inl h6⟩
  · exact hg w hw
theorem in_Mesh : ∀ w ∈ u_ws RX7 TX7 6, w ∈ jw_t := fun w h => jj_in ((show ∀ w ∈ u_ws RX7 TX7 6, w ∈ lw_tbl by decide +kernel) w h) ((show ∀ w ∈ u_ws RX7 TX7 6, goodWord w = true by decide +kernel) w h)
theorem k_Mesh : vwCl[7]? = some (RX7, TX7, 6) := rfl
theorem in_Complete : ∀ w ∈ u_ws RX0 TX0 3, w ∈ jw_t := fun w h => jj_in ((show ∀ w ∈ u_ws RX0 TX0 3, w ∈ lw_tbl by decide +kernel) w h) ((show ∀ w ∈ u_ws RX0 TX0 3, goodWord w = true by decide +kernel) w h)
theorem k_Complete : vwCl[0]? = some (RX0, TX0, 3) := rfl
theorem in_Grid : ∀ w ∈ u_ws RX1 TX1 7, w ∈ jw_t := fun w h => jj_in ((show ∀ w ∈ u_ws RX1 TX1 7, w ∈ lw_tbl by decide +kernel) w h) ((show ∀ w ∈ u_ws RX1 TX1 7, goodWord w = true by decide +kernel) w h)
theorem k_Grid : vwCl[1]? = some (RX1, TX1, 7) := rfl
theorem in_Ifs : ∀ w ∈ u_ws RX2 TX2 8, w ∈ jw_t := fun w h => jj_in ((show ∀ w ∈ u_ws RX2 TX2 8, w ∈ lw_tbl by decide +kernel) w h) ((show ∀ w ∈ u_ws RX2 TX2 8, goodWord w = true by decide +kernel) w h)
theorem k_Ifs : vwCl[2]? = some (RX2, TX2, 8) := rfl
theorem in_Links : ∀ w ∈ u_ws RX3 TX3 9, w ∈ jw_t := fun w h => jj_in ((show ∀ w ∈ u_ws RX3 TX3 9, w ∈ lw_tbl by decide +kernel) w h) ((show ∀ w ∈ u_ws RX3 TX3 9, goodWord w = true by decide +kernel) w h)
theorem k_Links : vwCl[3]? = some (RX3, TX3, 9) := rfl
theorem in_Packets : ∀ w ∈ u_ws RX4 TX4 7, w ∈ jw_t := fun w h => jj_in ((show ∀ w ∈ u_ws RX4 TX4 7, w ∈ lw_tbl by decide +kernel) w h) ((show ∀ w ∈ u_ws RX4 TX4 7, goodWord w = true by decide +kernel) w h)
theorem k_Packets : vwCl[4]? = some (RX4, TX4, 7) := rfl
theorem in_Queues : ∀ w ∈ u_ws RX5 TX5 5, w ∈ jw_t := fun w h => jj_in ((show ∀ w ∈ u_ws RX5 TX5 5, w ∈ lw_tbl by decide +kernel) w h) ((show ∀ w ∈ u_ws RX5 TX5 5, goodWord w = true by decide +kernel) w h)
theorem k_Queues : vwCl[5]? = some (RX5, TX5, 5) := rfl
theorem in_Routers : ∀ w ∈ u_ws RX6 TX6 10, w ∈ jw_t := fun w h => jj_in ((show ∀ w ∈ u_ws RX6 TX6 10, w ∈ lw_tbl by decide +kernel) w h) ((show ∀ w ∈ u_ws RX6 TX6 10, goodWord w = true by decide +kernel) w h)
theorem k_Routers : vwCl[6]? = some (RX6, TX6, 10) := rfl
set_option maxRecDepth 100000 in
theorem fl_Mesh_12 : Cond.fieldLink RX7 12 (TX7 0).1 (TX7 0).2.1 (TX7 0).2.2.1 ∈ jw_t := jj_in (List.mem_of_getElem? (i := 320) rfl) rfl
set_option maxRecDepth 100000 in
theorem fl_Mesh_23 : Cond.fieldLink RX7 23 (TX7 1).1 (TX7 1).2.1 (TX7 1).2.2.1 ∈ jw_t := jj_in (List.mem_of_getElem? (i := 321) rfl) rfl
set_option maxRecDepth 100000 in
theorem fl_Mesh_30 : Cond.fieldLink RX7 30 (TX7 2).1 (TX7 2).2.1 (TX7 2).2.2.1 ∈ jw_t := jj_in (List.mem_of_getElem? (i := 322) rfl) rfl
set_option maxRecDepth 100000 in
theorem fl_Mesh_39 : Cond.fieldLink RX7 39 (TX7 3).1 (TX7 3).2.1 (TX7 3).2.2.1 ∈ jw_t := jj_in (List.mem_of_getElem? (i := 323) rfl) rfl
set_option maxRecDepth 100000 in
theorem fl_Mesh_46 : Cond.fieldLink RX7 46 (TX7 4).1 (TX7 4).2.1 (TX7 4).2.2.1 ∈ jw_t := jj_in (List.mem_of_getElem? (i := 324) rfl) rfl
set_option maxRecDepth 100000 in
theorem fl_Mesh_50 : Cond.fieldLink RX7 50 (TX1 5).1 (TX1 5).2.1 (TX1 5).2.2.1 ∈ jw_t := jj_in (List.mem_of_getElem? (i := 81) rfl) rfl
set_option maxRecDepth 100000 in
theorem fl_Mesh_61 : Cond.fieldLink RX7 61 (TX2 3).1 (TX2 3).2.1 (TX2 3).2.2.1 ∈ jw_t := jj_in (List.mem_of_getElem? (i := 254) rfl) rfl
set_option maxRecDepth 100000 in
theorem fl_Mesh_80 : Cond.fieldLink RX7 80 (TX2 7).1 (TX2 7).2.1 (TX2 7).2.2.1 ∈ jw_t := jj_in (List.mem_of_getElem? (i := 262) rfl) rfl
set_option maxRecDepth 100000 in
theorem fl_Mesh_84 : Cond.fieldLink RX7 84 (TX2 5).1 (TX2 5).2.1 (TX2 5).2.2.1 ∈ jw_t := jj_in (List.mem_of_getElem? (i := 258) rfl) rfl
set_option maxRecDepth 100000 in
theorem fl_Mesh_88 : Cond.fieldLink RX7 88 (TX0 2).1 (TX0 2).2.1 (TX0 2).2.2.1 ∈ jw_t := jj_in (List.mem_of_getElem? (i := 216) rfl) rfl
set_option maxRecDepth 100000 in
theorem fl_Mesh_96 : Cond.fieldLink RX7 96 (TX7 5).1 (TX7 5).2.1 (TX7 5).2.2.1 ∈ jw_t := jj_in (List.mem_of_getElem? (i := 325) rfl) rfl
set_option maxRecDepth 100000 in
theorem fl_Mesh_99 : Cond.fieldLink RX7 99 (TX0 0).1 (TX0 0).2.1 (TX0 0).2.2.1 ∈ jw_t := jj_in (List.mem_of_getElem? (i := 212) rfl) rfl
set_option maxRecDepth 100000 in
theorem fl_Mesh_103 : Cond.fieldLink RX7 103 (TX4 5).1 (TX4 5).2.1 (TX4 5).2.2.1 ∈ jw_t := jj_in (List.mem_of_getElem? (i := 181) rfl) rfl
set_option maxRecDepth 100000 in
theorem fl_Mesh_106 : Cond.fieldLink RX7 106 (TX0 1).1 (TX0 1).2.1 (TX0 1).2.2.1 ∈ jw_t := jj_in (List.mem_of_getElem? (i := 214) rfl) rfl
set_option maxRecDepth 100000 in
theorem fl_Mesh_108 : Cond.fieldLink RX7 108 (TX2 6).1 (TX2 6).2.1 (TX2 6).2.2.1 ∈ jw_t := jj_in (List.mem_of_getElem? (i := 260) rfl) rfl
set_option maxRecDepth 100000 in
theorem fl_Mesh_111 : Cond.fieldLink RX7 111 (TX5 3).1 (TX5 3).2.1 (TX5 3).2.2.1 ∈ jw_t := jj_in (List.mem_of_getElem? (i := 236) rfl) rfl
set_option maxRecDepth 100000 in
theorem fl_Mesh_113 : Cond.fieldLink RX7 113 (TX2 4).1 (TX2 4).2.1 (TX2 4).2.2.1 ∈ jw_t := jj_in (List.mem_of_getElem? (i := 256) rfl) rfl
set_option maxRecDepth 100000 in
theorem fl_Mesh_124 : Cond.fieldLink RX7 124 (TX6 3).1 (TX6 3).2.1 (TX6 3).2.2.1 ∈ jw_t := jj_in (List.mem_of_getElem? (i := 290) rfl) rfl
set_option maxRecDepth 100000 in
theorem fl_Mesh_127 : Cond.fieldLink RX7 127 (TX6 4).1 (TX6 4).2.1 (TX6 4).2.2.1 ∈ jw_t := jj_in (List.mem_of_getElem? (i := 292) rfl) rfl
set_option maxRecDepth 100000 in
theorem fl_Mesh_130 : Cond.fieldLink RX7 130 (TX3 4).1 (TX3 4).2.1 (TX3 4).2.2.1 ∈ jw_t := jj_in (List.mem_of_getElem? (i := 137) rfl) rfl
set_option maxRecDepth 100000 in
theorem fl_Mesh_131 : Cond.fieldLink RX7 131 (TX3 5).1 (TX3 5).2.1 (TX3 5).2.2.1 ∈ jw_t := jj_in (List.mem_of_getElem? (i := 141) rfl) rfl
set_option maxRecDepth 100000 in
theorem fl_Mesh_134 : Cond.fieldLink RX7 134 (TX6 5).1 (TX6 5).2.1 (TX6 5).2.2.1 ∈ jw_t := jj_in (List.mem_of_getElem? (i := 294) rfl) rfl
set_option maxRecDepth 100000 in
theorem fl_Mesh_140 : Cond.fieldLink RX7 140 (TX3 8).1 (TX3 8).2.1 (TX3 8).2.2.1 ∈ jw_t := jj_in (List.mem_of_getElem? (i := 145) rfl) rfl
set_option maxRecDepth 100000 in
theorem fl_Complete_9 : Cond.fieldLink RX0 9 (TX0 0).1 (TX0 0).2.1 (TX0 0).2.2.1 ∈ jw_t := jj_in (List.mem_of_getElem? (i := 211) rfl) rfl
set_option maxRecDepth 100000 in
theorem fl_Complete_15 : Cond.fieldLink RX0 15 (TX0 1).1 (TX0 1).2.1 (TX0 1).2.2.1 ∈ jw_t := jj_in (List.mem_of_getElem? (i := 213) rfl) rfl
set_option maxRecDepth 100000 in
theorem fl_Complete_18 : Cond.fieldLink RX0 18 (TX0 2).1 (TX0 2).2.1 (TX0 2).2.2.1 ∈ jw_t := jj_in (List.mem_of_getElem? (i := 215) rfl) rfl
set_option maxRecDepth 100000 in
theorem fl_Grid_15 : Cond.fieldLink RX1 15 (TX1 0).1 (TX1 0).2.1 (TX1 0).2.2.1 ∈ jw_t := jj_in (List.mem_of_getElem? (i := 67) rfl) rfl
set_option maxRecDepth 100000 in
theorem fl_Grid_28 : Cond.fieldLink RX1 28 (TX1 4).1 (TX1 4).2.1 (TX1 4).2.2.1 ∈ jw_t := jj_in (List.mem_of_getElem? (i := 73) rfl) rfl
set_option maxRecDepth 100000 in
theorem fl_Grid_31 : Cond.fieldLink RX1 31 (TX1 5).1 (TX1 5).2.1 (TX1 5).2.2.1 ∈ jw_t := jj_in (List.mem_of_getElem? (i := 78) rfl) rfl
set_option maxRecDepth 100000 in
theorem fl_Ifs_12 : Cond.fieldLink RX2 12 (TX2 5).1 (TX2 5).2.1 (TX2 5).2.2.1 ∈ jw_t := jj_in (List.mem_of_getElem? (i := 257) rfl) rfl
set_option maxRecDepth 100000 in
theorem fl_Ifs_18 : Cond.fieldLink RX2 18 (TX2 0).1 (TX2 0).2.1 (TX2 0).2.2.1 ∈ jw_t := jj_in (List.mem_of_getElem? (i := 250) rfl) rfl
set_option maxRecDepth 100000 in
theorem fl_Ifs_22 : Cond.fieldLink RX2 22 (TX2 1).1 (TX2 1).2.1 (TX2 1).2.2.1 ∈ jw_t := jj_in (List.mem_of_getElem? (i := 251) rfl) rfl
set_option maxRecDepth 100000 in
theorem fl_Ifs_26 : Cond.fieldLink RX2 26 (TX2 2).1 (TX2 2).2.1 (TX2 2).2.2.1 ∈ jw_t := jj_in (List.mem_of_getElem? (i := 252) rfl) rfl
set_option maxRecDepth 100000 in
theorem fl_Ifs_32 : Cond.fieldLink RX2 32 (TX1 5).1 (TX1 5).2.1 (TX1 5).2.2.1 ∈ jw_t := jj_in (List.mem_of_getElem? (i := 77) rfl) rfl
set_option maxRecDepth 100000 in
theorem fl_Ifs_41 : Cond.fieldLink RX2 41 (TX2 3).1 (TX2 3).2.1 (TX2 3).2.2.1 ∈ jw_t := jj_in (List.mem_of_getElem? (i := 253) rfl) rfl
set_option maxRecDepth 100000 in
theorem fl_Ifs_45 : Cond.fieldLink RX2 45 (TX2 4).1 (TX2 4).2.1 (TX2 4).2.2.1 ∈ jw_t := jj_in (List.mem_of_getElem? (i := 255) rfl) rfl
set_option maxRecDepth 100000 in
theorem fl_Ifs_48 : Cond.fieldLink RX2 48 (TX2 6).1 (TX2 6).2.1 (TX2 6).2.2.1 ∈ jw_t := jj_in (List.mem_of_getElem? (i := 259) rfl) rfl
set_option maxRecDepth 100000 in
theorem fl_Ifs_52 : Cond.fieldLink RX2 52 (TX2 7).1 (TX2 7).2.1 (TX2 7).2.2.1 ∈ jw_t := jj_in (List.mem_of_getElem? (i := 261) rfl) rfl
set_option maxRecDepth 100000 in
theorem fl_Ifs_56 : Cond.fieldLink RX2 56 (TX1 4).1 (TX1 4).2.1 (TX1 4).2.2.1 ∈ jw_t := jj_in (List.mem_of_getElem? (i := 75) rfl) rfl
set_option maxRecDepth 100000 in
theorem fl_Ifs_63 : Cond.fieldLink RX2 63 (TX3 4).1 (TX3 4).2.1 (TX3 4).2.2.1 ∈ jw_t := jj_in (List.mem_of_getElem? (i := 135) rfl) rfl
set_option maxRecDepth 100000 in
theorem fl_Ifs_106 : Cond.fieldLink RX2 106 (TX4 4).1 (TX4 4).2.1 (TX4 4).2.2.1 ∈ jw_t := jj_in (List.mem_of_getElem? (i := 178) rfl) rfl
set_option maxRecDepth 100000 in
theorem fl_Ifs_109 : Cond.fieldLink RX2 109 (TX4 3).1 (TX4 3).2.1 (TX4 3).2.2.1 ∈ jw_t := jj_in (List.mem_of_getElem? (i := 176) rfl) rfl
set_option maxRecDepth 100000 in
theorem fl_Ifs_112 : Cond.fieldLink RX2 112 (TX4 5).1 (TX4 5).2.1 (TX4 5).2.2.1 ∈ jw_t := jj_in (List.mem_of_getElem? (i := 180) rfl) rfl
set_option maxRecDepth 100000 in
theorem fl_Ifs_119 : Cond.fieldLink RX2 119 (TX5 3).1 (TX5 3).2.1 (TX5 3).2.2.1 ∈ jw_t := jj_in (List.mem_of_getElem? (i := 235) rfl) rfl
set_option maxRecDepth 100000 in
theorem fl_Ifs_123 : Cond.fieldLink RX2 123 (TX5 0).1 (TX5 0).2.1 (TX5 0).2.2.1 ∈ jw_t := jj_in (List.mem_of_getElem? (i := 231) rfl) rfl
set_option maxRecDepth 100000 in
theorem fl_Ifs_131 : Cond.fieldLink RX2 131 (TX3 5).1 (TX3 5).2.1 (TX3 5).2.2.1 ∈ jw_t := jj_in (List.mem_of_getElem? (i := 140) rfl) rfl
set_option maxRecDepth 100000 in
theorem fl_Ifs_134 : Cond.fieldLink RX2 134 (TX5 4).1 (TX5 4).2.1 (TX5 4).2.2.1 ∈ jw_t := jj_in (List.mem_of_getElem? (i := 238) rfl) rfl
set_option maxRecDepth 100000 in
theorem fl_Links_15 : Cond.fieldLink RX3 15 (TX3 0).1 (TX3 0).2.1 (TX3 0).2.2.1 ∈ jw_t := jj_in (List.mem_of_getElem? (i := 130) rfl) rfl
set_option maxRecDepth 100000 in
theorem fl_Links_21 : Cond.fieldLink RX3 21 (TX3 1).1 (TX3 1).2.1 (TX3 1).2.2.1 ∈ jw_t := jj_in (List.mem_of_getElem? (i := 131) rfl) rfl
set_option maxRecDepth 100000 in
theorem fl_Links_25 : Cond.fieldLink RX3 25 (TX3 2).1 (TX3 2).2.1 (TX3 2).2.2.1 ∈ jw_t := jj_in (List.mem_of_getElem? (i := 132) rfl) rfl
set_option maxRecDepth 100000 in
theorem fl_Links_28 : Cond.fieldLink RX3 28 (TX3 3).1 (TX3 3).2.1 (TX3 3).2.2.1 ∈ jw_t := jj_in (List.mem_of_getElem? (i := 133) rfl) rfl
set_option maxRecDepth 100000 in
theorem fl_Links_31 : Cond.fieldLink RX3 31 (TX3 4).1 (TX3 4).2.1 (TX3 4).2.2.1 ∈ jw_t := jj_in (List.mem_of_getElem? (i := 134) rfl) rfl
set_option maxRecDepth 100000 in
theorem fl_Links_34 : Cond.fieldLink RX3 34 (TX3 5).1 (TX3 5).2.1 (TX3 5).2.2.1 ∈ jw_t := jj_in (List.mem_of_getElem? (i := 138) rfl) rfl
set_option maxRecDepth 100000 in
theorem fl_Links_37 : Cond.fieldLink RX3 37 (TX3 6).1 (TX3 6).2.1 (TX3 6).2.2.1 ∈ jw_t := jj_in (List.mem_of_getElem? (i := 142) rfl) rfl
set_option maxRecDepth 100000 in
theorem fl_Links_40 : Cond.fieldLink RX3 40 (TX3 7).1 (TX3 7).2.1 (TX3 7).2.2.1 ∈ jw_t := jj_in (List.mem_of_getElem? (i := 143) rfl) rfl
set_option maxRecDepth 100000 in
theorem fl_Links_56 : Cond.fieldLink RX3 56 (TX3 8).1 (TX3 8).2.1 (TX3 8).2.2.1 ∈ jw_t := jj_in (List.mem_of_getElem? (i := 144) rfl) rfl
set_option maxRecDepth 100000 in
theorem fl_Packets_9 : Cond.fieldLink RX4 9 (TX4 1).1 (TX4 1).2.1 (TX4 1).2.2.1 ∈ jw_t := jj_in (List.mem_of_getElem? (i := 173) rfl) rfl
set_option maxRecDepth 100000 in
theorem fl_Packets_15 : Cond.fieldLink RX4 15 (TX4 2).1 (TX4 2).2.1 (TX4 2).2.2.1 ∈ jw_t := jj_in (List.mem_of_getElem? (i := 174) rfl) rfl
set_option maxRecDepth 100000 in
theorem fl_Packets_18 : Cond.fieldLink RX4 18 (TX4 3).1 (TX4 3).2.1 (TX4 3).2.2.1 ∈ jw_t := jj_in (List.mem_of_getElem? (i := 175) rfl) rfl
set_option maxRecDepth 100000 in
theorem fl_Packets_22 : Cond.fieldLink RX4 22 (TX4 4).1 (TX4 4).2.1 (TX4 4).2.2.1 ∈ jw_t := jj_in (List.mem_of_getElem? (i := 177) rfl) rfl
set_option maxRecDepth 100000 in
theorem fl_Packets_25 : Cond.fieldLink RX4 25 (TX4 5).1 (TX4 5).2.1 (TX4 5).2.2.1 ∈ jw_t := jj_in (List.mem_of_getElem? (i := 179) rfl) rfl
set_option maxRecDepth 100000 in
theorem fl_Packets_28 : Cond.fieldLink RX4 28 (TX4 0).1 (TX4 0).2.1 (TX4 0).2.2.1 ∈ jw_t := jj_in (List.mem_of_getElem? (i := 172) rfl) rfl
set_option maxRecDepth 100000 in
theorem fl_Packets_32 : Cond.fieldLink RX4 32 (TX4 6).1 (TX4 6).2.1 (TX4 6).2.2.1 ∈ jw_t := jj_in (List.mem_of_getElem? (i := 182) rfl) rfl
set_option maxRecDepth 100000 in
theorem fl_Packets_44 : Cond.fieldLink RX4 44 (TX1 3).1 (TX1 3).2.1 (TX1 3).2.2.1 ∈ jw_t := jj_in (List.mem_of_getElem? (i := 72) rfl) rfl
set_option maxRecDepth 100000 in
theorem fl_Queues_13 : Cond.fieldLink RX5 13 (TX5 1).1 (TX5 1).2.1 (TX5 1).2.2.1 ∈ jw_t := jj_in (List.mem_of_getElem? (i := 232) rfl) rfl
set_option maxRecDepth 100000 in
theorem fl_Queues_17 : Cond.fieldLink RX5 17 (TX5 2).1 (TX5 2).2.1 (TX5 2).2.2.1 ∈ jw_t := jj_in (List.mem_of_getElem? (i := 233) rfl) rfl
set_option maxRecDepth 100000 in
theorem fl_Queues_21 : Cond.fieldLink RX5 21 (TX5 3).1 (TX5 3).2.1 (TX5 3).2.2.1 ∈ jw_t := jj_in (List.mem_of_getElem? (i := 234) rfl) rfl
set_option maxRecDepth 100000 in
theorem fl_Queues_24 : Cond.fieldLink RX5 24 (TX5 4).1 (TX5 4).2.1 (TX5 4).2.2.1 ∈ jw_t := jj_in (List.mem_of_getElem? (i := 237) rfl) rfl
set_option maxRecDepth 100000 in
theorem fl_Routers_9 : Cond.fieldLink RX6 9 (TX6 9).1 (TX6 9).2.1 (TX6 9).2.2.1 ∈ jw_t := jj_in (List.mem_of_getElem? (i := 298) rfl) rfl
set_option maxRecDepth 100000 in
theorem fl_Routers_15 : Cond.fieldLink RX6 15 (TX6 0).1 (TX6 0).2.1 (TX6 0).2.2.1 ∈ jw_t := jj_in (List.mem_of_getElem? (i := 286) rfl) rfl
set_option maxRecDepth 100000 in
theorem fl_Routers_19 : Cond.fieldLink RX6 19 (TX6 1).1 (TX6 1).2.1 (TX6 1).2.2.1 ∈ jw_t := jj_in (List.mem_of_getElem? (i := 287) rfl) rfl
set_option maxRecDepth 100000 in
theorem fl_Routers_23 : Cond.fieldLink RX6 23 (TX6 2).1 (TX6 2).2.1 (TX6 2).2.2.1 ∈ jw_t := jj_in (List.mem_of_getElem? (i := 288) rfl) rfl
set_option maxRecDepth 100000 in
theorem fl_Routers_33 : Cond.fieldLink RX6 33 (TX6 3).1 (TX6 3).2.1 (TX6 3).2.2.1 ∈ jw_t := jj_in (List.mem_of_getElem? (i := 289) rfl) rfl
set_option maxRecDepth 100000 in
theorem fl_Routers_36 : Cond.fieldLink RX6 36 (TX6 4).1 (TX6 4).2.1 (TX6 4).2.2.1 ∈ jw_t := jj_in (List.mem_of_getElem? (i := 291) rfl) rfl
set_option maxRecDepth 100000 in
theorem fl_Routers_39 : Cond.fieldLink RX6 39 (TX6 5).1 (TX6 5).2.1 (TX6 5).2.2.1 ∈ jw_t := jj_in (List.mem_of_getElem? (i := 293) rfl) rfl
set_option maxRecDepth 100000 in
theorem fl_Routers_43 : Cond.fieldLink RX6 43 (TX6 6).1 (TX6 6).2.1 (TX6 6).2.2.1 ∈ jw_t := jj_in (List.mem_of_getElem? (i := 295) rfl) rfl
set_option maxRecDepth 100000 in
theorem fl_Routers_46 : Cond.fieldLink RX6 46 (TX1 5).1 (TX1 5).2.1 (TX1 5).2.2.1 ∈ jw_t := jj_in (List.mem_of_getElem? (i := 79) rfl) rfl
set_option maxRecDepth 100000 in
theorem fl_Routers_49 : Cond.fieldLink RX6 49 (TX6 7).1 (TX6 7).2.1 (TX6 7).2.2.1 ∈ jw_t := jj_in (List.mem_of_getElem? (i := 296) rfl) rfl
set_option maxRecDepth 100000 in
theorem fl_Routers_52 : Cond.fieldLink RX6 52 (TX6 8).1 (TX6 8).2.1 (TX6 8).2.2.1 ∈ jw_t := jj_in (List.mem_of_getElem? (i := 297) rfl) rfl
set_option maxRecDepth 100000 in
theorem fl_Routers_66 : Cond.fieldLink RX6 66 (TX1 4).1 (TX1 4).2.1 (TX1 4).2.2.1 ∈ jw_t := jj_in (List.mem_of_getElem? (i := 76) rfl) rfl
set_option maxRecDepth 100000 in
theorem fl_Routers_77 : Cond.fieldLink RX6 77 (TX3 4).1 (TX3 4).2.1 (TX3 4).2.2.1 ∈ jw_t := jj_in (List.mem_of_getElem? (i := 136) rfl) rfl
set_option maxRecDepth 100000 in
theorem fl_Routers_82 : Cond.fieldLink RX6 82 (TX3 5).1 (TX3 5).2.1 (TX3 5).2.2.1 ∈ jw_t := jj_in (List.mem_of_getElem? (i := 139) rfl) rfl
set_option maxRecDepth 100000 in
theorem q_Mesh_54 {R : Room} {s : State} {args : Array Value} (hts : ∀ w ∈ jw_t, w.before args s = true) {rm : Room} (h1 : rm.cells = 0) (h2 : rm.slots = 0) (hR : rm.frames + 1 ≤ R.frames ∧ 8 + (2 + 11) + rm.locals ≤ R.locals) : CallW R s args RX7 yX1_hasNode.cls 54 yX1_hasNode cX1_hasNode 2 (some .boolean) (Cond.code yX1_hasNode cX1_hasNode 2 (some .boolean) :: jw_t) rm 0 0 1 := cwV 1 hts (jj_gV jj_gT (jj_in (List.mem_of_getElem? (i := 347) rfl) rfl) (jj_in (List.mem_of_getElem? (i := 348) rfl) rfl) (jj_in (List.mem_of_getElem? (i := 349) rfl) rfl) (jj_in (List.mem_of_getElem? (i := 35) rfl) rfl) (jj_in (List.mem_of_getElem? (i := 350) rfl) rfl)) rfl h1 h2 (by decide +kernel) hR
set_option maxRecDepth 100000 in
theorem q_Mesh_58 {R : Room} {s : State} {args : Array Value} (hts : ∀ w ∈ jw_t, w.before args s = true) {rm : Room} (h1 : rm.cells = 0) (h2 : rm.slots = 0) (hR : rm.frames + 1 ≤ R.frames ∧ 8 + (1 + 11) + rm.locals ≤ R.locals) : CallB R s args RX7 58 yX7_isWord cX7_isWord 1 (some .boolean) (Cond.code yX7_isWord cX7_isWord 1 (some .boolean) :: jw_t) rm 0 0 1 ∧ (Cond.static yX7_isWord).before args s = true := va_cwS 1 hts (jj_gS jj_gT (jj_in (List.mem_of_getElem? (i := 351) rfl) rfl) (jj_in (List.mem_of_getElem? (i := 352) rfl) rfl) (jj_in (List.mem_of_getElem? (i := 34) rfl) rfl) (jj_in (List.mem_of_getElem? (i := 353) rfl) rfl)) rfl h1 h2 (by decide +kernel) hR
set_option maxRecDepth 100000 in
theorem q_Mesh_65 {R : Room} {s : State} {args : Array Value} (hts : ∀ w ∈ jw_t, w.before args s = true) {rm : Room} (h1 : rm.cells = 0) (h2 : rm.slots = 0) (hR : rm.frames + 1 ≤ R.frames ∧ 8 + (2 + 11) + rm.locals ≤ R.locals) : CallW R s args RX7 yX5_isFull.cls 65 yX5_isFull cX5_isFull 2 (some .boolean) (Cond.code yX5_isFull cX5_isFull 2 (some .boolean) :: jw_t) rm 0 0 1 := cwV 1 hts (jj_gV jj_gT (jj_in (List.mem_of_getElem? (i := 354) rfl) rfl) (jj_in (List.mem_of_getElem? (i := 355) rfl) rfl) (jj_in (List.mem_of_getElem? (i := 356) rfl) rfl) (jj_in (List.mem_of_getElem? (i := 41) rfl) rfl) (jj_in (List.mem_of_getElem? (i := 357) rfl) rfl)) rfl h1 h2 (by decide +kernel) hR
set_option maxRecDepth 100000 in
theorem q_Mesh_70 {R : Room} {s : State} {args : Array Value} (hts : ∀ w ∈ jw_t, w.before args s = true) {rm : Room} (h1 : rm.cells = 0) (h2 : rm.slots = 0) (hR : rm.frames + 1 ≤ R.frames ∧ 8 + (1 + 11) + rm.locals ≤ R.locals) : CallW R s args RX7 yX4_isFull.cls 70 yX4_isFull cX4_isFull 1 (some .boolean) (Cond.code yX4_isFull cX4_isFull 1 (some .boolean) :: jw_t) rm 0 0 0 := cwV 0 hts (jj_gV jj_gT (jj_in (List.mem_of_getElem? (i := 358) rfl) rfl) (jj_in (List.mem_of_getElem? (i := 359) rfl) rfl) (jj_in (List.mem_of_getElem? (i := 360) rfl) rfl) (jj_in (List.mem_of_getElem? (i := 38) rfl) rfl) (jj_in (List.mem_of_getElem? (i := 361) rfl) rfl)) rfl h1 h2 (by decide +kernel) hR
set_option maxRecDepth 100000 in
theorem q_Mesh_73 {R : Room} {s : State} {args : Array Value} (hts : ∀ w ∈ jw_t, w.before args s = true) {rm : Room} (h1 : rm.cells = 0) (h2 : rm.slots = 0) (hR : rm.frames + 1 ≤ R.frames ∧ 8 + (7 + 11) + rm.locals ≤ R.locals) : CallW R s args RX7 yX4_add.cls 73 yX4_add cX4_add 7 (some .int) (Cond.code yX4_add cX4_add 7 (some .int) :: jw_t) rm 0 0 5 := cwV 5 hts (jj_gV jj_gT (jj_in (List.mem_of_getElem? (i := 362) rfl) rfl) (jj_in (List.mem_of_getElem? (i := 363) rfl) rfl) (jj_in (List.mem_of_getElem? (i := 364) rfl) rfl) (jj_in (List.mem_of_getElem? (i := 38) rfl) rfl) (jj_in (List.mem_of_getElem? (i := 365) rfl) rfl)) rfl h1 h2 (by decide +kernel) hR
set_option maxRecDepth 100000 in
theorem q_Mesh_77 {R : Room} {s : State} {args : Array Value} (hts : ∀ w ∈ jw_t, w.before args s = true) {rm : Room} (h1 : rm.cells = 0) (h2 : rm.slots = 0) (hR : rm.frames + 1 ≤ R.frames ∧ 8 + (3 + 11) + rm.locals ≤ R.locals) : CallW R s args RX7 yX5_add.cls 77 yX5_add cX5_add 3 none (Cond.code yX5_add cX5_add 3 none :: jw_t) rm 0 0 2 := cwV 2 hts (jj_gV jj_gT (jj_in (List.mem_of_getElem? (i := 366) rfl) rfl) (jj_in (List.mem_of_getElem? (i := 367) rfl) rfl) (jj_in (List.mem_of_getElem? (i := 368) rfl) rfl) (jj_in (List.mem_of_getElem? (i := 41) rfl) rfl) (jj_in (List.mem_of_getElem? (i := 369) rfl) rfl)) rfl h1 h2 (by decide +kernel) hR
set_option maxRecDepth 100000 in
theorem q_Mesh_93 {R : Room} {s : State} {args : Array Value} (hts : ∀ w ∈ jw_t, w.before args s = true) {rm : Room} (h1 : rm.cells = 0) (h2 : rm.slots = 0) (hR : rm.frames + 1 ≤ R.frames ∧ 8 + (1 + 11) + rm.locals ≤ R.locals) : CallW R s args RX7 yX7_tick.cls 93 yX7_tick cX7_tick 1 none (Cond.code yX7_tick cX7_tick 1 none :: jw_t) rm 0 0 0 := cwV 0 hts (jj_gV jj_gT (jj_in (List.mem_of_getElem? (i := 378) rfl) rfl) (jj_in (List.mem_of_getElem? (i := 380) rfl) rfl) (jj_in (List.mem_of_getElem? (i := 1) rfl) rfl) (jj_in (List.mem_of_getElem? (i := 34) rfl) rfl) (jj_in (List.mem_of_getElem? (i := 381) rfl) rfl)) rfl h1 h2 (by decide +kernel) hR
set_option maxRecDepth 100000 in
theorem q_Mesh_116 {R : Room} {s : State} {args : Array Value} (hts : ∀ w ∈ jw_t, w.before args s = true) {rm : Room} (h1 : rm.cells = 0) (h2 : rm.slots = 0) (hR : rm.frames + 1 ≤ R.frames ∧ 8 + (4 + 11) + rm.locals ≤ R.locals) : CallW R s args RX7 yX7_isRouterPlace.cls 116 yX7_isRouterPlace cX7_isRouterPlace 4 (some .boolean) (Cond.code yX7_isRouterPlace cX7_isRouterPlace 4 (some .boolean) :: jw_t) rm 0 0 3 := cwV 3 hts (jj_gV jj_gT (jj_in (List.mem_of_getElem? (i := 531) rfl) rfl) (jj_in (List.mem_of_getElem? (i := 533) rfl) rfl) (jj_in (List.mem_of_getElem? (i := 12) rfl) rfl) (jj_in (List.mem_of_getElem? (i := 34) rfl) rfl) (jj_in (List.mem_of_getElem? (i := 534) rfl) rfl)) rfl h1 h2 (by decide +kernel) hR
set_option maxRecDepth 100000 in
theorem q_Mesh_120 {R : Room} {s : State} {args : Array Value} (hts : ∀ w ∈ jw_t, w.before args s = true) {rm : Room} (h1 : rm.cells = 0) (h2 : rm.slots = 0) (hR : rm.frames + 1 ≤ R.frames ∧ 8 + (4 + 11) + rm.locals ≤ R.locals) : CallW R s args RX7 yX1_slot.cls 120 yX1_slot cX1_slot 4 (some .int) (Cond.code yX1_slot cX1_slot 4 (some .int) :: jw_t) rm 0 0 3 := cwV 3 hts (jj_gV jj_gT (jj_in (List.mem_of_getElem? (i := 539) rfl) rfl) (jj_in (List.mem_of_getElem? (i := 107) rfl) rfl) (jj_in (List.mem_of_getElem? (i := 108) rfl) rfl) (jj_in (List.mem_of_getElem? (i := 35) rfl) rfl) (jj_in (List.mem_of_getElem? (i := 109) rfl) rfl)) rfl h1 h2 (by decide +kernel) hR
set_option maxRecDepth 100000 in
theorem q_Mesh_137 {R : Room} {s : State} {args : Array Value} (hts : ∀ w ∈ jw_t, w.before args s = true) {rm : Room} (h1 : rm.cells = 0) (h2 : rm.slots = 0) (hR : rm.frames + 1 ≤ R.frames ∧ 8 + (2 + 11) + rm.locals ≤ R.locals) : CallW R s args RX7 yX1_hasChannel.cls 137 yX1_hasChannel cX1_hasChannel 2 (some .boolean) (Cond.code yX1_hasChannel cX1_hasChannel 2 (some .boolean) :: jw_t) rm 0 0 1 := cwV 1 hts (jj_gV jj_gT (jj_in (List.mem_of_getElem? (i := 535) rfl) rfl) (jj_in (List.mem_of_getElem? (i := 536) rfl) rfl) (jj_in (List.mem_of_getElem? (i := 537) rfl) rfl) (jj_in (List.mem_of_getElem? (i := 35) rfl) rfl) (jj_in (List.mem_of_getElem? (i := 538) rfl) rfl)) rfl h1 h2 (by decide +kernel) hR
set_option maxRecDepth 100000 in
theorem q_Mesh_143 {R : Room} {s : State} {args : Array Value} (hts : ∀ w ∈ jw_t, w.before args s = true) {rm : Room} (h1 : rm.cells = 0) (h2 : rm.slots = 0) (hR : rm.frames + 1 ≤ R.frames ∧ 8 + (2 + 11) + rm.locals ≤ R.locals) : CallW R s args RX7 yX3_arriveAll.cls 143 yX3_arriveAll cX3_arriveAll 2 none (Cond.code yX3_arriveAll cX3_arriveAll 2 none :: jw_t) rm 0 0 0 := cwV 0 hts (jj_gV jj_gT (jj_in (List.mem_of_getElem? (i := 382) rfl) rfl) (jj_in (List.mem_of_getElem? (i := 383) rfl) rfl) (jj_in (List.mem_of_getElem? (i := 384) rfl) rfl) (jj_in (List.mem_of_getElem? (i := 37) rfl) rfl) (jj_in (List.mem_of_getElem? (i := 385) rfl) rfl)) rfl h1 h2 (by decide +kernel) hR
set_option maxRecDepth 100000 in
theorem q_Mesh_146 {R : Room} {s : State} {args : Array Value} (hts : ∀ w ∈ jw_t, w.before args s = true) {rm : Room} (h1 : rm.cells = 0) (h2 : rm.slots = 0) (hR : rm.frames + 1 ≤ R.frames ∧ 8 + (5 + 11) + rm.locals ≤ R.locals) : CallW R s args RX7 yX2_takeAll.cls 146 yX2_takeAll cX2_takeAll 5 none (Cond.code yX2_takeAll cX2_takeAll 5 none :: jw_t) rm 0 0 1 := cwV 1 hts (jj_gV jj_gT (jj_in (List.mem_of_getElem? (i := 386) rfl) rfl) (jj_in (List.mem_of_getElem? (i := 387) rfl) rfl) (jj_in (List.mem_of_getElem? (i := 388) rfl) rfl) (jj_in (List.mem_of_getElem? (i := 39) rfl) rfl) (jj_in (List.mem_of_getElem? (i := 389) rfl) rfl)) rfl h1 h2 (by decide +kernel) hR
set_option maxRecDepth 100000 in
theorem q_Mesh_150 {R : Room} {s : State} {args : Array Value} (hts : ∀ w ∈ jw_t, w.before args s = true) {rm : Room} (h1 : rm.cells = 0) (h2 : rm.slots = 0) (hR : rm.frames + 1 ≤ R.frames ∧ 8 + (2 + 11) + rm.locals ≤ R.locals) : CallW R s args RX7 yX2_sendAll.cls 150 yX2_sendAll cX2_sendAll 2 none (Cond.code yX2_sendAll cX2_sendAll 2 none :: jw_t) rm 0 0 0 := cwV 0 hts (jj_gV jj_gT (jj_in (List.mem_of_getElem? (i := 427) rfl) rfl) (jj_in (List.mem_of_getElem? (i := 428) rfl) rfl) (jj_in (List.mem_of_getElem? (i := 429) rfl) rfl) (jj_in (List.mem_of_getElem? (i := 39) rfl) rfl) (jj_in (List.mem_of_getElem? (i := 430) rfl) rfl)) rfl h1 h2 (by decide +kernel) hR
set_option maxRecDepth 100000 in
theorem q_Mesh_153 {R : Room} {s : State} {args : Array Value} (hts : ∀ w ∈ jw_t, w.before args s = true) {rm : Room} (h1 : rm.cells = 0) (h2 : rm.slots = 0) (hR : rm.frames + 1 ≤ R.frames ∧ 8 + (4 + 11) + rm.locals ≤ R.locals) : CallW R s args RX7 yX6_moveAll.cls 153 yX6_moveAll cX6_moveAll 4 none (Cond.code yX6_moveAll cX6_moveAll 4 none :: jw_t) rm 0 0 0 := cwV 0 hts (jj_gV jj_gT (jj_in (List.mem_of_getElem? (i := 458) rfl) rfl) (jj_in (List.mem_of_getElem? (i := 459) rfl) rfl) (jj_in (List.mem_of_getElem? (i := 460) rfl) rfl) (jj_in (List.mem_of_getElem? (i := 42) rfl) rfl) (jj_in (List.mem_of_getElem? (i := 461) rfl) rfl)) rfl h1 h2 (by decide +kernel) hR
set_option maxRecDepth 100000 in
theorem q_Mesh_156 {R : Room} {s : State} {args : Array Value} (hts : ∀ w ∈ jw_t, w.before args s = true) {rm : Room} (h1 : rm.cells = 0) (h2 : rm.slots = 0) (hR : rm.frames + 1 ≤ R.frames ∧ 8 + (5 + 11) + rm.locals ≤ R.locals) : CallW R s args RX7 yX6_grantAll.cls 156 yX6_grantAll cX6_grantAll 5 none (Cond.code yX6_grantAll cX6_grantAll 5 none :: jw_t) rm 0 0 0 := cwV 0 hts (jj_gV jj_gT (jj_in (List.mem_of_getElem? (i := 482) rfl) rfl) (jj_in (List.mem_of_getElem? (i := 483) rfl) rfl) (jj_in (List.mem_of_getElem? (i := 484) rfl) rfl) (jj_in (List.mem_of_getElem? (i := 42) rfl) rfl) (jj_in (List.mem_of_getElem? (i := 485) rfl) rfl)) rfl h1 h2 (by decide +kernel) hR
set_option maxRecDepth 100000 in
theorem q_Mesh_159 {R : Room} {s : State} {args : Array Value} (hts : ∀ w ∈ jw_t, w.before args s = true) {rm : Room} (h1 : rm.cells = 0) (h2 : rm.slots = 0) (hR : rm.frames + 1 ≤ R.frames ∧ 8 + (5 + 11) + rm.locals ≤ R.locals) : CallW R s args RX7 yX6_routeAll.cls 159 yX6_routeAll cX6_routeAll 5 none (Cond.code yX6_routeAll cX6_routeAll 5 none :: jw_t) rm 0 0 0 := cwV 0 hts (jj_gV jj_gT (jj_in (List.mem_of_getElem? (i := 490) rfl) rfl) (jj_in (List.mem_of_getElem? (i := 491) rfl) rfl) (jj_in (List.mem_of_getElem? (i := 492) rfl) rfl) (jj_in (List.mem_of_getElem? (i := 42) rfl) rfl) (jj_in (List.mem_of_getElem? (i := 493) rfl) rfl)) rfl h1 h2 (by decide +kernel) hR
set_option maxRecDepth 100000 in
theorem q_Ifs_59 {R : Room} {s : State} {args : Array Value} (hts : ∀ w ∈ jw_t, w.before args s = true) {rm : Room} (h1 : rm.cells = 0) (h2 : rm.slots = 0) (hR : rm.frames + 1 ≤ R.frames ∧ 8 + (4 + 11) + rm.locals ≤ R.locals) : CallW R s args RX2 yX1_slot.cls 59 yX1_slot cX1_slot 4 (some .int) (Cond.code yX1_slot cX1_slot 4 (some .int) :: jw_t) rm 0 0 3 := cwV 3 hts (jj_gV jj_gT (jj_in (List.mem_of_getElem? (i := 390) rfl) rfl) (jj_in (List.mem_of_getElem? (i := 107) rfl) rfl) (jj_in (List.mem_of_getElem? (i := 108) rfl) rfl) (jj_in (List.mem_of_getElem? (i := 35) rfl) rfl) (jj_in (List.mem_of_getElem? (i := 109) rfl) rfl)) rfl h1 h2 (by decide +kernel) hR
set_option maxRecDepth 100000 in
theorem q_Ifs_68 {R : Room} {s : State} {args : Array Value} (hts : ∀ w ∈ jw_t, w.before args s = true) {rm : Room} (h1 : rm.cells = 0) (h2 : rm.slots = 0) (hR : rm.frames + 1 ≤ R.frames ∧ 8 + (2 + 11) + rm.locals ≤ R.locals) : CallW R s args RX2 yX3_firstFlit.cls 68 yX3_firstFlit cX3_firstFlit 2 (some .int) (Cond.code yX3_firstFlit cX3_firstFlit 2 (some .int) :: jw_t) rm 0 0 1 := cwV 1 hts (jj_gV jj_gT (jj_in (List.mem_of_getElem? (i := 391) rfl) rfl) (jj_in (List.mem_of_getElem? (i := 392) rfl) rfl) (jj_in (List.mem_of_getElem? (i := 393) rfl) rfl) (jj_in (List.mem_of_getElem? (i := 37) rfl) rfl) (jj_in (List.mem_of_getElem? (i := 394) rfl) rfl)) rfl h1 h2 (by decide +kernel) hR
set_option maxRecDepth 100000 in
theorem q_Ifs_72 {R : Room} {s : State} {args : Array Value} (hts : ∀ w ∈ jw_t, w.before args s = true) {rm : Room} (h1 : rm.cells = 0) (h2 : rm.slots = 0) (hR : rm.frames + 1 ≤ R.frames ∧ 8 + (3 + 11) + rm.locals ≤ R.locals) : CallW R s args RX2 yX2_mayTake.cls 72 yX2_mayTake cX2_mayTake 3 (some .boolean) (Cond.code yX2_mayTake cX2_mayTake 3 (some .boolean) :: jw_t) rm 0 0 2 := cwV 2 hts (jj_gV jj_gT (jj_in (List.mem_of_getElem? (i := 395) rfl) rfl) (jj_in (List.mem_of_getElem? (i := 397) rfl) rfl) (jj_in (List.mem_of_getElem? (i := 2) rfl) rfl) (jj_in (List.mem_of_getElem? (i := 39) rfl) rfl) (jj_in (List.mem_of_getElem? (i := 398) rfl) rfl)) rfl h1 h2 (by decide +kernel) hR
set_option maxRecDepth 100000 in
theorem q_Ifs_76 {R : Room} {s : State} {args : Array Value} (hts : ∀ w ∈ jw_t, w.before args s = true) {rm : Room} (h1 : rm.cells = 0) (h2 : rm.slots = 0) (hR : rm.frames + 1 ≤ R.frames ∧ 8 + (3 + 11) + rm.locals ≤ R.locals) : CallW R s args RX2 yX3_takeOut.cls 76 yX3_takeOut cX3_takeOut 3 (some .int) (Cond.code yX3_takeOut cX3_takeOut 3 (some .int) :: jw_t) rm 0 0 1 := cwV 1 hts (jj_gV jj_gT (jj_in (List.mem_of_getElem? (i := 406) rfl) rfl) (jj_in (List.mem_of_getElem? (i := 407) rfl) rfl) (jj_in (List.mem_of_getElem? (i := 408) rfl) rfl) (jj_in (List.mem_of_getElem? (i := 37) rfl) rfl) (jj_in (List.mem_of_getElem? (i := 409) rfl) rfl)) rfl h1 h2 (by decide +kernel) hR
set_option maxRecDepth 100000 in
theorem q_Ifs_79 {R : Room} {s : State} {args : Array Value} (hts : ∀ w ∈ jw_t, w.before args s = true) {rm : Room} (h1 : rm.cells = 0) (h2 : rm.slots = 0) (hR : rm.frames + 1 ≤ R.frames ∧ 8 + (5 + 11) + rm.locals ≤ R.locals) : CallW R s args RX2 yX2_accept.cls 79 yX2_accept cX2_accept 5 none (Cond.code yX2_accept cX2_accept 5 none :: jw_t) rm 0 0 3 := cwV 3 hts (jj_gV jj_gT (jj_in (List.mem_of_getElem? (i := 411) rfl) rfl) (jj_in (List.mem_of_getElem? (i := 413) rfl) rfl) (jj_in (List.mem_of_getElem? (i := 3) rfl) rfl) (jj_in (List.mem_of_getElem? (i := 39) rfl) rfl) (jj_in (List.mem_of_getElem? (i := 414) rfl) rfl)) rfl h1 h2 (by decide +kernel) hR
set_option maxRecDepth 100000 in
theorem q_Ifs_83 {R : Room} {s : State} {args : Array Value} (hts : ∀ w ∈ jw_t, w.before args s = true) {rm : Room} (h1 : rm.cells = 0) (h2 : rm.slots = 0) (hR : rm.frames + 1 ≤ R.frames ∧ 8 + (1 + 11) + rm.locals ≤ R.locals) : CallB R s args RX2 83 yX4_isOfReply cX4_isOfReply 1 (some .boolean) (Cond.code yX4_isOfReply cX4_isOfReply 1 (some .boolean) :: jw_t) rm 0 0 1 ∧ (Cond.static yX4_isOfReply).before args s = true := va_cwS 1 hts (jj_gS jj_gT (jj_in (List.mem_of_getElem? (i := 399) rfl) rfl) (jj_in (List.mem_of_getElem? (i := 400) rfl) rfl) (jj_in (List.mem_of_getElem? (i := 38) rfl) rfl) (jj_in (List.mem_of_getElem? (i := 401) rfl) rfl)) rfl h1 h2 (by decide +kernel) hR
set_option maxRecDepth 100000 in
theorem q_Ifs_89 {R : Room} {s : State} {args : Array Value} (hts : ∀ w ∈ jw_t, w.before args s = true) {rm : Room} (h1 : rm.cells = 0) (h2 : rm.slots = 0) (hR : rm.frames + 1 ≤ R.frames ∧ 8 + (1 + 11) + rm.locals ≤ R.locals) : CallB R s args RX2 89 yX4_isLast cX4_isLast 1 (some .boolean) (Cond.code yX4_isLast cX4_isLast 1 (some .boolean) :: jw_t) rm 0 0 1 ∧ (Cond.static yX4_isLast).before args s = true := va_cwS 1 hts (jj_gS jj_gT (jj_in (List.mem_of_getElem? (i := 402) rfl) rfl) (jj_in (List.mem_of_getElem? (i := 403) rfl) rfl) (jj_in (List.mem_of_getElem? (i := 38) rfl) rfl) (jj_in (List.mem_of_getElem? (i := 404) rfl) rfl)) rfl h1 h2 (by decide +kernel) hR
set_option maxRecDepth 100000 in
theorem q_Ifs_92 {R : Room} {s : State} {args : Array Value} (hts : ∀ w ∈ jw_t, w.before args s = true) {rm : Room} (h1 : rm.cells = 0) (h2 : rm.slots = 0) (hR : rm.frames + 1 ≤ R.frames ∧ 8 + (2 + 11) + rm.locals ≤ R.locals) : CallW R s args RX2 yX5_isFull.cls 92 yX5_isFull cX5_isFull 2 (some .boolean) (Cond.code yX5_isFull cX5_isFull 2 (some .boolean) :: jw_t) rm 0 0 1 := cwV 1 hts (jj_gV jj_gT (jj_in (List.mem_of_getElem? (i := 405) rfl) rfl) (jj_in (List.mem_of_getElem? (i := 355) rfl) rfl) (jj_in (List.mem_of_getElem? (i := 356) rfl) rfl) (jj_in (List.mem_of_getElem? (i := 41) rfl) rfl) (jj_in (List.mem_of_getElem? (i := 357) rfl) rfl)) rfl h1 h2 (by decide +kernel) hR
set_option maxRecDepth 100000 in
theorem q_Ifs_95 {R : Room} {s : State} {args : Array Value} (hts : ∀ w ∈ jw_t, w.before args s = true) {rm : Room} (h1 : rm.cells = 0) (h2 : rm.slots = 0) (hR : rm.frames + 1 ≤ R.frames ∧ 8 + (1 + 11) + rm.locals ≤ R.locals) : CallB R s args RX2 95 yX4_number cX4_number 1 (some .int) (Cond.code yX4_number cX4_number 1 (some .int) :: jw_t) rm 0 0 1 ∧ (Cond.static yX4_number).before args s = true := va_cwS 1 hts (jj_gS jj_gT (jj_in (List.mem_of_getElem? (i := 415) rfl) rfl) (jj_in (List.mem_of_getElem? (i := 416) rfl) rfl) (jj_in (List.mem_of_getElem? (i := 38) rfl) rfl) (jj_in (List.mem_of_getElem? (i := 417) rfl) rfl)) rfl h1 h2 (by decide +kernel) hR
set_option maxRecDepth 100000 in
theorem q_Ifs_98 {R : Room} {s : State} {args : Array Value} (hts : ∀ w ∈ jw_t, w.before args s = true) {rm : Room} (h1 : rm.cells = 0) (h2 : rm.slots = 0) (hR : rm.frames + 1 ≤ R.frames ∧ 8 + (3 + 11) + rm.locals ≤ R.locals) : CallW R s args RX2 yX0_add.cls 98 yX0_add cX0_add 3 none (Cond.code yX0_add cX0_add 3 none :: jw_t) rm 0 0 2 := cwV 2 hts (jj_gV jj_gT (jj_in (List.mem_of_getElem? (i := 418) rfl) rfl) (jj_in (List.mem_of_getElem? (i := 419) rfl) rfl) (jj_in (List.mem_of_getElem? (i := 420) rfl) rfl) (jj_in (List.mem_of_getElem? (i := 40) rfl) rfl) (jj_in (List.mem_of_getElem? (i := 421) rfl) rfl)) rfl h1 h2 (by decide +kernel) hR
set_option maxRecDepth 100000 in
theorem q_Ifs_102 {R : Room} {s : State} {args : Array Value} (hts : ∀ w ∈ jw_t, w.before args s = true) {rm : Room} (h1 : rm.cells = 0) (h2 : rm.slots = 0) (hR : rm.frames + 1 ≤ R.frames ∧ 8 + (5 + 11) + rm.locals ≤ R.locals) : CallW R s args RX2 yX2_serve.cls 102 yX2_serve cX2_serve 5 none (Cond.code yX2_serve cX2_serve 5 none :: jw_t) rm 0 0 2 := cwV 2 hts (jj_gV jj_gT (jj_in (List.mem_of_getElem? (i := 422) rfl) rfl) (jj_in (List.mem_of_getElem? (i := 424) rfl) rfl) (jj_in (List.mem_of_getElem? (i := 4) rfl) rfl) (jj_in (List.mem_of_getElem? (i := 39) rfl) rfl) (jj_in (List.mem_of_getElem? (i := 425) rfl) rfl)) rfl h1 h2 (by decide +kernel) hR
set_option maxRecDepth 100000 in
theorem q_Ifs_105 {R : Room} {s : State} {args : Array Value} (hts : ∀ w ∈ jw_t, w.before args s = true) {rm : Room} (h1 : rm.cells = 0) (h2 : rm.slots = 0) (hR : rm.frames + 1 ≤ R.frames ∧ 8 + (3 + 11) + rm.locals ≤ R.locals) : CallW R s args RX2 yX5_add.cls 105 yX5_add cX5_add 3 none (Cond.code yX5_add cX5_add 3 none :: jw_t) rm 0 0 2 := cwV 2 hts (jj_gV jj_gT (jj_in (List.mem_of_getElem? (i := 426) rfl) rfl) (jj_in (List.mem_of_getElem? (i := 367) rfl) rfl) (jj_in (List.mem_of_getElem? (i := 368) rfl) rfl) (jj_in (List.mem_of_getElem? (i := 41) rfl) rfl) (jj_in (List.mem_of_getElem? (i := 369) rfl) rfl)) rfl h1 h2 (by decide +kernel) hR
set_option maxRecDepth 100000 in
theorem q_Ifs_115 {R : Room} {s : State} {args : Array Value} (hts : ∀ w ∈ jw_t, w.before args s = true) {rm : Room} (h1 : rm.cells = 0) (h2 : rm.slots = 0) (hR : rm.frames + 1 ≤ R.frames ∧ 8 + (7 + 11) + rm.locals ≤ R.locals) : CallW R s args RX2 yX2_sendFirst.cls 115 yX2_sendFirst cX2_sendFirst 7 (some .boolean) (Cond.code yX2_sendFirst cX2_sendFirst 7 (some .boolean) :: jw_t) rm 0 0 2 := cwV 2 hts (jj_gV jj_gT (jj_in (List.mem_of_getElem? (i := 431) rfl) rfl) (jj_in (List.mem_of_getElem? (i := 433) rfl) rfl) (jj_in (List.mem_of_getElem? (i := 5) rfl) rfl) (jj_in (List.mem_of_getElem? (i := 39) rfl) rfl) (jj_in (List.mem_of_getElem? (i := 434) rfl) rfl)) rfl h1 h2 (by decide +kernel) hR
set_option maxRecDepth 100000 in
theorem q_Ifs_120 {R : Room} {s : State} {args : Array Value} (hts : ∀ w ∈ jw_t, w.before args s = true) {rm : Room} (h1 : rm.cells = 0) (h2 : rm.slots = 0) (hR : rm.frames + 1 ≤ R.frames ∧ 8 + (2 + 11) + rm.locals ≤ R.locals) : CallW R s args RX2 yX5_firstNumber.cls 120 yX5_firstNumber cX5_firstNumber 2 (some .int) (Cond.code yX5_firstNumber cX5_firstNumber 2 (some .int) :: jw_t) rm 0 0 1 := cwV 1 hts (jj_gV jj_gT (jj_in (List.mem_of_getElem? (i := 435) rfl) rfl) (jj_in (List.mem_of_getElem? (i := 436) rfl) rfl) (jj_in (List.mem_of_getElem? (i := 437) rfl) rfl) (jj_in (List.mem_of_getElem? (i := 41) rfl) rfl) (jj_in (List.mem_of_getElem? (i := 438) rfl) rfl)) rfl h1 h2 (by decide +kernel) hR
set_option maxRecDepth 100000 in
theorem q_Ifs_127 {R : Room} {s : State} {args : Array Value} (hts : ∀ w ∈ jw_t, w.before args s = true) {rm : Room} (h1 : rm.cells = 0) (h2 : rm.slots = 0) (hR : rm.frames + 1 ≤ R.frames ∧ 8 + (4 + 11) + rm.locals ≤ R.locals) : CallW R s args RX2 yX4_channel.cls 127 yX4_channel cX4_channel 4 (some .int) (Cond.code yX4_channel cX4_channel 4 (some .int) :: jw_t) rm 0 0 2 := cwV 2 hts (jj_gV jj_gT (jj_in (List.mem_of_getElem? (i := 439) rfl) rfl) (jj_in (List.mem_of_getElem? (i := 440) rfl) rfl) (jj_in (List.mem_of_getElem? (i := 441) rfl) rfl) (jj_in (List.mem_of_getElem? (i := 38) rfl) rfl) (jj_in (List.mem_of_getElem? (i := 442) rfl) rfl)) rfl h1 h2 (by decide +kernel) hR
set_option maxRecDepth 100000 in
theorem q_Ifs_137 {R : Room} {s : State} {args : Array Value} (hts : ∀ w ∈ jw_t, w.before args s = true) {rm : Room} (h1 : rm.cells = 0) (h2 : rm.slots = 0) (hR : rm.frames + 1 ≤ R.frames ∧ 8 + (3 + 11) + rm.locals ≤ R.locals) : CallW R s args RX2 yX4_length.cls 137 yX4_length cX4_length 3 (some .int) (Cond.code yX4_length cX4_length 3 (some .int) :: jw_t) rm 0 0 2 := cwV 2 hts (jj_gV jj_gT (jj_in (List.mem_of_getElem? (i := 443) rfl) rfl) (jj_in (List.mem_of_getElem? (i := 444) rfl) rfl) (jj_in (List.mem_of_getElem? (i := 445) rfl) rfl) (jj_in (List.mem_of_getElem? (i := 38) rfl) rfl) (jj_in (List.mem_of_getElem? (i := 446) rfl) rfl)) rfl h1 h2 (by decide +kernel) hR
set_option maxRecDepth 100000 in
theorem q_Ifs_140 {R : Room} {s : State} {args : Array Value} (hts : ∀ w ∈ jw_t, w.before args s = true) {rm : Room} (h1 : rm.cells = 0) (h2 : rm.slots = 0) (hR : rm.frames + 1 ≤ R.frames ∧ 8 + (3 + 11) + rm.locals ≤ R.locals) : CallB R s args RX2 140 yX4_flit cX4_flit 3 (some .int) (Cond.code yX4_flit cX4_flit 3 (some .int) :: jw_t) rm 0 0 3 ∧ (Cond.static yX4_flit).before args s = true := va_cwS 3 hts (jj_gS jj_gT (jj_in (List.mem_of_getElem? (i := 447) rfl) rfl) (jj_in (List.mem_of_getElem? (i := 448) rfl) rfl) (jj_in (List.mem_of_getElem? (i := 38) rfl) rfl) (jj_in (List.mem_of_getElem? (i := 449) rfl) rfl)) rfl h1 h2 (by decide +kernel) hR
set_option maxRecDepth 100000 in
theorem q_Ifs_144 {R : Room} {s : State} {args : Array Value} (hts : ∀ w ∈ jw_t, w.before args s = true) {rm : Room} (h1 : rm.cells = 0) (h2 : rm.slots = 0) (hR : rm.frames + 1 ≤ R.frames ∧ 8 + (3 + 11) + rm.locals ≤ R.locals) : CallW R s args RX2 yX3_send.cls 144 yX3_send cX3_send 3 none (Cond.code yX3_send cX3_send 3 none :: jw_t) rm 0 0 2 := cwV 2 hts (jj_gV jj_gT (jj_in (List.mem_of_getElem? (i := 450) rfl) rfl) (jj_in (List.mem_of_getElem? (i := 451) rfl) rfl) (jj_in (List.mem_of_getElem? (i := 452) rfl) rfl) (jj_in (List.mem_of_getElem? (i := 37) rfl) rfl) (jj_in (List.mem_of_getElem? (i := 453) rfl) rfl)) rfl h1 h2 (by decide +kernel) hR
set_option maxRecDepth 100000 in
theorem q_Ifs_147 {R : Room} {s : State} {args : Array Value} (hts : ∀ w ∈ jw_t, w.before args s = true) {rm : Room} (h1 : rm.cells = 0) (h2 : rm.slots = 0) (hR : rm.frames + 1 ≤ R.frames ∧ 8 + (4 + 11) + rm.locals ≤ R.locals) : CallW R s args RX2 yX5_removeFirst.cls 147 yX5_removeFirst cX5_removeFirst 4 none (Cond.code yX5_removeFirst cX5_removeFirst 4 none :: jw_t) rm 0 0 1 := cwV 1 hts (jj_gV jj_gT (jj_in (List.mem_of_getElem? (i := 454) rfl) rfl) (jj_in (List.mem_of_getElem? (i := 455) rfl) rfl) (jj_in (List.mem_of_getElem? (i := 456) rfl) rfl) (jj_in (List.mem_of_getElem? (i := 41) rfl) rfl) (jj_in (List.mem_of_getElem? (i := 457) rfl) rfl)) rfl h1 h2 (by decide +kernel) hR
set_option maxRecDepth 100000 in
theorem q_Links_59 {R : Room} {s : State} {args : Array Value} (hts : ∀ w ∈ jw_t, w.before args s = true) {rm : Room} (h1 : rm.cells = 0) (h2 : rm.slots = 0) (hR : rm.frames + 1 ≤ R.frames ∧ 8 + (2 + 11) + rm.locals ≤ R.locals) : CallW R s args RX3 yX3_firstFlit.cls 59 yX3_firstFlit cX3_firstFlit 2 (some .int) (Cond.code yX3_firstFlit cX3_firstFlit 2 (some .int) :: jw_t) rm 0 0 1 := cwV 1 hts (jj_gV jj_gT (jj_in (List.mem_of_getElem? (i := 410) rfl) rfl) (jj_in (List.mem_of_getElem? (i := 392) rfl) rfl) (jj_in (List.mem_of_getElem? (i := 393) rfl) rfl) (jj_in (List.mem_of_getElem? (i := 37) rfl) rfl) (jj_in (List.mem_of_getElem? (i := 394) rfl) rfl)) rfl h1 h2 (by decide +kernel) hR
set_option maxRecDepth 100000 in
theorem q_Packets_36 {R : Room} {s : State} {args : Array Value} (hts : ∀ w ∈ jw_t, w.before args s = true) {rm : Room} (h1 : rm.cells = 0) (h2 : rm.slots = 0) (hR : rm.frames + 1 ≤ R.frames ∧ 8 + (1 + 11) + rm.locals ≤ R.locals) : CallB R s args RX4 36 yX4_isOfReply cX4_isOfReply 1 (some .boolean) (Cond.code yX4_isOfReply cX4_isOfReply 1 (some .boolean) :: jw_t) rm 0 0 1 ∧ (Cond.static yX4_isOfReply).before args s = true := va_cwS 1 hts (jj_gS jj_gT (jj_in (List.mem_of_getElem? (i := 499) rfl) rfl) (jj_in (List.mem_of_getElem? (i := 400) rfl) rfl) (jj_in (List.mem_of_getElem? (i := 38) rfl) rfl) (jj_in (List.mem_of_getElem? (i := 401) rfl) rfl)) rfl h1 h2 (by decide +kernel) hR
set_option maxRecDepth 100000 in
theorem q_Packets_40 {R : Room} {s : State} {args : Array Value} (hts : ∀ w ∈ jw_t, w.before args s = true) {rm : Room} (h1 : rm.cells = 0) (h2 : rm.slots = 0) (hR : rm.frames + 1 ≤ R.frames ∧ 8 + (1 + 11) + rm.locals ≤ R.locals) : CallB R s args RX4 40 yX4_number cX4_number 1 (some .int) (Cond.code yX4_number cX4_number 1 (some .int) :: jw_t) rm 0 0 1 ∧ (Cond.static yX4_number).before args s = true := va_cwS 1 hts (jj_gS jj_gT (jj_in (List.mem_of_getElem? (i := 500) rfl) rfl) (jj_in (List.mem_of_getElem? (i := 416) rfl) rfl) (jj_in (List.mem_of_getElem? (i := 38) rfl) rfl) (jj_in (List.mem_of_getElem? (i := 417) rfl) rfl)) rfl h1 h2 (by decide +kernel) hR
set_option maxRecDepth 100000 in
theorem q_Routers_55 {R : Room} {s : State} {args : Array Value} (hts : ∀ w ∈ jw_t, w.before args s = true) {rm : Room} (h1 : rm.cells = 0) (h2 : rm.slots = 0) (hR : rm.frames + 1 ≤ R.frames ∧ 8 + (6 + 11) + rm.locals ≤ R.locals) : CallW R s args RX6 yX6_readyChannel.cls 55 yX6_readyChannel cX6_readyChannel 6 (some .int) (Cond.code yX6_readyChannel cX6_readyChannel 6 (some .int) :: jw_t) rm 0 0 2 := cwV 2 hts (jj_gV jj_gT (jj_in (List.mem_of_getElem? (i := 462) rfl) rfl) (jj_in (List.mem_of_getElem? (i := 464) rfl) rfl) (jj_in (List.mem_of_getElem? (i := 6) rfl) rfl) (jj_in (List.mem_of_getElem? (i := 42) rfl) rfl) (jj_in (List.mem_of_getElem? (i := 465) rfl) rfl)) rfl h1 h2 (by decide +kernel) hR
set_option maxRecDepth 100000 in
theorem q_Routers_59 {R : Room} {s : State} {args : Array Value} (hts : ∀ w ∈ jw_t, w.before args s = true) {rm : Room} (h1 : rm.cells = 0) (h2 : rm.slots = 0) (hR : rm.frames + 1 ≤ R.frames ∧ 8 + (6 + 11) + rm.locals ≤ R.locals) : CallW R s args RX6 yX6_chosenPort.cls 59 yX6_chosenPort cX6_chosenPort 6 (some .int) (Cond.code yX6_chosenPort cX6_chosenPort 6 (some .int) :: jw_t) rm 0 0 2 := cwV 2 hts (jj_gV jj_gT (jj_in (List.mem_of_getElem? (i := 471) rfl) rfl) (jj_in (List.mem_of_getElem? (i := 473) rfl) rfl) (jj_in (List.mem_of_getElem? (i := 8) rfl) rfl) (jj_in (List.mem_of_getElem? (i := 42) rfl) rfl) (jj_in (List.mem_of_getElem? (i := 474) rfl) rfl)) rfl h1 h2 (by decide +kernel) hR
set_option maxRecDepth 100000 in
theorem q_Routers_62 {R : Room} {s : State} {args : Array Value} (hts : ∀ w ∈ jw_t, w.before args s = true) {rm : Room} (h1 : rm.cells = 0) (h2 : rm.slots = 0) (hR : rm.frames + 1 ≤ R.frames ∧ 8 + (8 + 11) + rm.locals ≤ R.locals) : CallW R s args RX6 yX6_move.cls 62 yX6_move cX6_move 8 none (Cond.code yX6_move cX6_move 8 none :: jw_t) rm 0 0 3 := cwV 3 hts (jj_gV jj_gT (jj_in (List.mem_of_getElem? (i := 475) rfl) rfl) (jj_in (List.mem_of_getElem? (i := 477) rfl) rfl) (jj_in (List.mem_of_getElem? (i := 9) rfl) rfl) (jj_in (List.mem_of_getElem? (i := 42) rfl) rfl) (jj_in (List.mem_of_getElem? (i := 478) rfl) rfl)) rfl h1 h2 (by decide +kernel) hR
set_option maxRecDepth 100000 in
theorem q_Routers_69 {R : Room} {s : State} {args : Array Value} (hts : ∀ w ∈ jw_t, w.before args s = true) {rm : Room} (h1 : rm.cells = 0) (h2 : rm.slots = 0) (hR : rm.frames + 1 ≤ R.frames ∧ 8 + (5 + 11) + rm.locals ≤ R.locals) : CallW R s args RX6 yX6_isReady.cls 69 yX6_isReady cX6_isReady 5 (some .boolean) (Cond.code yX6_isReady cX6_isReady 5 (some .boolean) :: jw_t) rm 0 0 3 := cwV 3 hts (jj_gV jj_gT (jj_in (List.mem_of_getElem? (i := 466) rfl) rfl) (jj_in (List.mem_of_getElem? (i := 468) rfl) rfl) (jj_in (List.mem_of_getElem? (i := 7) rfl) rfl) (jj_in (List.mem_of_getElem? (i := 42) rfl) rfl) (jj_in (List.mem_of_getElem? (i := 469) rfl) rfl)) rfl h1 h2 (by decide +kernel) hR
set_option maxRecDepth 100000 in
theorem q_Routers_73 {R : Room} {s : State} {args : Array Value} (hts : ∀ w ∈ jw_t, w.before args s = true) {rm : Room} (h1 : rm.cells = 0) (h2 : rm.slots = 0) (hR : rm.frames + 1 ≤ R.frames ∧ 8 + (4 + 11) + rm.locals ≤ R.locals) : CallW R s args RX6 yX1_slot.cls 73 yX1_slot cX1_slot 4 (some .int) (Cond.code yX1_slot cX1_slot 4 (some .int) :: jw_t) rm 0 0 3 := cwV 3 hts (jj_gV jj_gT (jj_in (List.mem_of_getElem? (i := 470) rfl) rfl) (jj_in (List.mem_of_getElem? (i := 107) rfl) rfl) (jj_in (List.mem_of_getElem? (i := 108) rfl) rfl) (jj_in (List.mem_of_getElem? (i := 35) rfl) rfl) (jj_in (List.mem_of_getElem? (i := 109) rfl) rfl)) rfl h1 h2 (by decide +kernel) hR
set_option maxRecDepth 100000 in
theorem q_Routers_85 {R : Room} {s : State} {args : Array Value} (hts : ∀ w ∈ jw_t, w.before args s = true) {rm : Room} (h1 : rm.cells = 0) (h2 : rm.slots = 0) (hR : rm.frames + 1 ≤ R.frames ∧ 8 + (3 + 11) + rm.locals ≤ R.locals) : CallW R s args RX6 yX3_takeOut.cls 85 yX3_takeOut cX3_takeOut 3 (some .int) (Cond.code yX3_takeOut cX3_takeOut 3 (some .int) :: jw_t) rm 0 0 1 := cwV 1 hts (jj_gV jj_gT (jj_in (List.mem_of_getElem? (i := 479) rfl) rfl) (jj_in (List.mem_of_getElem? (i := 407) rfl) rfl) (jj_in (List.mem_of_getElem? (i := 408) rfl) rfl) (jj_in (List.mem_of_getElem? (i := 37) rfl) rfl) (jj_in (List.mem_of_getElem? (i := 409) rfl) rfl)) rfl h1 h2 (by decide +kernel) hR
set_option maxRecDepth 100000 in
theorem q_Routers_89 {R : Room} {s : State} {args : Array Value} (hts : ∀ w ∈ jw_t, w.before args s = true) {rm : Room} (h1 : rm.cells = 0) (h2 : rm.slots = 0) (hR : rm.frames + 1 ≤ R.frames ∧ 8 + (3 + 11) + rm.locals ≤ R.locals) : CallW R s args RX6 yX3_send.cls 89 yX3_send cX3_send 3 none (Cond.code yX3_send cX3_send 3 none :: jw_t) rm 0 0 2 := cwV 2 hts (jj_gV jj_gT (jj_in (List.mem_of_getElem? (i := 480) rfl) rfl) (jj_in (List.mem_of_getElem? (i := 451) rfl) rfl) (jj_in (List.mem_of_getElem? (i := 452) rfl) rfl) (jj_in (List.mem_of_getElem? (i := 37) rfl) rfl) (jj_in (List.mem_of_getElem? (i := 453) rfl) rfl)) rfl h1 h2 (by decide +kernel) hR
set_option maxRecDepth 100000 in
theorem q_Routers_93 {R : Room} {s : State} {args : Array Value} (hts : ∀ w ∈ jw_t, w.before args s = true) {rm : Room} (h1 : rm.cells = 0) (h2 : rm.slots = 0) (hR : rm.frames + 1 ≤ R.frames ∧ 8 + (1 + 11) + rm.locals ≤ R.locals) : CallB R s args RX6 93 yX4_isLast cX4_isLast 1 (some .boolean) (Cond.code yX4_isLast cX4_isLast 1 (some .boolean) :: jw_t) rm 0 0 1 ∧ (Cond.static yX4_isLast).before args s = true := va_cwS 1 hts (jj_gS jj_gT (jj_in (List.mem_of_getElem? (i := 481) rfl) rfl) (jj_in (List.mem_of_getElem? (i := 403) rfl) rfl) (jj_in (List.mem_of_getElem? (i := 38) rfl) rfl) (jj_in (List.mem_of_getElem? (i := 404) rfl) rfl)) rfl h1 h2 (by decide +kernel) hR
set_option maxRecDepth 100000 in
theorem q_Routers_99 {R : Room} {s : State} {args : Array Value} (hts : ∀ w ∈ jw_t, w.before args s = true) {rm : Room} (h1 : rm.cells = 0) (h2 : rm.slots = 0) (hR : rm.frames + 1 ≤ R.frames ∧ 8 + (9 + 11) + rm.locals ≤ R.locals) : CallW R s args RX6 yX6_grantIfFree.cls 99 yX6_grantIfFree cX6_grantIfFree 9 none (Cond.code yX6_grantIfFree cX6_grantIfFree 9 none :: jw_t) rm 0 0 3 := cwV 3 hts (jj_gV jj_gT (jj_in (List.mem_of_getElem? (i := 486) rfl) rfl) (jj_in (List.mem_of_getElem? (i := 488) rfl) rfl) (jj_in (List.mem_of_getElem? (i := 10) rfl) rfl) (jj_in (List.mem_of_getElem? (i := 42) rfl) rfl) (jj_in (List.mem_of_getElem? (i := 489) rfl) rfl)) rfl h1 h2 (by decide +kernel) hR
set_option maxRecDepth 100000 in
theorem q_Routers_102 {R : Room} {s : State} {args : Array Value} (hts : ∀ w ∈ jw_t, w.before args s = true) {rm : Room} (h1 : rm.cells = 0) (h2 : rm.slots = 0) (hR : rm.frames + 1 ≤ R.frames ∧ 8 + (2 + 11) + rm.locals ≤ R.locals) : CallW R s args RX6 yX3_firstFlit.cls 102 yX3_firstFlit cX3_firstFlit 2 (some .int) (Cond.code yX3_firstFlit cX3_firstFlit 2 (some .int) :: jw_t) rm 0 0 1 := cwV 1 hts (jj_gV jj_gT (jj_in (List.mem_of_getElem? (i := 494) rfl) rfl) (jj_in (List.mem_of_getElem? (i := 392) rfl) rfl) (jj_in (List.mem_of_getElem? (i := 393) rfl) rfl) (jj_in (List.mem_of_getElem? (i := 37) rfl) rfl) (jj_in (List.mem_of_getElem? (i := 394) rfl) rfl)) rfl h1 h2 (by decide +kernel) hR
set_option maxRecDepth 100000 in
theorem q_Routers_105 {R : Room} {s : State} {args : Array Value} (hts : ∀ w ∈ jw_t, w.before args s = true) {rm : Room} (h1 : rm.cells = 0) (h2 : rm.slots = 0) (hR : rm.frames + 1 ≤ R.frames ∧ 8 + (2 + 11) + rm.locals ≤ R.locals) : CallW R s args RX6 yX4_goal.cls 105 yX4_goal cX4_goal 2 (some .int) (Cond.code yX4_goal cX4_goal 2 (some .int) :: jw_t) rm 0 0 1 := cwV 1 hts (jj_gV jj_gT (jj_in (List.mem_of_getElem? (i := 495) rfl) rfl) (jj_in (List.mem_of_getElem? (i := 496) rfl) rfl) (jj_in (List.mem_of_getElem? (i := 497) rfl) rfl) (jj_in (List.mem_of_getElem? (i := 38) rfl) rfl) (jj_in (List.mem_of_getElem? (i := 498) rfl) rfl)) rfl h1 h2 (by decide +kernel) hR
set_option maxRecDepth 100000 in
theorem q_Routers_108 {R : Room} {s : State} {args : Array Value} (hts : ∀ w ∈ jw_t, w.before args s = true) {rm : Room} (h1 : rm.cells = 0) (h2 : rm.slots = 0) (hR : rm.frames + 1 ≤ R.frames ∧ 8 + (5 + 11) + rm.locals ≤ R.locals) : CallW R s args RX6 yX6_wayTo.cls 108 yX6_wayTo cX6_wayTo 5 (some .int) (Cond.code yX6_wayTo cX6_wayTo 5 (some .int) :: jw_t) rm 0 0 2 := cwV 2 hts (jj_gV jj_gT (jj_in (List.mem_of_getElem? (i := 501) rfl) rfl) (jj_in (List.mem_of_getElem? (i := 503) rfl) rfl) (jj_in (List.mem_of_getElem? (i := 11) rfl) rfl) (jj_in (List.mem_of_getElem? (i := 42) rfl) rfl) (jj_in (List.mem_of_getElem? (i := 504) rfl) rfl)) rfl h1 h2 (by decide +kernel) hR
set_option maxRecDepth 100000 in
theorem q_Routers_111 {R : Room} {s : State} {args : Array Value} (hts : ∀ w ∈ jw_t, w.before args s = true) {rm : Room} (h1 : rm.cells = 0) (h2 : rm.slots = 0) (hR : rm.frames + 1 ≤ R.frames ∧ 8 + (2 + 11) + rm.locals ≤ R.locals) : CallW R s args RX6 yX1_column.cls 111 yX1_column cX1_column 2 (some .int) (Cond.code yX1_column cX1_column 2 (some .int) :: jw_t) rm 0 0 1 := cwV 1 hts (jj_gV jj_gT (jj_in (List.mem_of_getElem? (i := 505) rfl) rfl) (jj_in (List.mem_of_getElem? (i := 119) rfl) rfl) (jj_in (List.mem_of_getElem? (i := 120) rfl) rfl) (jj_in (List.mem_of_getElem? (i := 35) rfl) rfl) (jj_in (List.mem_of_getElem? (i := 121) rfl) rfl)) rfl h1 h2 (by decide +kernel) hR
set_option maxRecDepth 100000 in
theorem q_Routers_114 {R : Room} {s : State} {args : Array Value} (hts : ∀ w ∈ jw_t, w.before args s = true) {rm : Room} (h1 : rm.cells = 0) (h2 : rm.slots = 0) (hR : rm.frames + 1 ≤ R.frames ∧ 8 + (2 + 11) + rm.locals ≤ R.locals) : CallW R s args RX6 yX1_row.cls 114 yX1_row cX1_row 2 (some .int) (Cond.code yX1_row cX1_row 2 (some .int) :: jw_t) rm 0 0 1 := cwV 1 hts (jj_gV jj_gT (jj_in (List.mem_of_getElem? (i := 506) rfl) rfl) (jj_in (List.mem_of_getElem? (i := 123) rfl) rfl) (jj_in (List.mem_of_getElem? (i := 124) rfl) rfl) (jj_in (List.mem_of_getElem? (i := 35) rfl) rfl) (jj_in (List.mem_of_getElem? (i := 125) rfl) rfl)) rfl h1 h2 (by decide +kernel) hR
def gc (n S SD : Nat) : List jj_H := [.inl (7, [some (some 1), some (some 2), some (some 10), some (some 16), some (some 30), none]), .inl (1, [none, none, none, none, none, none, none]), .inl (3, [none, some (some 3), some (some 4), some (some 5), some (some 6), some (some 7), some (some 8), some (some 9), none]), .inr (.int, S), .inr (.int, SD), .inr (.int, S), .inr (.int, S), .inr (.int, S), .inr (.int, S), .inr (.int, S), .inl (4, [some (some 1), some (some 11), some (some 12), some (some 13), some (some 14), some (some 15), none]), .inr (.int, 400), .inr (.int, 400), .inr (.boolean, 400), .inr (.int, 400), .inr (.int, 400), .inl (2, [some (some 1), some (some 2), some (some 10), some (some 20), some (some 24), some (some 17), some (some 28), some (some 29)]), .inl (0, [some (some 18), some (some 19), none]), .inr (.int, 400), .inr (.int, 400), .inl (5, [none, none, some (some 21), some (some 22), some (some 23)]), .inr (.int, n * 4), .inr (.int, n), .inr (.int, n), .inl (5, [none, none, some (some 25), some (some 26), some (some 27)]), .inr (.int, n * 2), .inr (.int, n), .inr (.int, n), .inr (.int, n * 8), .inr (.boolean, n), .inl (6, [some (some 1), some (some 2), some (some 10), some (some 32), some (some 33), some (some 34), some (some 35), some (some 36), some (some 37), some (some 31)]), .inr (.int, 5), .inr (.int, S), .inr (.int, S), .inr (.boolean, S), .inr (.int, S), .inr (.int, n * 5), .inr (.int, n * 5)]
theorem g_0 (n S SD : Nat) : (gc n S SD)[0]? = some (.inl (7, [some (some 1), some (some 2), some (some 10), some (some 16), some (some 30), none])) := rfl
theorem g_1 (n S SD : Nat) : (gc n S SD)[1]? = some (.inl (1, [none, none, none, none, none, none, none])) := rfl
theorem g_2 (n S SD : Nat) : (gc n S SD)[2]? = some (.inl (3, [none, some (some 3), some (some 4), some (some 5), some (some 6), some (some 7), some (some 8), some (some 9), none])) := rfl
theorem g_3 (n S SD : Nat) : (gc n S SD)[3]? = some (.inr (.int, S)) := rfl
theorem g_4 (n S SD : Nat) : (gc n S SD)[4]? = some (.inr (.int, SD)) := rfl
theorem g_5 (n S SD : Nat) : (gc n S SD)[5]? = some (.inr (.int, S)) := rfl
theorem g_6 (n S SD : Nat) : (gc n S SD)[6]? = some (.inr (.int, S)) := rfl
theorem g_7 (n S SD : Nat) : (gc n S SD)[7]? = some (.inr (.int, S)) := rfl
theorem g_8 (n S SD : Nat) : (gc n S SD)[8]? = some (.inr (.int, S)) := rfl
theorem g_9 (n S SD : Nat) : (gc n S SD)[9]? = some (.inr (.int, S)) := rfl
theorem g_10 (n S SD : Nat) : (gc n S SD)[10]? = some (.inl (4, [some (some 1), some (some 11), some (some 12), some (some 13), some (some 14), some (some 15), none])) := rfl
theorem g_11 (n S SD : Nat) : (gc n S SD)[11]? = some (.inr (.int, 400)) := rfl
theorem g_12 (n S SD : Nat) : (gc n S SD)[12]? = some (.inr (.int, 400)) := rfl
theorem g_13 (n S SD : Nat) : (gc n S SD)[13]? = some (.inr (.boolean, 400)) := rfl
theorem g_14 (n S SD : Nat) : (gc n S SD)[14]? = some (.inr (.int, 400)) := rfl
theorem g_15 (n S SD : Nat) : (gc n S SD)[15]? = some (.inr (.int, 400)) := rfl
theorem g_16 (n S SD : Nat) : (gc n S SD)[16]? = some (.inl (2, [some (some 1), some (some 2), some (some 10), some (some 20), some (some 24), some (some 17), some (some 28), some (some 29)])) := rfl
theorem g_17 (n S SD : Nat) : (gc n S SD)[17]? = some (.inl (0, [some (some 18), some (some 19), none])) := rfl
theorem g_18 (n S SD : Nat) : (gc n S SD)[18]? = some (.inr (.int, 400)) := rfl
theorem g_19 (n S SD : Nat) : (gc n S SD)[19]? = some (.inr (.int, 400)) := rfl
theorem g_20 (n S SD : Nat) : (gc n S SD)[20]? = some (.inl (5, [none, none, some (some 21), some (some 22), some (some 23)])) := rfl
theorem g_21 (n S SD : Nat) : (gc n S SD)[21]? = some (.inr (.int, n * 4)) := rfl
theorem g_22 (n S SD : Nat) : (gc n S SD)[22]? = some (.inr (.int, n)) := rfl
theorem g_23 (n S SD : Nat) : (gc n S SD)[23]? = some (.inr (.int, n)) := rfl
theorem g_24 (n S SD : Nat) : (gc n S SD)[24]? = some (.inl (5, [none, none, some (some 25), some (some 26), some (some 27)])) := rfl
theorem g_25 (n S SD : Nat) : (gc n S SD)[25]? = some (.inr (.int, n * 2)) := rfl
theorem g_26 (n S SD : Nat) : (gc n S SD)[26]? = some (.inr (.int, n)) := rfl
theorem g_27 (n S SD : Nat) : (gc n S SD)[27]? = some (.inr (.int, n)) := rfl
theorem g_28 (n S SD : Nat) : (gc n S SD)[28]? = some (.inr (.int, n * 8)) := rfl
theorem g_29 (n S SD : Nat) : (gc n S SD)[29]? = some (.inr (.boolean, n)) := rfl
theorem g_30 (n S SD : Nat) : (gc n S SD)[30]? = some (.inl (6, [some (some 1), some (some 2), some (some 10), some (some 32), some (some 33), some (some 34), some (some 35), some (some 36), some (some 37), some (some 31)])) := rfl
theorem g_31 (n S SD : Nat) : (gc n S SD)[31]? = some (.inr (.int, 5)) := rfl
theorem g_32 (n S SD : Nat) : (gc n S SD)[32]? = some (.inr (.int, S)) := rfl
theorem g_33 (n S SD : Nat) : (gc n S SD)[33]? = some (.inr (.int, S)) := rfl
theorem g_34 (n S SD : Nat) : (gc n S SD)[34]? = some (.inr (.boolean, S)) := rfl
theorem g_35 (n S SD : Nat) : (gc n S SD)[35]? = some (.inr (.int, S)) := rfl
theorem g_36 (n S SD : Nat) : (gc n S SD)[36]? = some (.inr (.int, n * 5)) := rfl
theorem g_37 (n S SD : Nat) : (gc n S SD)[37]? = some (.inr (.int, n * 5)) := rfl
