theorem in_Ref : ∀ w ∈ u_ws RX8 TX8 37, w ∈ jw_t := fun w h => jj_in ((show ∀ w ∈ u_ws RX8 TX8 37, w ∈ lw_tbl by decide +kernel) w h) ((show ∀ w ∈ u_ws RX8 TX8 37, goodWord w = true by decide +kernel) w h)
theorem k_Ref : vwCl[8]? = some (RX8, TX8, 37) := rfl
set_option maxRecDepth 100000 in
theorem fl_Ref_7 : Cond.fieldLink RX8 7 (TX8 6).1 (TX8 6).2.1 (TX8 6).2.2.1 ∈ jw_t := jj_in (List.mem_of_getElem? (i := 567) rfl) rfl
set_option maxRecDepth 100000 in
theorem fl_Ref_13 : Cond.fieldLink RX8 13 (TX8 7).1 (TX8 7).2.1 (TX8 7).2.2.1 ∈ jw_t := jj_in (List.mem_of_getElem? (i := 568) rfl) rfl
set_option maxRecDepth 100000 in
theorem fl_Ref_16 : Cond.fieldLink RX8 16 (TX8 8).1 (TX8 8).2.1 (TX8 8).2.2.1 ∈ jw_t := jj_in (List.mem_of_getElem? (i := 569) rfl) rfl
set_option maxRecDepth 100000 in
theorem fl_Ref_20 : Cond.fieldLink RX8 20 (TX8 9).1 (TX8 9).2.1 (TX8 9).2.2.1 ∈ jw_t := jj_in (List.mem_of_getElem? (i := 570) rfl) rfl
set_option maxRecDepth 100000 in
theorem fl_Ref_23 : Cond.fieldLink RX8 23 (TX8 10).1 (TX8 10).2.1 (TX8 10).2.2.1 ∈ jw_t := jj_in (List.mem_of_getElem? (i := 571) rfl) rfl
set_option maxRecDepth 100000 in
theorem fl_Ref_26 : Cond.fieldLink RX8 26 (TX8 11).1 (TX8 11).2.1 (TX8 11).2.2.1 ∈ jw_t := jj_in (List.mem_of_getElem? (i := 572) rfl) rfl
set_option maxRecDepth 100000 in
theorem fl_Ref_29 : Cond.fieldLink RX8 29 (TX8 13).1 (TX8 13).2.1 (TX8 13).2.2.1 ∈ jw_t := jj_in (List.mem_of_getElem? (i := 574) rfl) rfl
set_option maxRecDepth 100000 in
theorem fl_Ref_32 : Cond.fieldLink RX8 32 (TX8 14).1 (TX8 14).2.1 (TX8 14).2.2.1 ∈ jw_t := jj_in (List.mem_of_getElem? (i := 575) rfl) rfl
set_option maxRecDepth 100000 in
theorem fl_Ref_35 : Cond.fieldLink RX8 35 (TX8 17).1 (TX8 17).2.1 (TX8 17).2.2.1 ∈ jw_t := jj_in (List.mem_of_getElem? (i := 578) rfl) rfl
set_option maxRecDepth 100000 in
theorem fl_Ref_38 : Cond.fieldLink RX8 38 (TX8 18).1 (TX8 18).2.1 (TX8 18).2.2.1 ∈ jw_t := jj_in (List.mem_of_getElem? (i := 579) rfl) rfl
set_option maxRecDepth 100000 in
theorem fl_Ref_41 : Cond.fieldLink RX8 41 (TX8 19).1 (TX8 19).2.1 (TX8 19).2.2.1 ∈ jw_t := jj_in (List.mem_of_getElem? (i := 580) rfl) rfl
set_option maxRecDepth 100000 in
theorem fl_Ref_44 : Cond.fieldLink RX8 44 (TX8 20).1 (TX8 20).2.1 (TX8 20).2.2.1 ∈ jw_t := jj_in (List.mem_of_getElem? (i := 581) rfl) rfl
set_option maxRecDepth 100000 in
theorem fl_Ref_47 : Cond.fieldLink RX8 47 (TX8 21).1 (TX8 21).2.1 (TX8 21).2.2.1 ∈ jw_t := jj_in (List.mem_of_getElem? (i := 582) rfl) rfl
set_option maxRecDepth 100000 in
theorem fl_Ref_50 : Cond.fieldLink RX8 50 (TX8 22).1 (TX8 22).2.1 (TX8 22).2.2.1 ∈ jw_t := jj_in (List.mem_of_getElem? (i := 583) rfl) rfl
set_option maxRecDepth 100000 in
theorem fl_Ref_53 : Cond.fieldLink RX8 53 (TX8 23).1 (TX8 23).2.1 (TX8 23).2.2.1 ∈ jw_t := jj_in (List.mem_of_getElem? (i := 584) rfl) rfl
set_option maxRecDepth 100000 in
theorem fl_Ref_56 : Cond.fieldLink RX8 56 (TX8 24).1 (TX8 24).2.1 (TX8 24).2.2.1 ∈ jw_t := jj_in (List.mem_of_getElem? (i := 585) rfl) rfl
set_option maxRecDepth 100000 in
theorem fl_Ref_59 : Cond.fieldLink RX8 59 (TX8 25).1 (TX8 25).2.1 (TX8 25).2.2.1 ∈ jw_t := jj_in (List.mem_of_getElem? (i := 586) rfl) rfl
set_option maxRecDepth 100000 in
theorem fl_Ref_62 : Cond.fieldLink RX8 62 (TX8 26).1 (TX8 26).2.1 (TX8 26).2.2.1 ∈ jw_t := jj_in (List.mem_of_getElem? (i := 587) rfl) rfl
set_option maxRecDepth 100000 in
theorem fl_Ref_65 : Cond.fieldLink RX8 65 (TX8 27).1 (TX8 27).2.1 (TX8 27).2.2.1 ∈ jw_t := jj_in (List.mem_of_getElem? (i := 588) rfl) rfl
set_option maxRecDepth 100000 in
theorem fl_Ref_68 : Cond.fieldLink RX8 68 (TX8 28).1 (TX8 28).2.1 (TX8 28).2.2.1 ∈ jw_t := jj_in (List.mem_of_getElem? (i := 589) rfl) rfl
set_option maxRecDepth 100000 in
theorem fl_Ref_71 : Cond.fieldLink RX8 71 (TX8 29).1 (TX8 29).2.1 (TX8 29).2.2.1 ∈ jw_t := jj_in (List.mem_of_getElem? (i := 590) rfl) rfl
set_option maxRecDepth 100000 in
theorem fl_Ref_74 : Cond.fieldLink RX8 74 (TX8 30).1 (TX8 30).2.1 (TX8 30).2.2.1 ∈ jw_t := jj_in (List.mem_of_getElem? (i := 591) rfl) rfl
set_option maxRecDepth 100000 in
theorem fl_Ref_77 : Cond.fieldLink RX8 77 (TX8 31).1 (TX8 31).2.1 (TX8 31).2.2.1 ∈ jw_t := jj_in (List.mem_of_getElem? (i := 592) rfl) rfl
set_option maxRecDepth 100000 in
theorem fl_Ref_80 : Cond.fieldLink RX8 80 (TX8 32).1 (TX8 32).2.1 (TX8 32).2.2.1 ∈ jw_t := jj_in (List.mem_of_getElem? (i := 593) rfl) rfl
set_option maxRecDepth 100000 in
theorem fl_Ref_83 : Cond.fieldLink RX8 83 (TX8 33).1 (TX8 33).2.1 (TX8 33).2.2.1 ∈ jw_t := jj_in (List.mem_of_getElem? (i := 594) rfl) rfl
set_option maxRecDepth 100000 in
theorem fl_Ref_86 : Cond.fieldLink RX8 86 (TX8 34).1 (TX8 34).2.1 (TX8 34).2.2.1 ∈ jw_t := jj_in (List.mem_of_getElem? (i := 595) rfl) rfl
set_option maxRecDepth 100000 in
theorem fl_Ref_89 : Cond.fieldLink RX8 89 (TX8 35).1 (TX8 35).2.1 (TX8 35).2.2.1 ∈ jw_t := jj_in (List.mem_of_getElem? (i := 596) rfl) rfl
set_option maxRecDepth 100000 in
theorem fl_Ref_92 : Cond.fieldLink RX8 92 (TX8 36).1 (TX8 36).2.1 (TX8 36).2.2.1 ∈ jw_t := jj_in (List.mem_of_getElem? (i := 597) rfl) rfl
set_option maxRecDepth 100000 in
theorem fl_Ref_95 : Cond.fieldLink RX8 95 (TX8 0).1 (TX8 0).2.1 (TX8 0).2.2.1 ∈ jw_t := jj_in (List.mem_of_getElem? (i := 561) rfl) rfl
set_option maxRecDepth 100000 in
theorem fl_Ref_99 : Cond.fieldLink RX8 99 (TX8 1).1 (TX8 1).2.1 (TX8 1).2.2.1 ∈ jw_t := jj_in (List.mem_of_getElem? (i := 562) rfl) rfl
set_option maxRecDepth 100000 in
theorem fl_Ref_102 : Cond.fieldLink RX8 102 (TX8 2).1 (TX8 2).2.1 (TX8 2).2.2.1 ∈ jw_t := jj_in (List.mem_of_getElem? (i := 563) rfl) rfl
set_option maxRecDepth 100000 in
theorem fl_Ref_105 : Cond.fieldLink RX8 105 (TX8 3).1 (TX8 3).2.1 (TX8 3).2.2.1 ∈ jw_t := jj_in (List.mem_of_getElem? (i := 564) rfl) rfl
set_option maxRecDepth 100000 in
theorem fl_Ref_108 : Cond.fieldLink RX8 108 (TX8 4).1 (TX8 4).2.1 (TX8 4).2.2.1 ∈ jw_t := jj_in (List.mem_of_getElem? (i := 565) rfl) rfl
set_option maxRecDepth 100000 in
theorem fl_Ref_119 : Cond.fieldLink RX8 119 (TX8 5).1 (TX8 5).2.1 (TX8 5).2.2.1 ∈ jw_t := jj_in (List.mem_of_getElem? (i := 566) rfl) rfl
set_option maxRecDepth 100000 in
theorem fl_Ref_122 : Cond.fieldLink RX8 122 (TX8 16).1 (TX8 16).2.1 (TX8 16).2.2.1 ∈ jw_t := jj_in (List.mem_of_getElem? (i := 577) rfl) rfl
set_option maxRecDepth 100000 in
theorem fl_Ref_131 : Cond.fieldLink RX8 131 (TX8 12).1 (TX8 12).2.1 (TX8 12).2.2.1 ∈ jw_t := jj_in (List.mem_of_getElem? (i := 573) rfl) rfl
set_option maxRecDepth 100000 in
theorem fl_Ref_134 : Cond.fieldLink RX8 134 (TX8 15).1 (TX8 15).2.1 (TX8 15).2.2.1 ∈ jw_t := jj_in (List.mem_of_getElem? (i := 576) rfl) rfl
set_option maxRecDepth 100000 in
theorem q_Ref_111 {R : Room} {s : State} {args : Array Value} (hts : ∀ w ∈ jw_t, w.before args s = true) {rm : Room} (h1 : rm.cells = 0) (h2 : rm.slots = 0) (hR : rm.frames + 1 ≤ R.frames ∧ 8 + (2 + 11) + rm.locals ≤ R.locals) : CallW R s args RX8 yX8_isNode.cls 111 yX8_isNode cX8_isNode 2 (some .boolean) (Cond.code yX8_isNode cX8_isNode 2 (some .boolean) :: jw_t) rm 0 0 1 := cwV 1 hts (jj_gV jj_gT (jj_in (List.mem_of_getElem? (i := 681) rfl) rfl) (jj_in (List.mem_of_getElem? (i := 683) rfl) rfl) (jj_in (List.mem_of_getElem? (i := 13) rfl) rfl) (jj_in (List.mem_of_getElem? (i := 43) rfl) rfl) (jj_in (List.mem_of_getElem? (i := 684) rfl) rfl)) rfl h1 h2 (by decide +kernel) hR
set_option maxRecDepth 100000 in
theorem q_Ref_115 {R : Room} {s : State} {args : Array Value} (hts : ∀ w ∈ jw_t, w.before args s = true) {rm : Room} (h1 : rm.cells = 0) (h2 : rm.slots = 0) (hR : rm.frames + 1 ≤ R.frames ∧ 8 + (3 + 11) + rm.locals ≤ R.locals) : CallW R s args RX8 yX8_length.cls 115 yX8_length cX8_length 3 (some .int) (Cond.code yX8_length cX8_length 3 (some .int) :: jw_t) rm 0 0 1 := cwV 1 hts (jj_gV jj_gT (jj_in (List.mem_of_getElem? (i := 709) rfl) rfl) (jj_in (List.mem_of_getElem? (i := 711) rfl) rfl) (jj_in (List.mem_of_getElem? (i := 18) rfl) rfl) (jj_in (List.mem_of_getElem? (i := 43) rfl) rfl) (jj_in (List.mem_of_getElem? (i := 712) rfl) rfl)) rfl h1 h2 (by decide +kernel) hR
set_option maxRecDepth 100000 in
theorem q_Ref_125 {R : Room} {s : State} {args : Array Value} (hts : ∀ w ∈ jw_t, w.before args s = true) {rm : Room} (h1 : rm.cells = 0) (h2 : rm.slots = 0) (hR : rm.frames + 1 ≤ R.frames ∧ 8 + (2 + 11) + rm.locals ≤ R.locals) : CallW R s args RX8 yX8_isLast.cls 125 yX8_isLast cX8_isLast 2 (some .boolean) (Cond.code yX8_isLast cX8_isLast 2 (some .boolean) :: jw_t) rm 0 0 1 := cwV 1 hts (jj_gV jj_gT (jj_in (List.mem_of_getElem? (i := 705) rfl) rfl) (jj_in (List.mem_of_getElem? (i := 707) rfl) rfl) (jj_in (List.mem_of_getElem? (i := 17) rfl) rfl) (jj_in (List.mem_of_getElem? (i := 43) rfl) rfl) (jj_in (List.mem_of_getElem? (i := 708) rfl) rfl)) rfl h1 h2 (by decide +kernel) hR
set_option maxRecDepth 100000 in
theorem q_Ref_128 {R : Room} {s : State} {args : Array Value} (hts : ∀ w ∈ jw_t, w.before args s = true) {rm : Room} (h1 : rm.cells = 0) (h2 : rm.slots = 0) (hR : rm.frames + 1 ≤ R.frames ∧ 8 + (4 + 11) + rm.locals ≤ R.locals) : CallW R s args RX8 yX8_take.cls 128 yX8_take cX8_take 4 (some .int) (Cond.code yX8_take cX8_take 4 (some .int) :: jw_t) rm 0 0 1 := cwV 1 hts (jj_gV jj_gT (jj_in (List.mem_of_getElem? (i := 713) rfl) rfl) (jj_in (List.mem_of_getElem? (i := 715) rfl) rfl) (jj_in (List.mem_of_getElem? (i := 19) rfl) rfl) (jj_in (List.mem_of_getElem? (i := 43) rfl) rfl) (jj_in (List.mem_of_getElem? (i := 716) rfl) rfl)) rfl h1 h2 (by decide +kernel) hR
set_option maxRecDepth 100000 in
theorem q_Ref_137 {R : Room} {s : State} {args : Array Value} (hts : ∀ w ∈ jw_t, w.before args s = true) {rm : Room} (h1 : rm.cells = 0) (h2 : rm.slots = 0) (hR : rm.frames + 1 ≤ R.frames ∧ 8 + (2 + 11) + rm.locals ≤ R.locals) : CallW R s args RX8 yX8_channelOf.cls 137 yX8_channelOf cX8_channelOf 2 (some .int) (Cond.code yX8_channelOf cX8_channelOf 2 (some .int) :: jw_t) rm 0 0 1 := cwV 1 hts (jj_gV jj_gT (jj_in (List.mem_of_getElem? (i := 721) rfl) rfl) (jj_in (List.mem_of_getElem? (i := 723) rfl) rfl) (jj_in (List.mem_of_getElem? (i := 21) rfl) rfl) (jj_in (List.mem_of_getElem? (i := 43) rfl) rfl) (jj_in (List.mem_of_getElem? (i := 724) rfl) rfl)) rfl h1 h2 (by decide +kernel) hR
set_option maxRecDepth 100000 in
theorem q_Ref_140 {R : Room} {s : State} {args : Array Value} (hts : ∀ w ∈ jw_t, w.before args s = true) {rm : Room} (h1 : rm.cells = 0) (h2 : rm.slots = 0) (hR : rm.frames + 1 ≤ R.frames ∧ 8 + (3 + 11) + rm.locals ≤ R.locals) : CallW R s args RX8 yX8_send.cls 140 yX8_send cX8_send 3 none (Cond.code yX8_send cX8_send 3 none :: jw_t) rm 0 0 2 := cwV 2 hts (jj_gV jj_gT (jj_in (List.mem_of_getElem? (i := 725) rfl) rfl) (jj_in (List.mem_of_getElem? (i := 727) rfl) rfl) (jj_in (List.mem_of_getElem? (i := 22) rfl) rfl) (jj_in (List.mem_of_getElem? (i := 43) rfl) rfl) (jj_in (List.mem_of_getElem? (i := 728) rfl) rfl)) rfl h1 h2 (by decide +kernel) hR
set_option maxRecDepth 100000 in
theorem q_Ref_144 {R : Room} {s : State} {args : Array Value} (hts : ∀ w ∈ jw_t, w.before args s = true) {rm : Room} (h1 : rm.cells = 0) (h2 : rm.slots = 0) (hR : rm.frames + 1 ≤ R.frames ∧ 8 + (6 + 11) + rm.locals ≤ R.locals) : CallW R s args RX8 yX8_beyond.cls 144 yX8_beyond cX8_beyond 6 (some .int) (Cond.code yX8_beyond cX8_beyond 6 (some .int) :: jw_t) rm 0 0 3 := cwV 3 hts (jj_gV jj_gT (jj_in (List.mem_of_getElem? (i := 741) rfl) rfl) (jj_in (List.mem_of_getElem? (i := 743) rfl) rfl) (jj_in (List.mem_of_getElem? (i := 26) rfl) rfl) (jj_in (List.mem_of_getElem? (i := 43) rfl) rfl) (jj_in (List.mem_of_getElem? (i := 744) rfl) rfl)) rfl h1 h2 (by decide +kernel) hR
set_option maxRecDepth 100000 in
theorem q_Ref_148 {R : Room} {s : State} {args : Array Value} (hts : ∀ w ∈ jw_t, w.before args s = true) {rm : Room} (h1 : rm.cells = 0) (h2 : rm.slots = 0) (hR : rm.frames + 1 ≤ R.frames ∧ 8 + (5 + 11) + rm.locals ≤ R.locals) : CallW R s args RX8 yX8_ready.cls 148 yX8_ready cX8_ready 5 (some .boolean) (Cond.code yX8_ready cX8_ready 5 (some .boolean) :: jw_t) rm 0 0 3 := cwV 3 hts (jj_gV jj_gT (jj_in (List.mem_of_getElem? (i := 737) rfl) rfl) (jj_in (List.mem_of_getElem? (i := 739) rfl) rfl) (jj_in (List.mem_of_getElem? (i := 25) rfl) rfl) (jj_in (List.mem_of_getElem? (i := 43) rfl) rfl) (jj_in (List.mem_of_getElem? (i := 740) rfl) rfl)) rfl h1 h2 (by decide +kernel) hR
set_option maxRecDepth 100000 in
theorem q_Ref_152 {R : Room} {s : State} {args : Array Value} (hts : ∀ w ∈ jw_t, w.before args s = true) {rm : Room} (h1 : rm.cells = 0) (h2 : rm.slots = 0) (hR : rm.frames + 1 ≤ R.frames ∧ 8 + (6 + 11) + rm.locals ≤ R.locals) : CallW R s args RX8 yX8_name.cls 152 yX8_name cX8_name 6 (some .int) (Cond.code yX8_name cX8_name 6 (some .int) :: jw_t) rm 0 0 2 := cwV 2 hts (jj_gV jj_gT (jj_in (List.mem_of_getElem? (i := 733) rfl) rfl) (jj_in (List.mem_of_getElem? (i := 735) rfl) rfl) (jj_in (List.mem_of_getElem? (i := 24) rfl) rfl) (jj_in (List.mem_of_getElem? (i := 43) rfl) rfl) (jj_in (List.mem_of_getElem? (i := 736) rfl) rfl)) rfl h1 h2 (by decide +kernel) hR
set_option maxRecDepth 100000 in
theorem q_Ref_156 {R : Room} {s : State} {args : Array Value} (hts : ∀ w ∈ jw_t, w.before args s = true) {rm : Room} (h1 : rm.cells = 0) (h2 : rm.slots = 0) (hR : rm.frames + 1 ≤ R.frames ∧ 8 + (9 + 11) + rm.locals ≤ R.locals) : CallW R s args RX8 yX8_moveTo.cls 156 yX8_moveTo cX8_moveTo 9 none (Cond.code yX8_moveTo cX8_moveTo 9 none :: jw_t) rm 0 0 2 := cwV 2 hts (jj_gV jj_gT (jj_in (List.mem_of_getElem? (i := 745) rfl) rfl) (jj_in (List.mem_of_getElem? (i := 747) rfl) rfl) (jj_in (List.mem_of_getElem? (i := 27) rfl) rfl) (jj_in (List.mem_of_getElem? (i := 43) rfl) rfl) (jj_in (List.mem_of_getElem? (i := 748) rfl) rfl)) rfl h1 h2 (by decide +kernel) hR
set_option maxRecDepth 100000 in
theorem q_Ref_159 {R : Room} {s : State} {args : Array Value} (hts : ∀ w ∈ jw_t, w.before args s = true) {rm : Room} (h1 : rm.cells = 0) (h2 : rm.slots = 0) (hR : rm.frames + 1 ≤ R.frames ∧ 8 + (2 + 11) + rm.locals ≤ R.locals) : CallW R s args RX8 yX8_target.cls 159 yX8_target cX8_target 2 (some .int) (Cond.code yX8_target cX8_target 2 (some .int) :: jw_t) rm 0 0 1 := cwV 1 hts (jj_gV jj_gT (jj_in (List.mem_of_getElem? (i := 757) rfl) rfl) (jj_in (List.mem_of_getElem? (i := 759) rfl) rfl) (jj_in (List.mem_of_getElem? (i := 30) rfl) rfl) (jj_in (List.mem_of_getElem? (i := 43) rfl) rfl) (jj_in (List.mem_of_getElem? (i := 760) rfl) rfl)) rfl h1 h2 (by decide +kernel) hR
set_option maxRecDepth 100000 in
theorem q_Ref_162 {R : Room} {s : State} {args : Array Value} (hts : ∀ w ∈ jw_t, w.before args s = true) {rm : Room} (h1 : rm.cells = 0) (h2 : rm.slots = 0) (hR : rm.frames + 1 ≤ R.frames ∧ 8 + (2 + 11) + rm.locals ≤ R.locals) : CallW R s args RX8 yX8_arrive.cls 162 yX8_arrive cX8_arrive 2 none (Cond.code yX8_arrive cX8_arrive 2 none :: jw_t) rm 0 0 0 := cwV 0 hts (jj_gV jj_gT (jj_in (List.mem_of_getElem? (i := 697) rfl) rfl) (jj_in (List.mem_of_getElem? (i := 699) rfl) rfl) (jj_in (List.mem_of_getElem? (i := 15) rfl) rfl) (jj_in (List.mem_of_getElem? (i := 43) rfl) rfl) (jj_in (List.mem_of_getElem? (i := 700) rfl) rfl)) rfl h1 h2 (by decide +kernel) hR
set_option maxRecDepth 100000 in
theorem q_Ref_165 {R : Room} {s : State} {args : Array Value} (hts : ∀ w ∈ jw_t, w.before args s = true) {rm : Room} (h1 : rm.cells = 0) (h2 : rm.slots = 0) (hR : rm.frames + 1 ≤ R.frames ∧ 8 + (10 + 11) + rm.locals ≤ R.locals) : CallW R s args RX8 yX8_takeAt.cls 165 yX8_takeAt cX8_takeAt 10 none (Cond.code yX8_takeAt cX8_takeAt 10 none :: jw_t) rm 0 0 2 := cwV 2 hts (jj_gV jj_gT (jj_in (List.mem_of_getElem? (i := 701) rfl) rfl) (jj_in (List.mem_of_getElem? (i := 703) rfl) rfl) (jj_in (List.mem_of_getElem? (i := 16) rfl) rfl) (jj_in (List.mem_of_getElem? (i := 43) rfl) rfl) (jj_in (List.mem_of_getElem? (i := 704) rfl) rfl)) rfl h1 h2 (by decide +kernel) hR
set_option maxRecDepth 100000 in
theorem q_Ref_168 {R : Room} {s : State} {args : Array Value} (hts : ∀ w ∈ jw_t, w.before args s = true) {rm : Room} (h1 : rm.cells = 0) (h2 : rm.slots = 0) (hR : rm.frames + 1 ≤ R.frames ∧ 8 + (5 + 11) + rm.locals ≤ R.locals) : CallW R s args RX8 yX8_sendAt.cls 168 yX8_sendAt cX8_sendAt 5 none (Cond.code yX8_sendAt cX8_sendAt 5 none :: jw_t) rm 0 0 1 := cwV 1 hts (jj_gV jj_gT (jj_in (List.mem_of_getElem? (i := 717) rfl) rfl) (jj_in (List.mem_of_getElem? (i := 719) rfl) rfl) (jj_in (List.mem_of_getElem? (i := 20) rfl) rfl) (jj_in (List.mem_of_getElem? (i := 43) rfl) rfl) (jj_in (List.mem_of_getElem? (i := 720) rfl) rfl)) rfl h1 h2 (by decide +kernel) hR
set_option maxRecDepth 100000 in
theorem q_Ref_172 {R : Room} {s : State} {args : Array Value} (hts : ∀ w ∈ jw_t, w.before args s = true) {rm : Room} (h1 : rm.cells = 0) (h2 : rm.slots = 0) (hR : rm.frames + 1 ≤ R.frames ∧ 8 + (3 + 11) + rm.locals ≤ R.locals) : CallW R s args RX8 yX8_move.cls 172 yX8_move cX8_move 3 none (Cond.code yX8_move cX8_move 3 none :: jw_t) rm 0 0 1 := cwV 1 hts (jj_gV jj_gT (jj_in (List.mem_of_getElem? (i := 729) rfl) rfl) (jj_in (List.mem_of_getElem? (i := 731) rfl) rfl) (jj_in (List.mem_of_getElem? (i := 23) rfl) rfl) (jj_in (List.mem_of_getElem? (i := 43) rfl) rfl) (jj_in (List.mem_of_getElem? (i := 732) rfl) rfl)) rfl h1 h2 (by decide +kernel) hR
set_option maxRecDepth 100000 in
theorem q_Ref_175 {R : Room} {s : State} {args : Array Value} (hts : ∀ w ∈ jw_t, w.before args s = true) {rm : Room} (h1 : rm.cells = 0) (h2 : rm.slots = 0) (hR : rm.frames + 1 ≤ R.frames ∧ 8 + (8 + 11) + rm.locals ≤ R.locals) : CallW R s args RX8 yX8_grant.cls 175 yX8_grant cX8_grant 8 none (Cond.code yX8_grant cX8_grant 8 none :: jw_t) rm 0 0 3 := cwV 3 hts (jj_gV jj_gT (jj_in (List.mem_of_getElem? (i := 749) rfl) rfl) (jj_in (List.mem_of_getElem? (i := 751) rfl) rfl) (jj_in (List.mem_of_getElem? (i := 28) rfl) rfl) (jj_in (List.mem_of_getElem? (i := 43) rfl) rfl) (jj_in (List.mem_of_getElem? (i := 752) rfl) rfl)) rfl h1 h2 (by decide +kernel) hR
set_option maxRecDepth 100000 in
theorem q_Ref_179 {R : Room} {s : State} {args : Array Value} (hts : ∀ w ∈ jw_t, w.before args s = true) {rm : Room} (h1 : rm.cells = 0) (h2 : rm.slots = 0) (hR : rm.frames + 1 ≤ R.frames ∧ 8 + (6 + 11) + rm.locals ≤ R.locals) : CallW R s args RX8 yX8_route.cls 179 yX8_route cX8_route 6 none (Cond.code yX8_route cX8_route 6 none :: jw_t) rm 0 0 2 := cwV 2 hts (jj_gV jj_gT (jj_in (List.mem_of_getElem? (i := 753) rfl) rfl) (jj_in (List.mem_of_getElem? (i := 755) rfl) rfl) (jj_in (List.mem_of_getElem? (i := 29) rfl) rfl) (jj_in (List.mem_of_getElem? (i := 43) rfl) rfl) (jj_in (List.mem_of_getElem? (i := 756) rfl) rfl)) rfl h1 h2 (by decide +kernel) hR
set_option maxRecDepth 100000 in
theorem q_Ref_182 {R : Room} {s : State} {args : Array Value} (hts : ∀ w ∈ jw_t, w.before args s = true) {rm : Room} (h1 : rm.cells = 0) (h2 : rm.slots = 0) (hR : rm.frames + 1 ≤ R.frames ∧ 8 + (4 + 11) + rm.locals ≤ R.locals) : CallW R s args RX8 yX8_tick.cls 182 yX8_tick cX8_tick 4 none (Cond.code yX8_tick cX8_tick 4 none :: jw_t) rm 0 0 0 := cwV 0 hts (jj_gV jj_gT (jj_in (List.mem_of_getElem? (i := 693) rfl) rfl) (jj_in (List.mem_of_getElem? (i := 695) rfl) rfl) (jj_in (List.mem_of_getElem? (i := 14) rfl) rfl) (jj_in (List.mem_of_getElem? (i := 43) rfl) rfl) (jj_in (List.mem_of_getElem? (i := 696) rfl) rfl)) rfl h1 h2 (by decide +kernel) hR
set_option maxRecDepth 100000 in
theorem q_Ref_185 {R : Room} {s : State} {args : Array Value} (hts : ∀ w ∈ jw_t, w.before args s = true) {rm : Room} (h1 : rm.cells = 0) (h2 : rm.slots = 0) (hR : rm.frames + 1 ≤ R.frames ∧ 8 + (4 + 11) + rm.locals ≤ R.locals) : CallW R s args RX8 yX8_isPlace.cls 185 yX8_isPlace cX8_isPlace 4 (some .boolean) (Cond.code yX8_isPlace cX8_isPlace 4 (some .boolean) :: jw_t) rm 0 0 3 := cwV 3 hts (jj_gV jj_gT (jj_in (List.mem_of_getElem? (i := 785) rfl) rfl) (jj_in (List.mem_of_getElem? (i := 787) rfl) rfl) (jj_in (List.mem_of_getElem? (i := 31) rfl) rfl) (jj_in (List.mem_of_getElem? (i := 43) rfl) rfl) (jj_in (List.mem_of_getElem? (i := 788) rfl) rfl)) rfl h1 h2 (by decide +kernel) hR
set_option maxRecDepth 100000 in
theorem q_Ref_188 {R : Room} {s : State} {args : Array Value} (hts : ∀ w ∈ jw_t, w.before args s = true) {rm : Room} (h1 : rm.cells = 0) (h2 : rm.slots = 0) (hR : rm.frames + 1 ≤ R.frames ∧ 8 + (5 + 11) + rm.locals ≤ R.locals) : CallW R s args RX8 yX8_leads.cls 188 yX8_leads cX8_leads 5 (some .boolean) (Cond.code yX8_leads cX8_leads 5 (some .boolean) :: jw_t) rm 0 0 2 := cwV 2 hts (jj_gV jj_gT (jj_in (List.mem_of_getElem? (i := 793) rfl) rfl) (jj_in (List.mem_of_getElem? (i := 795) rfl) rfl) (jj_in (List.mem_of_getElem? (i := 32) rfl) rfl) (jj_in (List.mem_of_getElem? (i := 43) rfl) rfl) (jj_in (List.mem_of_getElem? (i := 796) rfl) rfl)) rfl h1 h2 (by decide +kernel) hR
def gm : List jj_H := [.inl (8, [none, none, none, none, none, none, some (some 1), some (some 2), some (some 3), some (some 4), some (some 5), some (some 6), none, some (some 7), some (some 8), none, none, some (some 9), some (some 10), some (some 11), some (some 12), some (some 13), some (some 14), some (some 15), some (some 16), some (some 17), some (some 18), some (some 19), some (some 20), some (some 21), some (some 22), some (some 23), some (some 24), some (some 25), some (some 26), some (some 27), some (some 28)]), .inr (.int, 400), .inr (.int, 400), .inr (.boolean, 400), .inr (.int, 400), .inr (.int, 400), .inr (.int, 400), .inr (.int, 400), .inr (.int, 400), .inr (.int, 72), .inr (.boolean, 9), .inr (.int, 9), .inr (.int, 36), .inr (.int, 9), .inr (.int, 9), .inr (.int, 18), .inr (.int, 9), .inr (.int, 216), .inr (.int, 864), .inr (.int, 216), .inr (.int, 216), .inr (.int, 216), .inr (.int, 180), .inr (.int, 180), .inr (.boolean, 180), .inr (.int, 180), .inr (.int, 45), .inr (.int, 45), .inr (.int, 5)]
theorem rg_0 : (gm )[0]? = some (.inl (8, [none, none, none, none, none, none, some (some 1), some (some 2), some (some 3), some (some 4), some (some 5), some (some 6), none, some (some 7), some (some 8), none, none, some (some 9), some (some 10), some (some 11), some (some 12), some (some 13), some (some 14), some (some 15), some (some 16), some (some 17), some (some 18), some (some 19), some (some 20), some (some 21), some (some 22), some (some 23), some (some 24), some (some 25), some (some 26), some (some 27), some (some 28)])) := rfl
theorem rg_1 : (gm )[1]? = some (.inr (.int, 400)) := rfl
theorem rg_2 : (gm )[2]? = some (.inr (.int, 400)) := rfl
theorem rg_3 : (gm )[3]? = some (.inr (.boolean, 400)) := rfl
theorem rg_4 : (gm )[4]? = some (.inr (.int, 400)) := rfl
theorem rg_5 : (gm )[5]? = some (.inr (.int, 400)) := rfl
theorem rg_6 : (gm )[6]? = some (.inr (.int, 400)) := rfl
theorem rg_7 : (gm )[7]? = some (.inr (.int, 400)) := rfl
theorem rg_8 : (gm )[8]? = some (.inr (.int, 400)) := rfl
theorem rg_9 : (gm )[9]? = some (.inr (.int, 72)) := rfl
theorem rg_10 : (gm )[10]? = some (.inr (.boolean, 9)) := rfl
theorem rg_11 : (gm )[11]? = some (.inr (.int, 9)) := rfl
theorem rg_12 : (gm )[12]? = some (.inr (.int, 36)) := rfl
theorem rg_13 : (gm )[13]? = some (.inr (.int, 9)) := rfl
theorem rg_14 : (gm )[14]? = some (.inr (.int, 9)) := rfl
theorem rg_15 : (gm )[15]? = some (.inr (.int, 18)) := rfl
theorem rg_16 : (gm )[16]? = some (.inr (.int, 9)) := rfl
theorem rg_17 : (gm )[17]? = some (.inr (.int, 216)) := rfl
theorem rg_18 : (gm )[18]? = some (.inr (.int, 864)) := rfl
theorem rg_19 : (gm )[19]? = some (.inr (.int, 216)) := rfl
theorem rg_20 : (gm )[20]? = some (.inr (.int, 216)) := rfl
theorem rg_21 : (gm )[21]? = some (.inr (.int, 216)) := rfl
theorem rg_22 : (gm )[22]? = some (.inr (.int, 180)) := rfl
theorem rg_23 : (gm )[23]? = some (.inr (.int, 180)) := rfl
theorem rg_24 : (gm )[24]? = some (.inr (.boolean, 180)) := rfl
theorem rg_25 : (gm )[25]? = some (.inr (.int, 180)) := rfl
theorem rg_26 : (gm )[26]? = some (.inr (.int, 45)) := rfl
theorem rg_27 : (gm )[27]? = some (.inr (.int, 45)) := rfl
theorem rg_28 : (gm )[28]? = some (.inr (.int, 5)) := rfl
