theorem jl_rn (q1 : Nat) (cA : FieldType → ClassId) : jj_w (jj_ad [q1]) cA [.inl (8, [none, none, none, none, none, none, some none, some none, some none, some none, some none, some none, none, some none, some none, none, none, some none, some none, some none, some none, some none, some none, some none, some none, some none, some none, some none, some none, some none, some none, some none, some none, some none, some none, some none, some none])] (fun _ _ => 0) = [(q1, .inr (8, [.int 0, .int 0, .int 0, .int 0, .int 0, .int 0, .null, .null, .null, .null, .null, .null, .int 0, .null, .null, .int 0, .int 0, .null, .null, .null, .null, .null, .null, .null, .null, .null, .null, .null, .null, .null, .null, .null, .null, .null, .null, .null, .null]))] := by
  simp only [jj_w, List.mapIdx_cons, List.mapIdx_nil, jj_cell, jj_fv]
  rfl
theorem gc_len (n S SD : Nat) : (gc n S SD).length = 38 := by simp only [gc, List.length_cons, List.length_nil]
set_option maxHeartbeats 600000 in
set_option maxRecDepth 100000 in
theorem whole_open {p : Program} {e : Env} {s : State} {m : MethodId} {below : List Frame} {meth : Method} {c : Code} (l : Launch) {b L : Nat} {xs : Nat → Int32} (hL : L ≤ 3076) (C0 : lw_At p s m meth c b L xs) {n S SD F k : Nat} {σ0 τ0 : jj_S} (h1 : f_Mesh_init n S SD F (fun _ _ => 0) (lc_v L xs 0) (lc_v L xs 1) (lc_v L xs 2) (lc_v L xs 3) = some σ0) (h2 : f_rRef_init F (fun _ _ => 0) (lc_v L xs 0) (lc_v L xs 1) (lc_v L xs 2) (lc_v L xs 3) = some τ0) (h3 : jl_lp (b_law n S SD F L xs) k σ0 τ0 4 = some ()) : W p l e room_1 s m #[Value.ref b] below meth c s.heap [] 0 0 (lw_Z below #[Value.ref b] s) (entryFrame m ([Value.ref b] : List Value).toArray 4) := by
  obtain ⟨hx, hb, hr, hml, hown, hts0, hX, hbl, hlocks, hgv⟩ := id C0
  have hown : s.vm.findClass RL = some m.cls := hown
  have hL2 : L < 2 ^ 31 := by omega
  have hts : ∀ w ∈ jw_t, w.before #[Value.ref b] s = true := fun w hw => hts0 w (List.mem_filter.mp hw).1
  have hE : jj_E s := va_Nw.of rfl (hts0 jj_nx jj_nx_in)
  obtain ⟨c0, iS0, hKn0⟩ := u_known (C := RX0) (T := TX0) (N := 3) (n := 3) hts in_Complete (hts _ it_Complete)
  obtain ⟨c1, iS1, hKn1⟩ := u_known (C := RX1) (T := TX1) (N := 7) (n := 7) hts in_Grid (hts _ it_Grid)
  obtain ⟨c2, iS2, hKn2⟩ := u_known (C := RX2) (T := TX2) (N := 8) (n := 8) hts in_Ifs (hts _ it_Ifs)
  obtain ⟨c3, iS3, hKn3⟩ := u_known (C := RX3) (T := TX3) (N := 9) (n := 9) hts in_Links (hts _ it_Links)
  obtain ⟨c4, iS4, hKn4⟩ := u_known (C := RX4) (T := TX4) (N := 7) (n := 7) hts in_Packets (hts _ it_Packets)
  obtain ⟨c5, iS5, hKn5⟩ := u_known (C := RX5) (T := TX5) (N := 5) (n := 5) hts in_Queues (hts _ it_Queues)
  obtain ⟨c6, iS6, hKn6⟩ := u_known (C := RX6) (T := TX6) (N := 10) (n := 10) hts in_Routers (hts _ it_Routers)
  obtain ⟨c7, iS7, hKn7⟩ := u_known (C := RX7) (T := TX7) (N := 6) (n := 6) hts in_Mesh (hts _ it_Mesh)
  obtain ⟨c8, iS8, hKn8⟩ := u_known (C := RX8) (T := TX8) (N := 37) (n := 37) hts in_Ref (hts _ it_Ref)
  obtain ⟨dC, dI, hKc⟩ : ∃ (dC : Nat → ClassId) (dI : Nat → Nat → Nat), ∀ (k : Nat) (q : vw_C), vwCl[k]? = some q → u_Kn s q.1 q.2.1 q.2.2 (dC k) (dI k) := by
    refine ⟨fun k => if k = 0 then c0 else if k = 1 then c1 else if k = 2 then c2 else if k = 3 then c3 else if k = 4 then c4 else if k = 5 then c5 else if k = 6 then c6 else if k = 7 then c7 else c8, fun k => if k = 0 then iS0 else if k = 1 then iS1 else if k = 2 then iS2 else if k = 3 then iS3 else if k = 4 then iS4 else if k = 5 then iS5 else if k = 6 then iS6 else if k = 7 then iS7 else iS8, ?_⟩
    intro k q hq
    match k, hq with
    | 0, hq => cases hq; exact hKn0
    | 1, hq => cases hq; exact hKn1
    | 2, hq => cases hq; exact hKn2
    | 3, hq => cases hq; exact hKn3
    | 4, hq => cases hq; exact hKn4
    | 5, hq => cases hq; exact hKn5
    | 6, hq => cases hq; exact hKn6
    | 7, hq => cases hq; exact hKn7
    | 8, hq => cases hq; exact hKn8
    | k + 9, hq => simp [vwCl] at hq
  obtain ⟨cI, hcI⟩ := jl_arr (Or.inl rfl) (hts (.arrayClass .int) ac_int)
  obtain ⟨cZ, hcZ⟩ := jl_arr (Or.inr rfl) (hts (.arrayClass .boolean) ac_boolean)
  obtain ⟨cA, hcA1, hcA2⟩ : ∃ cA : FieldType → ClassId, cA .int = cI ∧ cA .boolean = cZ := ⟨fun t => match t with | .int => cI | _ => cZ, rfl, rfl⟩
  have hK : va_K (dC, dI) vwCl (jj_t cA) s := by
    refine ⟨hKc, fun k q hk => ?_⟩
    match k, hk with
    | 0, hk => cases hk; rw [hcA1]; exact hcI
    | 1, hk => cases hk; rw [hcA2]; exact hcZ
    | k + 2, hk => simp [jj_t] at hk
  have hA : ∀ q : Nat, s.heap.size ≤ q → (fun q : Nat => s.heap.size ≤ q) q := fun _ h => h
  have hbA : ¬ (fun q : Nat => s.heap.size ≤ q) b := Nat.not_le.mpr hbl
  have hS : va_S (fun q : Nat => s.heap.size ≤ q) s.heap s.heap [] := va_S.rf
  have hP : va_P (dC, dI) vwCl [] s.heap := fun k q h => by simp at h
  have hD : va_D (fun q : Nat => s.heap.size ≤ q) [] := ⟨fun i j p q h => by simp at h, fun k q h => by simp at h⟩
  have hl := lv_entry ([.ref b]) (n := 4) (Nat.le_of_ble_eq_true rfl)
  rw [lg_entry_eq]
  generalize (lg_sl ([.ref b]) ++ List.replicate (4 - (lg_sl ([.ref b])).length) Slot.unset).toArray = ls at hl ⊢
  have hl : lv_has ls 4 [(0, .ref b)] := hl
  refine va_new (ci := 7) (fs := [.null, .null, .null, .null, .null, .int 0]) (C := RX7) (T := TX7) (N := 6) hx hb hts in_Mesh tyX7 tyX7_ok hown (hts _ cl_Law_7) (hts _ it_Mesh) (hts _ iz_Mesh) hK hP hD hS hA rfl (fun j hj => by rcases (show j = 0 ∨ j = 1 ∨ j = 2 ∨ j = 3 ∨ j = 4 ∨ j = 5 by omega) with rfl | rfl | rfl | rfl | rfl | rfl <;> rfl) (Nat.le_of_ble_eq_true rfl) (Nat.le_of_ble_eq_true rfl) dL_law_0 (fun q0 H hP hD hS => ?_)
  have hP : va_P (dC, dI) vwCl (jj_w (jj_ad [q0]) cA [.inl (7, [some none, some none, some none, some none, some none, none])] (fun _ _ => 0)) H := hP
  have hD : va_D (fun q : Nat => s.heap.size ≤ q) (jj_w (jj_ad [q0]) cA [.inl (7, [some none, some none, some none, some none, some none, none])] (fun _ _ => 0)) := hD
  refine W.widen (k := 1) (n := 1000) (by omega) (by omega) ?_
  refine lv_dup hx hb dL_law_3 rfl ?_
  refine lv_aload_n hx hb dL_law_4 rfl (lv_at hl 0 rfl) ?_
  refine lv_iconst (v := 0) hx hb dL_law_5 (by decide) ?_
  refine jl_cell (k := 0) (rest := [.ref q0, .ref q0]) hx hb hml hown hts hL2 (by decide) hX hbl hbA hl hP hS ⟨Nat.le_of_ble_eq_true rfl, Nat.le_of_ble_eq_true rfl⟩ (Nat.le_of_ble_eq_true rfl) dL_law_6 (fun H locs hP hS _ => ?_)
  refine lv_aload_n hx hb dL_law_9 rfl (lv_at hl 0 rfl) ?_
  refine lv_iconst (v := 1) hx hb dL_law_10 (by decide) ?_
  refine jl_cell (k := 1) (rest := [.int (lc_v L xs 0), .ref q0, .ref q0]) hx hb hml hown hts hL2 (by decide) hX hbl hbA hl hP hS ⟨Nat.le_of_ble_eq_true rfl, Nat.le_of_ble_eq_true rfl⟩ (Nat.le_of_ble_eq_true rfl) dL_law_11 (fun H locs hP hS _ => ?_)
  refine lv_aload_n hx hb dL_law_14 rfl (lv_at hl 0 rfl) ?_
  refine lv_iconst (v := 2) hx hb dL_law_15 (by decide) ?_
  refine jl_cell (k := 2) (rest := [.int (lc_v L xs 1), .int (lc_v L xs 0), .ref q0, .ref q0]) hx hb hml hown hts hL2 (by decide) hX hbl hbA hl hP hS ⟨Nat.le_of_ble_eq_true rfl, Nat.le_of_ble_eq_true rfl⟩ (Nat.le_of_ble_eq_true rfl) dL_law_16 (fun H locs hP hS _ => ?_)
  refine lv_aload_n hx hb dL_law_19 rfl (lv_at hl 0 rfl) ?_
  refine lv_iconst (v := 3) hx hb dL_law_20 (by decide) ?_
  refine jl_cell (k := 3) (rest := [.int (lc_v L xs 2), .int (lc_v L xs 1), .int (lc_v L xs 0), .ref q0, .ref q0]) hx hb hml hown hts hL2 (by decide) hX hbl hbA hl hP hS ⟨Nat.le_of_ble_eq_true rfl, Nat.le_of_ble_eq_true rfl⟩ (Nat.le_of_ble_eq_true rfl) dL_law_21 (fun H locs hP hS _ => ?_)
  have hF : ∀ q, va_A (jj_w (jj_ad [q0]) cA [.inl (7, [some none, some none, some none, some none, some none, none])] (fun _ _ => 0)) H.size q → s.heap.size ≤ q := fun q hq => by
    rcases hq with ⟨j, e1, hj⟩ | hq
    · exact hD.2 j _ hj
    · exact Nat.le_trans hS.1 hq
  refine va_callv (va_runI (As := [.int (lc_v L xs 0), .int (lc_v L xs 1), .int (lc_v L xs 2), .int (lc_v L xs 3)]) (rest := [.ref q0]) ⟨hx, hb, hml, hown, hts⟩ (c_Mesh_init (l := l) (D := (dC, dI)) (cA := cA) (q0 := q0) h1 H.size) (qi_Law_15 hts rfl rfl ⟨Nat.le_of_ble_eq_true rfl, Nat.le_of_ble_eq_true rfl⟩) ⟨fun a U g mk q => by obtain ⟨q0, q1, qP, qK, qD, qE⟩ := q; exact ⟨q0, q1, qP, va_K.moved (u := U) (U := U.calling g mk a) (Vm.Alike.refl U.vm) qK, qD, jj_Ec a U g mk qE⟩, fun U hU hW => ⟨rfl, by rw [hU], by rw [hU]; exact hP, va_K.moved hW.alike hK, hD.weaken (fun _ _ _ _ => trivial), jj_Ew hE U hW⟩⟩ rfl rfl hl.1 rfl (lv_room (Nat.le_of_ble_eq_true rfl)) dL_law_24 ⟨Nat.le_of_ble_eq_true rfl, Nat.le_of_ble_eq_true rfl⟩) hS (fun q _ h => hF q h) hF (fun u t H1 locs ht hvm hw hB hz1 hk1 hS => ?_)
  rw [ht] at hB
  obtain ⟨hP0, hD0⟩ := hB
  have hP1 : va_P (dC, dI) vwCl (jj_w (jj_ad ([q0] ++ u)) cA (gc n S SD) σ0) H1 := hP0
  have hD1 : va_D (fun q : Nat => s.heap.size ≤ q) (jj_w (jj_ad ([q0] ++ u)) cA (gc n S SD) σ0) := hD0.weaken (fun _ q _ h => hF _ h)
  clear hP0 hD0
  generalize had1 : jj_ad ([q0] ++ u) = ad1 at hP1 hD1
  have hq0 : q0 = ad1 0 := by rw [← had1]; rfl
  clear hP hD hF hk1
  generalize H1 = H at hP1 hS ⊢
  subst hq0
  refine lv_astore_n (lv' := [(1, .ref (ad1 0)), (0, .ref b)]) hx hb dL_law_27 rfl hl (by decide) rfl (fun ls hl => ?_)
  refine va_new (ci := 8) (fs := [.int 0, .int 0, .int 0, .int 0, .int 0, .int 0, .null, .null, .null, .null, .null, .null, .int 0, .null, .null, .int 0, .int 0, .null, .null, .null, .null, .null, .null, .null, .null, .null, .null, .null, .null, .null, .null, .null, .null, .null, .null, .null, .null]) (C := RX8) (T := TX8) (N := 37) hx hb hts in_Ref tyX8 tyX8_ok hown (hts _ cl_Law_18) (hts _ it_Ref) (hts _ iz_Ref) hK hP1 hD1 hS hA rfl (fun j hj => by rcases (show j = 0 ∨ j = 1 ∨ j = 2 ∨ j = 3 ∨ j = 4 ∨ j = 5 ∨ j = 6 ∨ j = 7 ∨ j = 8 ∨ j = 9 ∨ j = 10 ∨ j = 11 ∨ j = 12 ∨ j = 13 ∨ j = 14 ∨ j = 15 ∨ j = 16 ∨ j = 17 ∨ j = 18 ∨ j = 19 ∨ j = 20 ∨ j = 21 ∨ j = 22 ∨ j = 23 ∨ j = 24 ∨ j = 25 ∨ j = 26 ∨ j = 27 ∨ j = 28 ∨ j = 29 ∨ j = 30 ∨ j = 31 ∨ j = 32 ∨ j = 33 ∨ j = 34 ∨ j = 35 ∨ j = 36 by omega) with rfl | rfl | rfl | rfl | rfl | rfl | rfl | rfl | rfl | rfl | rfl | rfl | rfl | rfl | rfl | rfl | rfl | rfl | rfl | rfl | rfl | rfl | rfl | rfl | rfl | rfl | rfl | rfl | rfl | rfl | rfl | rfl | rfl | rfl | rfl | rfl | rfl <;> rfl) (Nat.le_of_ble_eq_true rfl) (Nat.le_of_ble_eq_true rfl) dL_law_28 (fun q1 H hP hD hS => ?_)
  rw [← jl_rn q1 cA] at hP hD
  refine W.widen (k := 39) (n := 39000) (by omega) (by omega) ?_
  refine lv_dup hx hb dL_law_31 rfl ?_
  refine lv_aload_n hx hb dL_law_32 rfl (lv_at hl 1 rfl) ?_
  refine lv_iconst (v := 0) hx hb dL_law_33 (by decide) ?_
  refine jl_cell (k := 0) (rest := [.ref q1, .ref q1]) hx hb hml hown hts hL2 (by decide) hX hbl hbA hl hP hS ⟨Nat.le_of_ble_eq_true rfl, Nat.le_of_ble_eq_true rfl⟩ (Nat.le_of_ble_eq_true rfl) dL_law_34 (fun H locs hP hS _ => ?_)
  refine lv_aload_n hx hb dL_law_37 rfl (lv_at hl 1 rfl) ?_
  refine lv_iconst (v := 1) hx hb dL_law_38 (by decide) ?_
  refine jl_cell (k := 1) (rest := [.int (lc_v L xs 0), .ref q1, .ref q1]) hx hb hml hown hts hL2 (by decide) hX hbl hbA hl hP hS ⟨Nat.le_of_ble_eq_true rfl, Nat.le_of_ble_eq_true rfl⟩ (Nat.le_of_ble_eq_true rfl) dL_law_39 (fun H locs hP hS _ => ?_)
  refine lv_aload_n hx hb dL_law_42 rfl (lv_at hl 1 rfl) ?_
  refine lv_iconst (v := 2) hx hb dL_law_43 (by decide) ?_
  refine jl_cell (k := 2) (rest := [.int (lc_v L xs 1), .int (lc_v L xs 0), .ref q1, .ref q1]) hx hb hml hown hts hL2 (by decide) hX hbl hbA hl hP hS ⟨Nat.le_of_ble_eq_true rfl, Nat.le_of_ble_eq_true rfl⟩ (Nat.le_of_ble_eq_true rfl) dL_law_44 (fun H locs hP hS _ => ?_)
  refine lv_aload_n hx hb dL_law_47 rfl (lv_at hl 1 rfl) ?_
  refine lv_iconst (v := 3) hx hb dL_law_48 (by decide) ?_
  refine jl_cell (k := 3) (rest := [.int (lc_v L xs 2), .int (lc_v L xs 1), .int (lc_v L xs 0), .ref q1, .ref q1]) hx hb hml hown hts hL2 (by decide) hX hbl hbA hl hP hS ⟨Nat.le_of_ble_eq_true rfl, Nat.le_of_ble_eq_true rfl⟩ (Nat.le_of_ble_eq_true rfl) dL_law_49 (fun H locs hP hS _ => ?_)
  obtain ⟨hP1, hP2⟩ := jl_spl hP
  have hg : (gc n S SD).length = 38 := gc_len n S SD
  have hix : ∃ ee, (jj_w ad1 cA (gc n S SD) σ0 ++ jj_w (jj_ad [q1]) cA [.inl (8, [none, none, none, none, none, none, some none, some none, some none, some none, some none, some none, none, some none, some none, none, none, some none, some none, some none, some none, some none, some none, some none, some none, some none, some none, some none, some none, some none, some none, some none, some none, some none, some none, some none, some none])] (fun _ _ => 0))[38]? = some (q1, ee) := by
    rw [List.getElem?_append_right (by rw [jj_w_len, hg]; exact Nat.le_refl _), jj_w_len, hg]
    exact ⟨_, rfl⟩
  obtain ⟨ee, hix⟩ := hix
  have hq1 : s.heap.size ≤ q1 := hD.2 38 (q1, ee) hix
  have hne : ∀ i, i < (gc n S SD).length → ad1 i ≠ q1 := fun i hi e1 => by
    obtain ⟨q, hq, eq⟩ := jj_w_ex (ad := ad1) (cA := cA) (σ := σ0) hi
    have := hD.1 i 38 q (q1, ee) (by rw [List.getElem?_append_left (by rw [jj_w_len]; exact hi)]; exact hq) hix (by rw [eq, e1])
    omega
  have hD2 : va_D (fun _ : Nat => True) (jj_w (jj_ad [q1]) cA [.inl (8, [none, none, none, none, none, none, some none, some none, some none, some none, some none, some none, none, some none, some none, none, none, some none, some none, some none, some none, some none, some none, some none, some none, some none, some none, some none, some none, some none, some none, some none, some none, some none, some none, some none, some none])] (fun _ _ => 0)) := jj_dx_iff.mpr ⟨fun i j hi hj _ => by have hi : i < 1 := hi; have hj : j < 1 := hj; omega, fun _ _ => trivial⟩
  have hF : ∀ q, va_A (jj_w (jj_ad [q1]) cA [.inl (8, [none, none, none, none, none, none, some none, some none, some none, some none, some none, some none, none, some none, some none, none, none, some none, some none, some none, some none, some none, some none, some none, some none, some none, some none, some none, some none, some none, some none, some none, some none, some none, some none, some none, some none])] (fun _ _ => 0)) H.size q → q = q1 ∨ H.size ≤ q := fun q hq => by
    rcases hq with ⟨j, e1, hj⟩ | hq
    · obtain ⟨a1, a2⟩ := jj_w_at hj
      have a1 : j < 1 := a1
      obtain rfl : j = 0 := by omega
      exact Or.inl a2
    · exact Or.inr hq
  have hF2 : ∀ q, va_A (jj_w (jj_ad [q1]) cA [.inl (8, [none, none, none, none, none, none, some none, some none, some none, some none, some none, some none, none, some none, some none, none, none, some none, some none, some none, some none, some none, some none, some none, some none, some none, some none, some none, some none, some none, some none, some none, some none, some none, some none, some none, some none])] (fun _ _ => 0)) H.size q → s.heap.size ≤ q := fun q hq => by
    rcases hF q hq with rfl | hq
    · exact hq1
    · exact Nat.le_trans hS.1 hq
  refine va_callv (va_runI (As := [.int (lc_v L xs 0), .int (lc_v L xs 1), .int (lc_v L xs 2), .int (lc_v L xs 3)]) (rest := [.ref q1]) ⟨hx, hb, hml, hown, hts⟩ (c_rRef_init (l := l) (D := (dC, dI)) (cA := cA) (q0 := q1) h2 H.size) (qi_Law_20 hts rfl rfl ⟨Nat.le_of_ble_eq_true rfl, Nat.le_of_ble_eq_true rfl⟩) ⟨fun a U g mk q => by obtain ⟨q0, q1, qP, qK, qD, qE⟩ := q; exact ⟨q0, q1, qP, va_K.moved (u := U) (U := U.calling g mk a) (Vm.Alike.refl U.vm) qK, qD, jj_Ec a U g mk qE⟩, fun U hU hW => ⟨rfl, by rw [hU], by rw [hU]; exact hP2, va_K.moved hW.alike hK, hD2, jj_Ew hE U hW⟩⟩ rfl rfl hl.1 rfl (lv_room (Nat.le_of_ble_eq_true rfl)) dL_law_52 ⟨Nat.le_of_ble_eq_true rfl, Nat.le_of_ble_eq_true rfl⟩) hS (fun q _ h => hF2 q h) hF2 (fun u t H1 locs ht hvm hw hB hz1 hk1 hS => ?_)
  rw [ht] at hB
  obtain ⟨hP03, hD03⟩ := hB
  have hP3 : va_P (dC, dI) vwCl (jj_w (jj_ad ([q1] ++ u)) cA gm τ0) H1 := hP03
  have hD3 : va_D (va_A (jj_w (jj_ad [q1]) cA [.inl (8, [none, none, none, none, none, none, some none, some none, some none, some none, some none, some none, none, some none, some none, none, none, some none, some none, some none, some none, some none, some none, some none, some none, some none, some none, some none, some none, some none, some none, some none, some none, some none, some none, some none, some none])] (fun _ _ => 0)) H.size) (jj_w (jj_ad ([q1] ++ u)) cA gm τ0) := hD03
  clear hP03 hD03
  have hPx : va_P (dC, dI) vwCl (jj_w ad1 cA (gc n S SD) σ0) H1 := by
    refine hP1.kept (fun k q hk => hk1 q.1 (va_at.lt (hP1 k q hk)) (fun hq => ?_))
    obtain ⟨c1, c2⟩ := jj_w_at hk
    rcases hF _ hq with e1 | hq
    · exact hne k c1 (by rw [← c2, e1])
    · exact absurd (va_at.lt (hP1 k q hk)) (Nat.not_lt.mpr hq)
  have hcross : ∀ i j, i < (gc n S SD).length → j < gm.length → ad1 i ≠ jj_ad ([q1] ++ u) j := fun i j hi hj e1 => by
    obtain ⟨q, hq, eq⟩ := jj_w_ex (ad := jj_ad ([q1] ++ u)) (cA := cA) (σ := τ0) hj
    obtain ⟨q2, hq2, eq2⟩ := jj_w_ex (ad := ad1) (cA := cA) (σ := σ0) hi
    have h3 := hD3.2 j q hq
    rw [eq, ← e1] at h3
    rcases hF _ h3 with e2 | h4
    · exact hne i hi e2
    · have := va_at.lt (hP1 i q2 hq2)
      rw [eq2] at this
      omega
  have hD4 : va_D (fun q : Nat => s.heap.size ≤ q) (jj_w (jj_ad ([q1] ++ u)) cA gm τ0) := hD3.weaken (fun _ q _ h => hF2 _ h)
  generalize had2 : jj_ad ([q1] ++ u) = ad2 at hP3 hD4 hcross
  have hq1e : q1 = ad2 0 := by rw [← had2]; rfl
  clear hP hP1 hP2 hD hF hF2 hk1 hD2 hD3 hq1 hne
  subst hq1e
  refine lv_astore_n (lv' := [(2, .ref (ad2 0)), (1, .ref (ad1 0)), (0, .ref b)]) hx hb dL_law_55 rfl hl (by decide) rfl (fun ls hl => ?_)
  refine lv_iconst (v := 4) hx hb dL_law_56 (by decide) ?_
  refine lv_istore_n (lv' := [(3, .int 4), (2, .ref (ad2 0)), (1, .ref (ad1 0)), (0, .ref b)]) hx hb dL_law_57 rfl hl (by decide) rfl (fun ls hl => ?_)
  have C : jl_C p room_1 s m #[Value.ref b] c (dC, dI) vwCl (fun q : Nat => s.heap.size ≤ q) ad1 (gc n S SD) ad2 gm cA 4 67 67000 code RL jw_t b L xs := ⟨⟨hx, hb, hml, hown, hts, hK, hA, Nat.le_of_ble_eq_true rfl, Nat.le_of_ble_eq_true rfl⟩, ⟨hX, hbl, hbA⟩, ⟨fun _ => jj_D hD1, fun _ => jj_D hD4, hcross⟩⟩
  exact law_loop (F := F) C hr hlocks k σ0 τ0 4 () h3 H1 locs ls hPx hP3 hS (lv_sub hl [3, 2, 1, 0] rfl)
