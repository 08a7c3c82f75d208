section
-- ===== PART A: goes FIRST, ahead of the names: the tables' words, and 'selects' of the private methods out of them =====
/-- a private method of a class that the tables say can be made, by its rows of tables_1 -/
def lw_okq (q : MethodName × Nat) : Prop := (q.1.cls ≠ "java/lang/invoke/MethodHandle" ∧ q.1.cls ≠ "java/lang/invoke/VarHandle") ∧ Cond.instantiable q.1.cls q.2 ∈ tables_1 ∧ Cond.privateMethod q.1 ∈ tables_1 ∧ Cond.instanceMethod q.1 ∈ tables_1
theorem lw_p0 : lw_okq (⟨"WormMesh$Grid", "neighbour", "(II)I"⟩, 7) := ⟨⟨by decide +kernel, by decide +kernel⟩, List.mem_of_getElem? (i := 20) (by decide +kernel), List.mem_of_getElem? (i := 82) (by decide +kernel), List.mem_of_getElem? (i := 83) (by decide +kernel)⟩
theorem lw_p1 : lw_okq (⟨"WormMesh", "tick", "()V"⟩, 6) := ⟨⟨by decide +kernel, by decide +kernel⟩, List.mem_of_getElem? (i := 12) (by decide +kernel), List.mem_of_getElem? (i := 346) (by decide +kernel), List.mem_of_getElem? (i := 347) (by decide +kernel)⟩
theorem lw_p2 : lw_okq (⟨"WormMesh$Interfaces", "mayTake", "(II)Z"⟩, 8) := ⟨⟨by decide +kernel, by decide +kernel⟩, List.mem_of_getElem? (i := 167) (by decide +kernel), List.mem_of_getElem? (i := 363) (by decide +kernel), List.mem_of_getElem? (i := 364) (by decide +kernel)⟩
theorem lw_p3 : lw_okq (⟨"WormMesh$Interfaces", "accept", "(III)V"⟩, 8) := ⟨⟨by decide +kernel, by decide +kernel⟩, List.mem_of_getElem? (i := 167) (by decide +kernel), List.mem_of_getElem? (i := 379) (by decide +kernel), List.mem_of_getElem? (i := 380) (by decide +kernel)⟩
theorem lw_p4 : lw_okq (⟨"WormMesh$Interfaces", "serve", "(II)V"⟩, 8) := ⟨⟨by decide +kernel, by decide +kernel⟩, List.mem_of_getElem? (i := 167) (by decide +kernel), List.mem_of_getElem? (i := 390) (by decide +kernel), List.mem_of_getElem? (i := 391) (by decide +kernel)⟩
theorem lw_p5 : lw_okq (⟨"WormMesh$Interfaces", "sendFirst", "(ILWormMesh$Queues;)Z"⟩, 8) := ⟨⟨by decide +kernel, by decide +kernel⟩, List.mem_of_getElem? (i := 167) (by decide +kernel), List.mem_of_getElem? (i := 399) (by decide +kernel), List.mem_of_getElem? (i := 400) (by decide +kernel)⟩
theorem lw_p6 : lw_okq (⟨"WormMesh$Routers", "readyChannel", "(II)I"⟩, 10) := ⟨⟨by decide +kernel, by decide +kernel⟩, List.mem_of_getElem? (i := 248) (by decide +kernel), List.mem_of_getElem? (i := 430) (by decide +kernel), List.mem_of_getElem? (i := 431) (by decide +kernel)⟩
theorem lw_p7 : lw_okq (⟨"WormMesh$Routers", "isReady", "(III)Z"⟩, 10) := ⟨⟨by decide +kernel, by decide +kernel⟩, List.mem_of_getElem? (i := 248) (by decide +kernel), List.mem_of_getElem? (i := 434) (by decide +kernel), List.mem_of_getElem? (i := 435) (by decide +kernel)⟩
theorem lw_p8 : lw_okq (⟨"WormMesh$Routers", "chosenPort", "(II)I"⟩, 10) := ⟨⟨by decide +kernel, by decide +kernel⟩, List.mem_of_getElem? (i := 248) (by decide +kernel), List.mem_of_getElem? (i := 439) (by decide +kernel), List.mem_of_getElem? (i := 440) (by decide +kernel)⟩
theorem lw_p9 : lw_okq (⟨"WormMesh$Routers", "move", "(III)V"⟩, 10) := ⟨⟨by decide +kernel, by decide +kernel⟩, List.mem_of_getElem? (i := 248) (by decide +kernel), List.mem_of_getElem? (i := 443) (by decide +kernel), List.mem_of_getElem? (i := 444) (by decide +kernel)⟩
theorem lw_p10 : lw_okq (⟨"WormMesh$Routers", "grantIfFree", "(III)V"⟩, 10) := ⟨⟨by decide +kernel, by decide +kernel⟩, List.mem_of_getElem? (i := 248) (by decide +kernel), List.mem_of_getElem? (i := 454) (by decide +kernel), List.mem_of_getElem? (i := 455) (by decide +kernel)⟩
theorem lw_p11 : lw_okq (⟨"WormMesh$Routers", "wayTo", "(II)I"⟩, 10) := ⟨⟨by decide +kernel, by decide +kernel⟩, List.mem_of_getElem? (i := 248) (by decide +kernel), List.mem_of_getElem? (i := 469) (by decide +kernel), List.mem_of_getElem? (i := 470) (by decide +kernel)⟩
theorem lw_p12 : lw_okq (⟨"WormMesh", "isRouterPlace", "(III)Z"⟩, 6) := ⟨⟨by decide +kernel, by decide +kernel⟩, List.mem_of_getElem? (i := 12) (by decide +kernel), List.mem_of_getElem? (i := 499) (by decide +kernel), List.mem_of_getElem? (i := 500) (by decide +kernel)⟩
theorem lw_p13 : lw_okq (⟨"WormMeshModel", "isNode", "(I)Z"⟩, 37) := ⟨⟨by decide +kernel, by decide +kernel⟩, List.mem_of_getElem? (i := 523) (by decide +kernel), List.mem_of_getElem? (i := 649) (by decide +kernel), List.mem_of_getElem? (i := 650) (by decide +kernel)⟩
theorem lw_p14 : lw_okq (⟨"WormMeshModel", "tick", "()V"⟩, 37) := ⟨⟨by decide +kernel, by decide +kernel⟩, List.mem_of_getElem? (i := 523) (by decide +kernel), List.mem_of_getElem? (i := 661) (by decide +kernel), List.mem_of_getElem? (i := 662) (by decide +kernel)⟩
theorem lw_p15 : lw_okq (⟨"WormMeshModel", "arrive", "()V"⟩, 37) := ⟨⟨by decide +kernel, by decide +kernel⟩, List.mem_of_getElem? (i := 523) (by decide +kernel), List.mem_of_getElem? (i := 665) (by decide +kernel), List.mem_of_getElem? (i := 666) (by decide +kernel)⟩
def lw_privs_1 : List (MethodName × Nat) := [(⟨"WormMesh$Grid", "neighbour", "(II)I"⟩, 7), (⟨"WormMesh", "tick", "()V"⟩, 6), (⟨"WormMesh$Interfaces", "mayTake", "(II)Z"⟩, 8), (⟨"WormMesh$Interfaces", "accept", "(III)V"⟩, 8), (⟨"WormMesh$Interfaces", "serve", "(II)V"⟩, 8), (⟨"WormMesh$Interfaces", "sendFirst", "(ILWormMesh$Queues;)Z"⟩, 8), (⟨"WormMesh$Routers", "readyChannel", "(II)I"⟩, 10), (⟨"WormMesh$Routers", "isReady", "(III)Z"⟩, 10), (⟨"WormMesh$Routers", "chosenPort", "(II)I"⟩, 10), (⟨"WormMesh$Routers", "move", "(III)V"⟩, 10), (⟨"WormMesh$Routers", "grantIfFree", "(III)V"⟩, 10), (⟨"WormMesh$Routers", "wayTo", "(II)I"⟩, 10), (⟨"WormMesh", "isRouterPlace", "(III)Z"⟩, 6), (⟨"WormMeshModel", "isNode", "(I)Z"⟩, 37), (⟨"WormMeshModel", "tick", "()V"⟩, 37), (⟨"WormMeshModel", "arrive", "()V"⟩, 37)]
theorem lw_r1 : ∀ q ∈ lw_privs_1, lw_okq q := List.forall_mem_cons.mpr ⟨lw_p0, List.forall_mem_cons.mpr ⟨lw_p1, List.forall_mem_cons.mpr ⟨lw_p2, List.forall_mem_cons.mpr ⟨lw_p3, List.forall_mem_cons.mpr ⟨lw_p4, List.forall_mem_cons.mpr ⟨lw_p5, List.forall_mem_cons.mpr ⟨lw_p6, List.forall_mem_cons.mpr ⟨lw_p7, List.forall_mem_cons.mpr ⟨lw_p8, List.forall_mem_cons.mpr ⟨lw_p9, List.forall_mem_cons.mpr ⟨lw_p10, List.forall_mem_cons.mpr ⟨lw_p11, List.forall_mem_cons.mpr ⟨lw_p12, List.forall_mem_cons.mpr ⟨lw_p13, List.forall_mem_cons.mpr ⟨lw_p14, List.forall_mem_cons.mpr ⟨lw_p15, fun _ h => absurd h List.not_mem_nil⟩⟩⟩⟩⟩⟩⟩⟩⟩⟩⟩⟩⟩⟩⟩⟩
theorem lw_p16 : lw_okq (⟨"WormMeshModel", "takeAt", "(II)V"⟩, 37) := ⟨⟨by decide +kernel, by decide +kernel⟩, List.mem_of_getElem? (i := 523) (by decide +kernel), List.mem_of_getElem? (i := 669) (by decide +kernel), List.mem_of_getElem? (i := 670) (by decide +kernel)⟩
theorem lw_p17 : lw_okq (⟨"WormMeshModel", "isLast", "(I)Z"⟩, 37) := ⟨⟨by decide +kernel, by decide +kernel⟩, List.mem_of_getElem? (i := 523) (by decide +kernel), List.mem_of_getElem? (i := 673) (by decide +kernel), List.mem_of_getElem? (i := 674) (by decide +kernel)⟩
theorem lw_p18 : lw_okq (⟨"WormMeshModel", "length", "(I)I"⟩, 37) := ⟨⟨by decide +kernel, by decide +kernel⟩, List.mem_of_getElem? (i := 523) (by decide +kernel), List.mem_of_getElem? (i := 677) (by decide +kernel), List.mem_of_getElem? (i := 678) (by decide +kernel)⟩
theorem lw_p19 : lw_okq (⟨"WormMeshModel", "take", "(I)I"⟩, 37) := ⟨⟨by decide +kernel, by decide +kernel⟩, List.mem_of_getElem? (i := 523) (by decide +kernel), List.mem_of_getElem? (i := 681) (by decide +kernel), List.mem_of_getElem? (i := 682) (by decide +kernel)⟩
theorem lw_p20 : lw_okq (⟨"WormMeshModel", "sendAt", "(I)V"⟩, 37) := ⟨⟨by decide +kernel, by decide +kernel⟩, List.mem_of_getElem? (i := 523) (by decide +kernel), List.mem_of_getElem? (i := 685) (by decide +kernel), List.mem_of_getElem? (i := 686) (by decide +kernel)⟩
theorem lw_p21 : lw_okq (⟨"WormMeshModel", "channelOf", "(I)I"⟩, 37) := ⟨⟨by decide +kernel, by decide +kernel⟩, List.mem_of_getElem? (i := 523) (by decide +kernel), List.mem_of_getElem? (i := 689) (by decide +kernel), List.mem_of_getElem? (i := 690) (by decide +kernel)⟩
theorem lw_p22 : lw_okq (⟨"WormMeshModel", "send", "(II)V"⟩, 37) := ⟨⟨by decide +kernel, by decide +kernel⟩, List.mem_of_getElem? (i := 523) (by decide +kernel), List.mem_of_getElem? (i := 693) (by decide +kernel), List.mem_of_getElem? (i := 694) (by decide +kernel)⟩
theorem lw_p23 : lw_okq (⟨"WormMeshModel", "move", "(I)V"⟩, 37) := ⟨⟨by decide +kernel, by decide +kernel⟩, List.mem_of_getElem? (i := 523) (by decide +kernel), List.mem_of_getElem? (i := 697) (by decide +kernel), List.mem_of_getElem? (i := 698) (by decide +kernel)⟩
theorem lw_p24 : lw_okq (⟨"WormMeshModel", "name", "(II)I"⟩, 37) := ⟨⟨by decide +kernel, by decide +kernel⟩, List.mem_of_getElem? (i := 523) (by decide +kernel), List.mem_of_getElem? (i := 701) (by decide +kernel), List.mem_of_getElem? (i := 702) (by decide +kernel)⟩
theorem lw_p25 : lw_okq (⟨"WormMeshModel", "ready", "(III)Z"⟩, 37) := ⟨⟨by decide +kernel, by decide +kernel⟩, List.mem_of_getElem? (i := 523) (by decide +kernel), List.mem_of_getElem? (i := 705) (by decide +kernel), List.mem_of_getElem? (i := 706) (by decide +kernel)⟩
theorem lw_p26 : lw_okq (⟨"WormMeshModel", "beyond", "(III)I"⟩, 37) := ⟨⟨by decide +kernel, by decide +kernel⟩, List.mem_of_getElem? (i := 523) (by decide +kernel), List.mem_of_getElem? (i := 709) (by decide +kernel), List.mem_of_getElem? (i := 710) (by decide +kernel)⟩
theorem lw_p27 : lw_okq (⟨"WormMeshModel", "moveTo", "(II)V"⟩, 37) := ⟨⟨by decide +kernel, by decide +kernel⟩, List.mem_of_getElem? (i := 523) (by decide +kernel), List.mem_of_getElem? (i := 713) (by decide +kernel), List.mem_of_getElem? (i := 714) (by decide +kernel)⟩
theorem lw_p28 : lw_okq (⟨"WormMeshModel", "grant", "(III)V"⟩, 37) := ⟨⟨by decide +kernel, by decide +kernel⟩, List.mem_of_getElem? (i := 523) (by decide +kernel), List.mem_of_getElem? (i := 717) (by decide +kernel), List.mem_of_getElem? (i := 718) (by decide +kernel)⟩
theorem lw_p29 : lw_okq (⟨"WormMeshModel", "route", "(II)V"⟩, 37) := ⟨⟨by decide +kernel, by decide +kernel⟩, List.mem_of_getElem? (i := 523) (by decide +kernel), List.mem_of_getElem? (i := 721) (by decide +kernel), List.mem_of_getElem? (i := 722) (by decide +kernel)⟩
theorem lw_p30 : lw_okq (⟨"WormMeshModel", "target", "(I)I"⟩, 37) := ⟨⟨by decide +kernel, by decide +kernel⟩, List.mem_of_getElem? (i := 523) (by decide +kernel), List.mem_of_getElem? (i := 725) (by decide +kernel), List.mem_of_getElem? (i := 726) (by decide +kernel)⟩
theorem lw_p31 : lw_okq (⟨"WormMeshModel", "isPlace", "(III)Z"⟩, 37) := ⟨⟨by decide +kernel, by decide +kernel⟩, List.mem_of_getElem? (i := 523) (by decide +kernel), List.mem_of_getElem? (i := 753) (by decide +kernel), List.mem_of_getElem? (i := 754) (by decide +kernel)⟩
def lw_privs_2 : List (MethodName × Nat) := [(⟨"WormMeshModel", "takeAt", "(II)V"⟩, 37), (⟨"WormMeshModel", "isLast", "(I)Z"⟩, 37), (⟨"WormMeshModel", "length", "(I)I"⟩, 37), (⟨"WormMeshModel", "take", "(I)I"⟩, 37), (⟨"WormMeshModel", "sendAt", "(I)V"⟩, 37), (⟨"WormMeshModel", "channelOf", "(I)I"⟩, 37), (⟨"WormMeshModel", "send", "(II)V"⟩, 37), (⟨"WormMeshModel", "move", "(I)V"⟩, 37), (⟨"WormMeshModel", "name", "(II)I"⟩, 37), (⟨"WormMeshModel", "ready", "(III)Z"⟩, 37), (⟨"WormMeshModel", "beyond", "(III)I"⟩, 37), (⟨"WormMeshModel", "moveTo", "(II)V"⟩, 37), (⟨"WormMeshModel", "grant", "(III)V"⟩, 37), (⟨"WormMeshModel", "route", "(II)V"⟩, 37), (⟨"WormMeshModel", "target", "(I)I"⟩, 37), (⟨"WormMeshModel", "isPlace", "(III)Z"⟩, 37)]
theorem lw_r2 : ∀ q ∈ lw_privs_2, lw_okq q := List.forall_mem_cons.mpr ⟨lw_p16, List.forall_mem_cons.mpr ⟨lw_p17, List.forall_mem_cons.mpr ⟨lw_p18, List.forall_mem_cons.mpr ⟨lw_p19, List.forall_mem_cons.mpr ⟨lw_p20, List.forall_mem_cons.mpr ⟨lw_p21, List.forall_mem_cons.mpr ⟨lw_p22, List.forall_mem_cons.mpr ⟨lw_p23, List.forall_mem_cons.mpr ⟨lw_p24, List.forall_mem_cons.mpr ⟨lw_p25, List.forall_mem_cons.mpr ⟨lw_p26, List.forall_mem_cons.mpr ⟨lw_p27, List.forall_mem_cons.mpr ⟨lw_p28, List.forall_mem_cons.mpr ⟨lw_p29, List.forall_mem_cons.mpr ⟨lw_p30, List.forall_mem_cons.mpr ⟨lw_p31, fun _ h => absurd h List.not_mem_nil⟩⟩⟩⟩⟩⟩⟩⟩⟩⟩⟩⟩⟩⟩⟩⟩
theorem lw_p32 : lw_okq (⟨"WormMeshModel", "leads", "(II)Z"⟩, 37) := ⟨⟨by decide +kernel, by decide +kernel⟩, List.mem_of_getElem? (i := 523) (by decide +kernel), List.mem_of_getElem? (i := 761) (by decide +kernel), List.mem_of_getElem? (i := 762) (by decide +kernel)⟩
def lw_privs_3 : List (MethodName × Nat) := [(⟨"WormMeshModel", "leads", "(II)Z"⟩, 37)]
theorem lw_r3 : ∀ q ∈ lw_privs_3, lw_okq q := List.forall_mem_cons.mpr ⟨lw_p32, fun _ h => absurd h List.not_mem_nil⟩
def lw_privs : List (MethodName × Nat) := lw_privs_1 ++ (lw_privs_2 ++ (lw_privs_3))
def lw_tbl : List Cond := k2_sels lw_privs ++ tables_1
theorem lw_privs_ok : ∀ q ∈ lw_privs, lw_okq q := by
  show ∀ q ∈ lw_privs_1 ++ (lw_privs_2 ++ (lw_privs_3)), lw_okq q
  exact List.forall_mem_append.mpr ⟨lw_r1, List.forall_mem_append.mpr ⟨lw_r2, lw_r3⟩⟩
end
section
def RX0 : String := "WormMesh$Complete"
def TX0 : u_T := fun k => match k with
  | 0 => ("WormMesh$Complete", "number", "[I", true)
  | 1 => ("WormMesh$Complete", "tick", "[I", true)
  | _ => ("WormMesh$Complete", "count", "I", false)
def tyX0 : Nat → FieldType := fun k => match k with
  | 0 => .array .int
  | 1 => .array .int
  | _ => .int
theorem nmX0 : ∀ a, a < 3 → ∀ b, b < 3 → a ≠ b → (TX0 a).2.1 ≠ (TX0 b).2.1 := by decide +kernel
theorem tyX0_ok : ∀ k, k < 3 → parseFieldDescriptor (TX0 k).2.2.1 = some (tyX0 k) := by decide +kernel
abbrev cX0_init : ByteArray := prog_2_method_1_code
def yX0_init : MethodName := ⟨RX0, "<init>", "()V"⟩
abbrev cX0_add : ByteArray := prog_2_method_2_code
def yX0_add : MethodName := ⟨RX0, "add", "(II)V"⟩
def RX1 : String := "WormMesh$Grid"
def TX1 : u_T := fun k => match k with
  | 0 => ("WormMesh$Grid", "width", "I", true)
  | 1 => ("WormMesh$Grid", "height", "I", true)
  | 2 => ("WormMesh$Grid", "depth", "I", true)
  | 3 => ("WormMesh$Grid", "kinds", "I", true)
  | 4 => ("WormMesh$Grid", "channelCount", "I", true)
  | 5 => ("WormMesh$Grid", "nodeCount", "I", true)
  | _ => ("WormMesh$Grid", "slotCount", "I", true)
def tyX1 : Nat → FieldType := fun k => match k with
  | 0 => .int
  | 1 => .int
  | 2 => .int
  | 3 => .int
  | 4 => .int
  | 5 => .int
  | _ => .int
theorem nmX1 : ∀ a, a < 7 → ∀ b, b < 7 → a ≠ b → (TX1 a).2.1 ≠ (TX1 b).2.1 := by decide +kernel
theorem tyX1_ok : ∀ k, k < 7 → parseFieldDescriptor (TX1 k).2.2.1 = some (tyX1 k) := by decide +kernel
abbrev cX1_init : ByteArray := prog_3_method_1_code
def yX1_init : MethodName := ⟨RX1, "<init>", "(IIII)V"⟩
abbrev cX1_within : ByteArray := prog_3_method_2_code
def yX1_within : MethodName := ⟨RX1, "within", "(II)I"⟩
abbrev cX1_hasNode : ByteArray := prog_3_method_3_code
def yX1_hasNode : MethodName := ⟨RX1, "hasNode", "(I)Z"⟩
abbrev cX1_hasChannel : ByteArray := prog_3_method_4_code
def yX1_hasChannel : MethodName := ⟨RX1, "hasChannel", "(I)Z"⟩
abbrev cX1_slot : ByteArray := prog_3_method_5_code
def yX1_slot : MethodName := ⟨RX1, "slot", "(III)I"⟩
abbrev cX1_column : ByteArray := prog_3_method_6_code
def yX1_column : MethodName := ⟨RX1, "column", "(I)I"⟩
abbrev cX1_row : ByteArray := prog_3_method_7_code
def yX1_row : MethodName := ⟨RX1, "row", "(I)I"⟩
abbrev cX1_farSlot : ByteArray := prog_3_method_8_code
def yX1_farSlot : MethodName := ⟨RX1, "farSlot", "(III)I"⟩
abbrev cX1_neighbour : ByteArray := prog_3_method_9_code
def yX1_neighbour : MethodName := ⟨RX1, "neighbour", "(II)I"⟩
abbrev cX1_opposite : ByteArray := prog_3_method_10_code
def yX1_opposite : MethodName := ⟨RX1, "opposite", "(I)I"⟩
def RX2 : String := "WormMesh$Interfaces"
def TX2 : u_T := fun k => match k with
  | 0 => ("WormMesh$Interfaces", "grid", "LWormMesh$Grid;", true)
  | 1 => ("WormMesh$Interfaces", "links", "LWormMesh$Links;", true)
  | 2 => ("WormMesh$Interfaces", "packets", "LWormMesh$Packets;", true)
  | 3 => ("WormMesh$Interfaces", "requests", "LWormMesh$Queues;", true)
  | 4 => ("WormMesh$Interfaces", "replies", "LWormMesh$Queues;", true)
  | 5 => ("WormMesh$Interfaces", "complete", "LWormMesh$Complete;", true)
  | 6 => ("WormMesh$Interfaces", "words", "[I", true)
  | _ => ("WormMesh$Interfaces", "held", "[Z", true)
def tyX2 : Nat → FieldType := fun k => match k with
  | 0 => .object "WormMesh$Grid"
  | 1 => .object "WormMesh$Links"
  | 2 => .object "WormMesh$Packets"
  | 3 => .object "WormMesh$Queues"
  | 4 => .object "WormMesh$Queues"
  | 5 => .object "WormMesh$Complete"
  | 6 => .array .int
  | _ => .array .boolean
theorem nmX2 : ∀ a, a < 8 → ∀ b, b < 8 → a ≠ b → (TX2 a).2.1 ≠ (TX2 b).2.1 := by decide +kernel
theorem tyX2_ok : ∀ k, k < 8 → parseFieldDescriptor (TX2 k).2.2.1 = some (tyX2 k) := by decide +kernel
abbrev cX2_init : ByteArray := prog_4_method_1_code
def yX2_init : MethodName := ⟨RX2, "<init>", "(LWormMesh$Grid;LWormMesh$Links;LWormMesh$Packets;)V"⟩
abbrev cX2_takeAll : ByteArray := prog_4_method_2_code
def yX2_takeAll : MethodName := ⟨RX2, "takeAll", "(I)V"⟩
abbrev cX2_mayTake : ByteArray := prog_4_method_3_code
def yX2_mayTake : MethodName := ⟨RX2, "mayTake", "(II)Z"⟩
abbrev cX2_accept : ByteArray := prog_4_method_4_code
def yX2_accept : MethodName := ⟨RX2, "accept", "(III)V"⟩
abbrev cX2_serve : ByteArray := prog_4_method_5_code
def yX2_serve : MethodName := ⟨RX2, "serve", "(II)V"⟩
abbrev cX2_sendAll : ByteArray := prog_4_method_6_code
def yX2_sendAll : MethodName := ⟨RX2, "sendAll", "()V"⟩
abbrev cX2_sendFirst : ByteArray := prog_4_method_7_code
def yX2_sendFirst : MethodName := ⟨RX2, "sendFirst", "(ILWormMesh$Queues;)Z"⟩
def RX3 : String := "WormMesh$Links"
def TX3 : u_T := fun k => match k with
  | 0 => ("WormMesh$Links", "depth", "I", true)
  | 1 => ("WormMesh$Links", "far", "[I", true)
  | 2 => ("WormMesh$Links", "flits", "[I", true)
  | 3 => ("WormMesh$Links", "first", "[I", true)
  | 4 => ("WormMesh$Links", "count", "[I", true)
  | 5 => ("WormMesh$Links", "credits", "[I", true)
  | 6 => ("WormMesh$Links", "coming", "[I", true)
  | 7 => ("WormMesh$Links", "returning", "[I", true)
  | _ => ("WormMesh$Links", "sentCount", "I", false)
def tyX3 : Nat → FieldType := fun k => match k with
  | 0 => .int
  | 1 => .array .int
  | 2 => .array .int
  | 3 => .array .int
  | 4 => .array .int
  | 5 => .array .int
  | 6 => .array .int
  | 7 => .array .int
  | _ => .int
theorem nmX3 : ∀ a, a < 9 → ∀ b, b < 9 → a ≠ b → (TX3 a).2.1 ≠ (TX3 b).2.1 := by decide +kernel
theorem tyX3_ok : ∀ k, k < 9 → parseFieldDescriptor (TX3 k).2.2.1 = some (tyX3 k) := by decide +kernel
abbrev cX3_init : ByteArray := prog_5_method_1_code
def yX3_init : MethodName := ⟨RX3, "<init>", "(LWormMesh$Grid;)V"⟩
abbrev cX3_arriveAll : ByteArray := prog_5_method_2_code
def yX3_arriveAll : MethodName := ⟨RX3, "arriveAll", "()V"⟩
abbrev cX3_firstFlit : ByteArray := prog_5_method_3_code
def yX3_firstFlit : MethodName := ⟨RX3, "firstFlit", "(I)I"⟩
abbrev cX3_takeOut : ByteArray := prog_5_method_4_code
def yX3_takeOut : MethodName := ⟨RX3, "takeOut", "(I)I"⟩
abbrev cX3_send : ByteArray := prog_5_method_5_code
def yX3_send : MethodName := ⟨RX3, "send", "(II)V"⟩
def RX4 : String := "WormMesh$Packets"
def TX4 : u_T := fun k => match k with
  | 0 => ("WormMesh$Packets", "grid", "LWormMesh$Grid;", true)
  | 1 => ("WormMesh$Packets", "from", "[I", true)
  | 2 => ("WormMesh$Packets", "to", "[I", true)
  | 3 => ("WormMesh$Packets", "write", "[Z", true)
  | 4 => ("WormMesh$Packets", "word", "[I", true)
  | 5 => ("WormMesh$Packets", "value", "[I", true)
  | _ => ("WormMesh$Packets", "made", "I", false)
def tyX4 : Nat → FieldType := fun k => match k with
  | 0 => .object "WormMesh$Grid"
  | 1 => .array .int
  | 2 => .array .int
  | 3 => .array .boolean
  | 4 => .array .int
  | 5 => .array .int
  | _ => .int
theorem nmX4 : ∀ a, a < 7 → ∀ b, b < 7 → a ≠ b → (TX4 a).2.1 ≠ (TX4 b).2.1 := by decide +kernel
theorem tyX4_ok : ∀ k, k < 7 → parseFieldDescriptor (TX4 k).2.2.1 = some (tyX4 k) := by decide +kernel
abbrev cX4_init : ByteArray := prog_6_method_1_code
def yX4_init : MethodName := ⟨RX4, "<init>", "(LWormMesh$Grid;)V"⟩
abbrev cX4_isFull : ByteArray := prog_6_method_2_code
def yX4_isFull : MethodName := ⟨RX4, "isFull", "()Z"⟩
abbrev cX4_add : ByteArray := prog_6_method_3_code
def yX4_add : MethodName := ⟨RX4, "add", "(IIZII)I"⟩
abbrev cX4_flit : ByteArray := prog_6_method_4_code
def yX4_flit : MethodName := ⟨RX4, "flit", "(IZZ)I"⟩
abbrev cX4_number : ByteArray := prog_6_method_5_code
def yX4_number : MethodName := ⟨RX4, "number", "(I)I"⟩
abbrev cX4_isOfReply : ByteArray := prog_6_method_6_code
def yX4_isOfReply : MethodName := ⟨RX4, "isOfReply", "(I)Z"⟩
abbrev cX4_isLast : ByteArray := prog_6_method_7_code
def yX4_isLast : MethodName := ⟨RX4, "isLast", "(I)Z"⟩
abbrev cX4_goal : ByteArray := prog_6_method_8_code
def yX4_goal : MethodName := ⟨RX4, "goal", "(I)I"⟩
abbrev cX4_channel : ByteArray := prog_6_method_9_code
def yX4_channel : MethodName := ⟨RX4, "channel", "(IZ)I"⟩
abbrev cX4_length : ByteArray := prog_6_method_10_code
def yX4_length : MethodName := ⟨RX4, "length", "(IZ)I"⟩
def RX5 : String := "WormMesh$Queues"
def TX5 : u_T := fun k => match k with
  | 0 => ("WormMesh$Queues", "ofReplies", "Z", true)
  | 1 => ("WormMesh$Queues", "room", "I", true)
  | 2 => ("WormMesh$Queues", "numbers", "[I", true)
  | 3 => ("WormMesh$Queues", "count", "[I", true)
  | _ => ("WormMesh$Queues", "flitsGone", "[I", true)
def tyX5 : Nat → FieldType := fun k => match k with
  | 0 => .boolean
  | 1 => .int
  | 2 => .array .int
  | 3 => .array .int
  | _ => .array .int
theorem nmX5 : ∀ a, a < 5 → ∀ b, b < 5 → a ≠ b → (TX5 a).2.1 ≠ (TX5 b).2.1 := by decide +kernel
theorem tyX5_ok : ∀ k, k < 5 → parseFieldDescriptor (TX5 k).2.2.1 = some (tyX5 k) := by decide +kernel
abbrev cX5_init : ByteArray := prog_7_method_1_code
def yX5_init : MethodName := ⟨RX5, "<init>", "(IIZ)V"⟩
abbrev cX5_isFull : ByteArray := prog_7_method_2_code
def yX5_isFull : MethodName := ⟨RX5, "isFull", "(I)Z"⟩
abbrev cX5_firstNumber : ByteArray := prog_7_method_3_code
def yX5_firstNumber : MethodName := ⟨RX5, "firstNumber", "(I)I"⟩
abbrev cX5_add : ByteArray := prog_7_method_4_code
def yX5_add : MethodName := ⟨RX5, "add", "(II)V"⟩
abbrev cX5_removeFirst : ByteArray := prog_7_method_5_code
def yX5_removeFirst : MethodName := ⟨RX5, "removeFirst", "(I)V"⟩
def RX6 : String := "WormMesh$Routers"
def TX6 : u_T := fun k => match k with
  | 0 => ("WormMesh$Routers", "grid", "LWormMesh$Grid;", true)
  | 1 => ("WormMesh$Routers", "links", "LWormMesh$Links;", true)
  | 2 => ("WormMesh$Routers", "packets", "LWormMesh$Packets;", true)
  | 3 => ("WormMesh$Routers", "stage", "[I", true)
  | 4 => ("WormMesh$Routers", "way", "[I", true)
  | 5 => ("WormMesh$Routers", "taken", "[Z", true)
  | 6 => ("WormMesh$Routers", "outputTurn", "[I", true)
  | 7 => ("WormMesh$Routers", "namingTurn", "[I", true)
  | 8 => ("WormMesh$Routers", "choosingTurn", "[I", true)
  | _ => ("WormMesh$Routers", "named", "[I", true)
def tyX6 : Nat → FieldType := fun k => match k with
  | 0 => .object "WormMesh$Grid"
  | 1 => .object "WormMesh$Links"
  | 2 => .object "WormMesh$Packets"
  | 3 => .array .int
  | 4 => .array .int
  | 5 => .array .boolean
  | 6 => .array .int
  | 7 => .array .int
  | 8 => .array .int
  | _ => .array .int
theorem nmX6 : ∀ a, a < 10 → ∀ b, b < 10 → a ≠ b → (TX6 a).2.1 ≠ (TX6 b).2.1 := by decide +kernel
theorem tyX6_ok : ∀ k, k < 10 → parseFieldDescriptor (TX6 k).2.2.1 = some (tyX6 k) := by decide +kernel
abbrev cX6_init : ByteArray := prog_8_method_1_code
def yX6_init : MethodName := ⟨RX6, "<init>", "(LWormMesh$Grid;LWormMesh$Links;LWormMesh$Packets;)V"⟩
abbrev cX6_moveAll : ByteArray := prog_8_method_2_code
def yX6_moveAll : MethodName := ⟨RX6, "moveAll", "()V"⟩
abbrev cX6_readyChannel : ByteArray := prog_8_method_3_code
def yX6_readyChannel : MethodName := ⟨RX6, "readyChannel", "(II)I"⟩
abbrev cX6_isReady : ByteArray := prog_8_method_4_code
def yX6_isReady : MethodName := ⟨RX6, "isReady", "(III)Z"⟩
abbrev cX6_chosenPort : ByteArray := prog_8_method_5_code
def yX6_chosenPort : MethodName := ⟨RX6, "chosenPort", "(II)I"⟩
abbrev cX6_move : ByteArray := prog_8_method_6_code
def yX6_move : MethodName := ⟨RX6, "move", "(III)V"⟩
abbrev cX6_grantAll : ByteArray := prog_8_method_7_code
def yX6_grantAll : MethodName := ⟨RX6, "grantAll", "()V"⟩
abbrev cX6_grantIfFree : ByteArray := prog_8_method_8_code
def yX6_grantIfFree : MethodName := ⟨RX6, "grantIfFree", "(III)V"⟩
abbrev cX6_routeAll : ByteArray := prog_8_method_9_code
def yX6_routeAll : MethodName := ⟨RX6, "routeAll", "()V"⟩
abbrev cX6_wayTo : ByteArray := prog_8_method_10_code
def yX6_wayTo : MethodName := ⟨RX6, "wayTo", "(II)I"⟩
def RX7 : String := "WormMesh"
def TX7 : u_T := fun k => match k with
  | 0 => ("WormMesh", "grid", "LWormMesh$Grid;", true)
  | 1 => ("WormMesh", "links", "LWormMesh$Links;", true)
  | 2 => ("WormMesh", "packets", "LWormMesh$Packets;", true)
  | 3 => ("WormMesh", "interfaces", "LWormMesh$Interfaces;", true)
  | 4 => ("WormMesh", "routers", "LWormMesh$Routers;", true)
  | _ => ("WormMesh", "tickCount", "I", false)
def tyX7 : Nat → FieldType := fun k => match k with
  | 0 => .object "WormMesh$Grid"
  | 1 => .object "WormMesh$Links"
  | 2 => .object "WormMesh$Packets"
  | 3 => .object "WormMesh$Interfaces"
  | 4 => .object "WormMesh$Routers"
  | _ => .int
theorem nmX7 : ∀ a, a < 6 → ∀ b, b < 6 → a ≠ b → (TX7 a).2.1 ≠ (TX7 b).2.1 := by decide +kernel
theorem tyX7_ok : ∀ k, k < 6 → parseFieldDescriptor (TX7 k).2.2.1 = some (tyX7 k) := by decide +kernel
abbrev cX7_init : ByteArray := prog_1_method_1_code
def yX7_init : MethodName := ⟨RX7, "<init>", "(IIII)V"⟩
abbrev cX7_nodes : ByteArray := prog_1_method_2_code
def yX7_nodes : MethodName := ⟨RX7, "nodes", "()I"⟩
abbrev cX7_request : ByteArray := prog_1_method_3_code
def yX7_request : MethodName := ⟨RX7, "request", "(IIZII)I"⟩
abbrev cX7_hold : ByteArray := prog_1_method_4_code
def yX7_hold : MethodName := ⟨RX7, "hold", "(IZ)Z"⟩
abbrev cX7_run : ByteArray := prog_1_method_5_code
def yX7_run : MethodName := ⟨RX7, "run", "(I)I"⟩
abbrev cX7_ticks : ByteArray := prog_1_method_6_code
def yX7_ticks : MethodName := ⟨RX7, "ticks", "()I"⟩
abbrev cX7_replies : ByteArray := prog_1_method_7_code
def yX7_replies : MethodName := ⟨RX7, "replies", "()I"⟩
abbrev cX7_reply : ByteArray := prog_1_method_8_code
def yX7_reply : MethodName := ⟨RX7, "reply", "(II)I"⟩
abbrev cX7_memory : ByteArray := prog_1_method_9_code
def yX7_memory : MethodName := ⟨RX7, "memory", "(II)I"⟩
abbrev cX7_waiting : ByteArray := prog_1_method_10_code
def yX7_waiting : MethodName := ⟨RX7, "waiting", "(I)I"⟩
abbrev cX7_lane : ByteArray := prog_1_method_11_code
def yX7_lane : MethodName := ⟨RX7, "lane", "(III)I"⟩
abbrev cX7_output : ByteArray := prog_1_method_12_code
def yX7_output : MethodName := ⟨RX7, "output", "(III)I"⟩
abbrev cX7_arrival : ByteArray := prog_1_method_13_code
def yX7_arrival : MethodName := ⟨RX7, "arrival", "(II)I"⟩
abbrev cX7_sent : ByteArray := prog_1_method_14_code
def yX7_sent : MethodName := ⟨RX7, "sent", "()I"⟩
abbrev cX7_isWord : ByteArray := prog_1_method_15_code
def yX7_isWord : MethodName := ⟨RX7, "isWord", "(I)Z"⟩
abbrev cX7_isRouterPlace : ByteArray := prog_1_method_16_code
def yX7_isRouterPlace : MethodName := ⟨RX7, "isRouterPlace", "(III)Z"⟩
abbrev cX7_tick : ByteArray := prog_1_method_17_code
def yX7_tick : MethodName := ⟨RX7, "tick", "()V"⟩
def RX8 : String := "WormMeshModel"
def TX8 : u_T := fun k => match k with
  | 0 => ("WormMeshModel", "columns", "I", true)
  | 1 => ("WormMeshModel", "rows", "I", true)
  | 2 => ("WormMeshModel", "depth", "I", true)
  | 3 => ("WormMeshModel", "spread", "I", true)
  | 4 => ("WormMeshModel", "channels", "I", true)
  | 5 => ("WormMeshModel", "made", "I", false)
  | 6 => ("WormMeshModel", "asker", "[I", true)
  | 7 => ("WormMeshModel", "owner", "[I", true)
  | 8 => ("WormMeshModel", "writes", "[Z", true)
  | 9 => ("WormMeshModel", "wordAt", "[I", true)
  | 10 => ("WormMeshModel", "value", "[I", true)
  | 11 => ("WormMeshModel", "told", "[I", true)
  | 12 => ("WormMeshModel", "complete", "I", false)
  | 13 => ("WormMeshModel", "done", "[I", true)
  | 14 => ("WormMeshModel", "when", "[I", true)
  | 15 => ("WormMeshModel", "clock", "I", false)
  | 16 => ("WormMeshModel", "moved", "I", false)
  | 17 => ("WormMeshModel", "words", "[I", true)
  | 18 => ("WormMeshModel", "held", "[Z", true)
  | 19 => ("WormMeshModel", "askCount", "[I", true)
  | 20 => ("WormMeshModel", "askQueue", "[I", true)
  | 21 => ("WormMeshModel", "askSent", "[I", true)
  | 22 => ("WormMeshModel", "replyCount", "[I", true)
  | 23 => ("WormMeshModel", "replyQueue", "[I", true)
  | 24 => ("WormMeshModel", "replySent", "[I", true)
  | 25 => ("WormMeshModel", "size", "[I", true)
  | 26 => ("WormMeshModel", "flits", "[I", true)
  | 27 => ("WormMeshModel", "coming", "[I", true)
  | 28 => ("WormMeshModel", "credits", "[I", true)
  | 29 => ("WormMeshModel", "back", "[I", true)
  | 30 => ("WormMeshModel", "stage", "[I", true)
  | 31 => ("WormMeshModel", "way", "[I", true)
  | 32 => ("WormMeshModel", "taken", "[Z", true)
  | 33 => ("WormMeshModel", "grantTurn", "[I", true)
  | 34 => ("WormMeshModel", "channelTurn", "[I", true)
  | 35 => ("WormMeshModel", "portTurn", "[I", true)
  | _ => ("WormMeshModel", "named", "[I", true)
def tyX8 : Nat → FieldType := fun k => match k with
  | 0 => .int
  | 1 => .int
  | 2 => .int
  | 3 => .int
  | 4 => .int
  | 5 => .int
  | 6 => .array .int
  | 7 => .array .int
  | 8 => .array .boolean
  | 9 => .array .int
  | 10 => .array .int
  | 11 => .array .int
  | 12 => .int
  | 13 => .array .int
  | 14 => .array .int
  | 15 => .int
  | 16 => .int
  | 17 => .array .int
  | 18 => .array .boolean
  | 19 => .array .int
  | 20 => .array .int
  | 21 => .array .int
  | 22 => .array .int
  | 23 => .array .int
  | 24 => .array .int
  | 25 => .array .int
  | 26 => .array .int
  | 27 => .array .int
  | 28 => .array .int
  | 29 => .array .int
  | 30 => .array .int
  | 31 => .array .int
  | 32 => .array .boolean
  | 33 => .array .int
  | 34 => .array .int
  | 35 => .array .int
  | _ => .array .int
theorem nmX8 : ∀ a, a < 37 → ∀ b, b < 37 → a ≠ b → (TX8 a).2.1 ≠ (TX8 b).2.1 := by decide +kernel
theorem tyX8_ok : ∀ k, k < 37 → parseFieldDescriptor (TX8 k).2.2.1 = some (tyX8 k) := by decide +kernel
abbrev cX8_init : ByteArray := prog_10_method_1_code
def yX8_init : MethodName := ⟨RX8, "<init>", "(IIII)V"⟩
abbrev cX8_nodes : ByteArray := prog_10_method_2_code
def yX8_nodes : MethodName := ⟨RX8, "nodes", "()I"⟩
abbrev cX8_isNode : ByteArray := prog_10_method_3_code
def yX8_isNode : MethodName := ⟨RX8, "isNode", "(I)Z"⟩
abbrev cX8_isPlace : ByteArray := prog_10_method_4_code
def yX8_isPlace : MethodName := ⟨RX8, "isPlace", "(III)Z"⟩
abbrev cX8_length : ByteArray := prog_10_method_5_code
def yX8_length : MethodName := ⟨RX8, "length", "(I)I"⟩
abbrev cX8_target : ByteArray := prog_10_method_6_code
def yX8_target : MethodName := ⟨RX8, "target", "(I)I"⟩
abbrev cX8_channelOf : ByteArray := prog_10_method_7_code
def yX8_channelOf : MethodName := ⟨RX8, "channelOf", "(I)I"⟩
abbrev cX8_isLast : ByteArray := prog_10_method_8_code
def yX8_isLast : MethodName := ⟨RX8, "isLast", "(I)Z"⟩
abbrev cX8_request : ByteArray := prog_10_method_9_code
def yX8_request : MethodName := ⟨RX8, "request", "(IIZII)I"⟩
abbrev cX8_hold : ByteArray := prog_10_method_10_code
def yX8_hold : MethodName := ⟨RX8, "hold", "(IZ)Z"⟩
abbrev cX8_take : ByteArray := prog_10_method_11_code
def yX8_take : MethodName := ⟨RX8, "take", "(I)I"⟩
abbrev cX8_send : ByteArray := prog_10_method_12_code
def yX8_send : MethodName := ⟨RX8, "send", "(II)V"⟩
abbrev cX8_arrive : ByteArray := prog_10_method_13_code
def yX8_arrive : MethodName := ⟨RX8, "arrive", "()V"⟩
abbrev cX8_beyond : ByteArray := prog_10_method_14_code
def yX8_beyond : MethodName := ⟨RX8, "beyond", "(III)I"⟩
abbrev cX8_takeAt : ByteArray := prog_10_method_15_code
def yX8_takeAt : MethodName := ⟨RX8, "takeAt", "(II)V"⟩
abbrev cX8_sendAt : ByteArray := prog_10_method_16_code
def yX8_sendAt : MethodName := ⟨RX8, "sendAt", "(I)V"⟩
abbrev cX8_ready : ByteArray := prog_10_method_17_code
def yX8_ready : MethodName := ⟨RX8, "ready", "(III)Z"⟩
abbrev cX8_name : ByteArray := prog_10_method_18_code
def yX8_name : MethodName := ⟨RX8, "name", "(II)I"⟩
abbrev cX8_moveTo : ByteArray := prog_10_method_19_code
def yX8_moveTo : MethodName := ⟨RX8, "moveTo", "(II)V"⟩
abbrev cX8_move : ByteArray := prog_10_method_20_code
def yX8_move : MethodName := ⟨RX8, "move", "(I)V"⟩
abbrev cX8_grant : ByteArray := prog_10_method_21_code
def yX8_grant : MethodName := ⟨RX8, "grant", "(III)V"⟩
abbrev cX8_route : ByteArray := prog_10_method_22_code
def yX8_route : MethodName := ⟨RX8, "route", "(II)V"⟩
abbrev cX8_tick : ByteArray := prog_10_method_23_code
def yX8_tick : MethodName := ⟨RX8, "tick", "()V"⟩
abbrev cX8_run : ByteArray := prog_10_method_24_code
def yX8_run : MethodName := ⟨RX8, "run", "(I)I"⟩
abbrev cX8_ticks : ByteArray := prog_10_method_25_code
def yX8_ticks : MethodName := ⟨RX8, "ticks", "()I"⟩
abbrev cX8_replies : ByteArray := prog_10_method_26_code
def yX8_replies : MethodName := ⟨RX8, "replies", "()I"⟩
abbrev cX8_reply : ByteArray := prog_10_method_27_code
def yX8_reply : MethodName := ⟨RX8, "reply", "(II)I"⟩
abbrev cX8_memory : ByteArray := prog_10_method_28_code
def yX8_memory : MethodName := ⟨RX8, "memory", "(II)I"⟩
abbrev cX8_waiting : ByteArray := prog_10_method_29_code
def yX8_waiting : MethodName := ⟨RX8, "waiting", "(I)I"⟩
abbrev cX8_lane : ByteArray := prog_10_method_30_code
def yX8_lane : MethodName := ⟨RX8, "lane", "(III)I"⟩
abbrev cX8_leads : ByteArray := prog_10_method_31_code
def yX8_leads : MethodName := ⟨RX8, "leads", "(II)Z"⟩
abbrev cX8_output : ByteArray := prog_10_method_32_code
def yX8_output : MethodName := ⟨RX8, "output", "(III)I"⟩
abbrev cX8_arrival : ByteArray := prog_10_method_33_code
def yX8_arrival : MethodName := ⟨RX8, "arrival", "(II)I"⟩
abbrev cX8_sent : ByteArray := prog_10_method_34_code
def yX8_sent : MethodName := ⟨RX8, "sent", "()I"⟩
def RL : String := "WormMeshLaw"
abbrev cL_cell : ByteArray := method_2_code
def yL_cell : MethodName := ⟨RL, "cell", "([II)I"⟩
abbrev cL_law : ByteArray := code
def yL_law : MethodName := ⟨RL, "law", "([I)Z"⟩
abbrev vwCl : List vw_C := [(RX0, TX0, 3), (RX1, TX1, 7), (RX2, TX2, 8), (RX3, TX3, 9), (RX4, TX4, 7), (RX5, TX5, 5), (RX6, TX6, 10), (RX7, TX7, 6), (RX8, TX8, 37)]
end
section
theorem dX0_init_0 : decode cX0_init 0 = .ok (.aload_n 0, 1) := by decide +kernel
theorem dX0_init_1 : decode cX0_init 1 = .ok (.invokespecial 3, 3) := by decide +kernel
theorem dX0_init_4 : decode cX0_init 4 = .ok (.aload_n 0, 1) := by decide +kernel
theorem dX0_init_5 : decode cX0_init 5 = .ok (.sipush 400, 3) := by decide +kernel
theorem dX0_init_8 : decode cX0_init 8 = .ok (.newarray .int, 2) := by decide +kernel
theorem dX0_init_10 : decode cX0_init 10 = .ok (.putfield 9, 3) := by decide +kernel
theorem dX0_init_13 : decode cX0_init 13 = .ok (.aload_n 0, 1) := by decide +kernel
theorem dX0_init_14 : decode cX0_init 14 = .ok (.sipush 400, 3) := by decide +kernel
theorem dX0_init_17 : decode cX0_init 17 = .ok (.newarray .int, 2) := by decide +kernel
theorem dX0_init_19 : decode cX0_init 19 = .ok (.putfield 15, 3) := by decide +kernel
theorem dX0_init_22 : decode cX0_init 22 = .ok (.return_, 1) := by decide +kernel
theorem dX0_add_0 : decode cX0_add 0 = .ok (.aload_n 0, 1) := by decide +kernel
theorem dX0_add_1 : decode cX0_add 1 = .ok (.getfield 9, 3) := by decide +kernel
theorem dX0_add_4 : decode cX0_add 4 = .ok (.aload_n 0, 1) := by decide +kernel
theorem dX0_add_5 : decode cX0_add 5 = .ok (.getfield 18, 3) := by decide +kernel
theorem dX0_add_8 : decode cX0_add 8 = .ok (.iload_n 1, 1) := by decide +kernel
theorem dX0_add_9 : decode cX0_add 9 = .ok (.iastore, 1) := by decide +kernel
theorem dX0_add_10 : decode cX0_add 10 = .ok (.aload_n 0, 1) := by decide +kernel
theorem dX0_add_11 : decode cX0_add 11 = .ok (.getfield 15, 3) := by decide +kernel
theorem dX0_add_14 : decode cX0_add 14 = .ok (.aload_n 0, 1) := by decide +kernel
theorem dX0_add_15 : decode cX0_add 15 = .ok (.getfield 18, 3) := by decide +kernel
theorem dX0_add_18 : decode cX0_add 18 = .ok (.iload_n 2, 1) := by decide +kernel
theorem dX0_add_19 : decode cX0_add 19 = .ok (.iastore, 1) := by decide +kernel
theorem dX0_add_20 : decode cX0_add 20 = .ok (.aload_n 0, 1) := by decide +kernel
theorem dX0_add_21 : decode cX0_add 21 = .ok (.dup, 1) := by decide +kernel
theorem dX0_add_22 : decode cX0_add 22 = .ok (.getfield 18, 3) := by decide +kernel
theorem dX0_add_25 : decode cX0_add 25 = .ok (.iconst 1, 1) := by decide +kernel
theorem dX0_add_26 : decode cX0_add 26 = .ok (.iadd, 1) := by decide +kernel
theorem dX0_add_27 : decode cX0_add 27 = .ok (.putfield 18, 3) := by decide +kernel
theorem dX0_add_30 : decode cX0_add 30 = .ok (.return_, 1) := by decide +kernel
theorem dX1_init_0 : decode cX1_init 0 = .ok (.aload_n 0, 1) := by decide +kernel
theorem dX1_init_1 : decode cX1_init 1 = .ok (.invokespecial 3, 3) := by decide +kernel
theorem dX1_init_4 : decode cX1_init 4 = .ok (.aload_n 0, 1) := by decide +kernel
theorem dX1_init_5 : decode cX1_init 5 = .ok (.iload_n 1, 1) := by decide +kernel
theorem dX1_init_6 : decode cX1_init 6 = .ok (.iconst 3, 1) := by decide +kernel
theorem dX1_init_7 : decode cX1_init 7 = .ok (.invokestatic 9, 3) := by decide +kernel
theorem dX1_init_10 : decode cX1_init 10 = .ok (.putfield 15, 3) := by decide +kernel
theorem dX1_init_13 : decode cX1_init 13 = .ok (.aload_n 0, 1) := by decide +kernel
theorem dX1_init_14 : decode cX1_init 14 = .ok (.iload_n 2, 1) := by decide +kernel
theorem dX1_init_15 : decode cX1_init 15 = .ok (.iconst 3, 1) := by decide +kernel
theorem dX1_init_16 : decode cX1_init 16 = .ok (.invokestatic 9, 3) := by decide +kernel
theorem dX1_init_19 : decode cX1_init 19 = .ok (.putfield 19, 3) := by decide +kernel
theorem dX1_init_22 : decode cX1_init 22 = .ok (.aload_n 0, 1) := by decide +kernel
theorem dX1_init_23 : decode cX1_init 23 = .ok (.iload_n 3, 1) := by decide +kernel
theorem dX1_init_24 : decode cX1_init 24 = .ok (.iconst 4, 1) := by decide +kernel
theorem dX1_init_25 : decode cX1_init 25 = .ok (.invokestatic 9, 3) := by decide +kernel
theorem dX1_init_28 : decode cX1_init 28 = .ok (.putfield 22, 3) := by decide +kernel
theorem dX1_init_31 : decode cX1_init 31 = .ok (.aload_n 0, 1) := by decide +kernel
theorem dX1_init_32 : decode cX1_init 32 = .ok (.iload 4, 2) := by decide +kernel
theorem dX1_init_34 : decode cX1_init 34 = .ok (.iconst 2, 1) := by decide +kernel
theorem dX1_init_35 : decode cX1_init 35 = .ok (.invokestatic 9, 3) := by decide +kernel
theorem dX1_init_38 : decode cX1_init 38 = .ok (.putfield 25, 3) := by decide +kernel
theorem dX1_init_41 : decode cX1_init 41 = .ok (.aload_n 0, 1) := by decide +kernel
theorem dX1_init_42 : decode cX1_init 42 = .ok (.iconst 2, 1) := by decide +kernel
theorem dX1_init_43 : decode cX1_init 43 = .ok (.aload_n 0, 1) := by decide +kernel
theorem dX1_init_44 : decode cX1_init 44 = .ok (.getfield 25, 3) := by decide +kernel
theorem dX1_init_47 : decode cX1_init 47 = .ok (.imul, 1) := by decide +kernel
theorem dX1_init_48 : decode cX1_init 48 = .ok (.putfield 28, 3) := by decide +kernel
theorem dX1_init_51 : decode cX1_init 51 = .ok (.aload_n 0, 1) := by decide +kernel
theorem dX1_init_52 : decode cX1_init 52 = .ok (.aload_n 0, 1) := by decide +kernel
theorem dX1_init_53 : decode cX1_init 53 = .ok (.getfield 15, 3) := by decide +kernel
theorem dX1_init_56 : decode cX1_init 56 = .ok (.aload_n 0, 1) := by decide +kernel
theorem dX1_init_57 : decode cX1_init 57 = .ok (.getfield 19, 3) := by decide +kernel
theorem dX1_init_60 : decode cX1_init 60 = .ok (.imul, 1) := by decide +kernel
theorem dX1_init_61 : decode cX1_init 61 = .ok (.putfield 31, 3) := by decide +kernel
theorem dX1_init_64 : decode cX1_init 64 = .ok (.aload_n 0, 1) := by decide +kernel
theorem dX1_init_65 : decode cX1_init 65 = .ok (.aload_n 0, 1) := by decide +kernel
theorem dX1_init_66 : decode cX1_init 66 = .ok (.getfield 31, 3) := by decide +kernel
theorem dX1_init_69 : decode cX1_init 69 = .ok (.bipush 6, 2) := by decide +kernel
theorem dX1_init_71 : decode cX1_init 71 = .ok (.imul, 1) := by decide +kernel
theorem dX1_init_72 : decode cX1_init 72 = .ok (.aload_n 0, 1) := by decide +kernel
theorem dX1_init_73 : decode cX1_init 73 = .ok (.getfield 28, 3) := by decide +kernel
theorem dX1_init_76 : decode cX1_init 76 = .ok (.imul, 1) := by decide +kernel
theorem dX1_init_77 : decode cX1_init 77 = .ok (.putfield 34, 3) := by decide +kernel
theorem dX1_init_80 : decode cX1_init 80 = .ok (.return_, 1) := by decide +kernel
theorem dX1_within_0 : decode cX1_within 0 = .ok (.iconst 1, 1) := by decide +kernel
theorem dX1_within_1 : decode cX1_within 1 = .ok (.iload_n 1, 1) := by decide +kernel
theorem dX1_within_2 : decode cX1_within 2 = .ok (.iload_n 0, 1) := by decide +kernel
theorem dX1_within_3 : decode cX1_within 3 = .ok (.invokestatic 37, 3) := by decide +kernel
theorem dX1_within_6 : decode cX1_within 6 = .ok (.invokestatic 42, 3) := by decide +kernel
theorem dX1_within_9 : decode cX1_within 9 = .ok (.ireturn, 1) := by decide +kernel
theorem dX1_hasNode_0 : decode cX1_hasNode 0 = .ok (.iload_n 1, 1) := by decide +kernel
theorem dX1_hasNode_1 : decode cX1_hasNode 1 = .ok (.ifCond .lt 15, 3) := by decide +kernel
theorem dX1_hasNode_4 : decode cX1_hasNode 4 = .ok (.iload_n 1, 1) := by decide +kernel
theorem dX1_hasNode_5 : decode cX1_hasNode 5 = .ok (.aload_n 0, 1) := by decide +kernel
theorem dX1_hasNode_6 : decode cX1_hasNode 6 = .ok (.getfield 31, 3) := by decide +kernel
theorem dX1_hasNode_9 : decode cX1_hasNode 9 = .ok (.if_icmp .ge 7, 3) := by decide +kernel
theorem dX1_hasNode_12 : decode cX1_hasNode 12 = .ok (.iconst 1, 1) := by decide +kernel
theorem dX1_hasNode_13 : decode cX1_hasNode 13 = .ok (.goto 4, 3) := by decide +kernel
theorem dX1_hasNode_16 : decode cX1_hasNode 16 = .ok (.iconst 0, 1) := by decide +kernel
theorem dX1_hasNode_17 : decode cX1_hasNode 17 = .ok (.ireturn, 1) := by decide +kernel
theorem dX1_hasChannel_0 : decode cX1_hasChannel 0 = .ok (.iload_n 1, 1) := by decide +kernel
theorem dX1_hasChannel_1 : decode cX1_hasChannel 1 = .ok (.ifCond .lt 15, 3) := by decide +kernel
theorem dX1_hasChannel_4 : decode cX1_hasChannel 4 = .ok (.iload_n 1, 1) := by decide +kernel
theorem dX1_hasChannel_5 : decode cX1_hasChannel 5 = .ok (.aload_n 0, 1) := by decide +kernel
theorem dX1_hasChannel_6 : decode cX1_hasChannel 6 = .ok (.getfield 28, 3) := by decide +kernel
theorem dX1_hasChannel_9 : decode cX1_hasChannel 9 = .ok (.if_icmp .ge 7, 3) := by decide +kernel
theorem dX1_hasChannel_12 : decode cX1_hasChannel 12 = .ok (.iconst 1, 1) := by decide +kernel
theorem dX1_hasChannel_13 : decode cX1_hasChannel 13 = .ok (.goto 4, 3) := by decide +kernel
theorem dX1_hasChannel_16 : decode cX1_hasChannel 16 = .ok (.iconst 0, 1) := by decide +kernel
theorem dX1_hasChannel_17 : decode cX1_hasChannel 17 = .ok (.ireturn, 1) := by decide +kernel
theorem dX1_slot_0 : decode cX1_slot 0 = .ok (.iload_n 1, 1) := by decide +kernel
theorem dX1_slot_1 : decode cX1_slot 1 = .ok (.bipush 6, 2) := by decide +kernel
theorem dX1_slot_3 : decode cX1_slot 3 = .ok (.imul, 1) := by decide +kernel
theorem dX1_slot_4 : decode cX1_slot 4 = .ok (.iload_n 2, 1) := by decide +kernel
theorem dX1_slot_5 : decode cX1_slot 5 = .ok (.iadd, 1) := by decide +kernel
theorem dX1_slot_6 : decode cX1_slot 6 = .ok (.aload_n 0, 1) := by decide +kernel
theorem dX1_slot_7 : decode cX1_slot 7 = .ok (.getfield 28, 3) := by decide +kernel
theorem dX1_slot_10 : decode cX1_slot 10 = .ok (.imul, 1) := by decide +kernel
theorem dX1_slot_11 : decode cX1_slot 11 = .ok (.iload_n 3, 1) := by decide +kernel
theorem dX1_slot_12 : decode cX1_slot 12 = .ok (.iadd, 1) := by decide +kernel
theorem dX1_slot_13 : decode cX1_slot 13 = .ok (.ireturn, 1) := by decide +kernel
theorem dX1_column_0 : decode cX1_column 0 = .ok (.iload_n 1, 1) := by decide +kernel
theorem dX1_column_1 : decode cX1_column 1 = .ok (.aload_n 0, 1) := by decide +kernel
theorem dX1_column_2 : decode cX1_column 2 = .ok (.getfield 15, 3) := by decide +kernel
theorem dX1_column_5 : decode cX1_column 5 = .ok (.irem, 1) := by decide +kernel
theorem dX1_column_6 : decode cX1_column 6 = .ok (.ireturn, 1) := by decide +kernel
theorem dX1_row_0 : decode cX1_row 0 = .ok (.iload_n 1, 1) := by decide +kernel
theorem dX1_row_1 : decode cX1_row 1 = .ok (.aload_n 0, 1) := by decide +kernel
theorem dX1_row_2 : decode cX1_row 2 = .ok (.getfield 15, 3) := by decide +kernel
theorem dX1_row_5 : decode cX1_row 5 = .ok (.idiv, 1) := by decide +kernel
theorem dX1_row_6 : decode cX1_row 6 = .ok (.ireturn, 1) := by decide +kernel
theorem dX1_farSlot_0 : decode cX1_farSlot 0 = .ok (.aload_n 0, 1) := by decide +kernel
theorem dX1_farSlot_1 : decode cX1_farSlot 1 = .ok (.iload_n 1, 1) := by decide +kernel
theorem dX1_farSlot_2 : decode cX1_farSlot 2 = .ok (.iload_n 2, 1) := by decide +kernel
theorem dX1_farSlot_3 : decode cX1_farSlot 3 = .ok (.invokevirtual 45, 3) := by decide +kernel
theorem dX1_farSlot_6 : decode cX1_farSlot 6 = .ok (.istore 4, 2) := by decide +kernel
theorem dX1_farSlot_8 : decode cX1_farSlot 8 = .ok (.iload 4, 2) := by decide +kernel
theorem dX1_farSlot_10 : decode cX1_farSlot 10 = .ok (.iconst (-1), 1) := by decide +kernel
theorem dX1_farSlot_11 : decode cX1_farSlot 11 = .ok (.if_icmp .ne 13, 3) := by decide +kernel
theorem dX1_farSlot_14 : decode cX1_farSlot 14 = .ok (.aload_n 0, 1) := by decide +kernel
theorem dX1_farSlot_15 : decode cX1_farSlot 15 = .ok (.iload_n 1, 1) := by decide +kernel
theorem dX1_farSlot_16 : decode cX1_farSlot 16 = .ok (.iload_n 2, 1) := by decide +kernel
theorem dX1_farSlot_17 : decode cX1_farSlot 17 = .ok (.iload_n 3, 1) := by decide +kernel
theorem dX1_farSlot_18 : decode cX1_farSlot 18 = .ok (.invokevirtual 48, 3) := by decide +kernel
theorem dX1_farSlot_21 : decode cX1_farSlot 21 = .ok (.goto 14, 3) := by decide +kernel
theorem dX1_farSlot_24 : decode cX1_farSlot 24 = .ok (.aload_n 0, 1) := by decide +kernel
theorem dX1_farSlot_25 : decode cX1_farSlot 25 = .ok (.iload 4, 2) := by decide +kernel
theorem dX1_farSlot_27 : decode cX1_farSlot 27 = .ok (.iload_n 2, 1) := by decide +kernel
theorem dX1_farSlot_28 : decode cX1_farSlot 28 = .ok (.invokestatic 52, 3) := by decide +kernel
theorem dX1_farSlot_31 : decode cX1_farSlot 31 = .ok (.iload_n 3, 1) := by decide +kernel
theorem dX1_farSlot_32 : decode cX1_farSlot 32 = .ok (.invokevirtual 48, 3) := by decide +kernel
theorem dX1_farSlot_35 : decode cX1_farSlot 35 = .ok (.ireturn, 1) := by decide +kernel
theorem dX1_neighbour_0 : decode cX1_neighbour 0 = .ok (.iload_n 2, 1) := by decide +kernel
theorem dX1_neighbour_1 : decode cX1_neighbour 1 = .ok (.tableswitch 113 1 4 #[31, 53, 69, 94], 31) := by decide +kernel
theorem dX1_neighbour_32 : decode cX1_neighbour 32 = .ok (.aload_n 0, 1) := by decide +kernel
theorem dX1_neighbour_33 : decode cX1_neighbour 33 = .ok (.iload_n 1, 1) := by decide +kernel
theorem dX1_neighbour_34 : decode cX1_neighbour 34 = .ok (.invokevirtual 56, 3) := by decide +kernel
theorem dX1_neighbour_37 : decode cX1_neighbour 37 = .ok (.iconst 1, 1) := by decide +kernel
theorem dX1_neighbour_38 : decode cX1_neighbour 38 = .ok (.iadd, 1) := by decide +kernel
theorem dX1_neighbour_39 : decode cX1_neighbour 39 = .ok (.aload_n 0, 1) := by decide +kernel
theorem dX1_neighbour_40 : decode cX1_neighbour 40 = .ok (.getfield 15, 3) := by decide +kernel
theorem dX1_neighbour_43 : decode cX1_neighbour 43 = .ok (.if_icmp .ge 9, 3) := by decide +kernel
theorem dX1_neighbour_46 : decode cX1_neighbour 46 = .ok (.iload_n 1, 1) := by decide +kernel
theorem dX1_neighbour_47 : decode cX1_neighbour 47 = .ok (.iconst 1, 1) := by decide +kernel
theorem dX1_neighbour_48 : decode cX1_neighbour 48 = .ok (.iadd, 1) := by decide +kernel
theorem dX1_neighbour_49 : decode cX1_neighbour 49 = .ok (.goto 4, 3) := by decide +kernel
theorem dX1_neighbour_52 : decode cX1_neighbour 52 = .ok (.iconst (-1), 1) := by decide +kernel
theorem dX1_neighbour_53 : decode cX1_neighbour 53 = .ok (.ireturn, 1) := by decide +kernel
theorem dX1_neighbour_54 : decode cX1_neighbour 54 = .ok (.aload_n 0, 1) := by decide +kernel
theorem dX1_neighbour_55 : decode cX1_neighbour 55 = .ok (.iload_n 1, 1) := by decide +kernel
theorem dX1_neighbour_56 : decode cX1_neighbour 56 = .ok (.invokevirtual 56, 3) := by decide +kernel
theorem dX1_neighbour_59 : decode cX1_neighbour 59 = .ok (.ifCond .le 9, 3) := by decide +kernel
theorem dX1_neighbour_62 : decode cX1_neighbour 62 = .ok (.iload_n 1, 1) := by decide +kernel
theorem dX1_neighbour_63 : decode cX1_neighbour 63 = .ok (.iconst 1, 1) := by decide +kernel
theorem dX1_neighbour_64 : decode cX1_neighbour 64 = .ok (.isub, 1) := by decide +kernel
theorem dX1_neighbour_65 : decode cX1_neighbour 65 = .ok (.goto 4, 3) := by decide +kernel
theorem dX1_neighbour_68 : decode cX1_neighbour 68 = .ok (.iconst (-1), 1) := by decide +kernel
theorem dX1_neighbour_69 : decode cX1_neighbour 69 = .ok (.ireturn, 1) := by decide +kernel
theorem dX1_neighbour_70 : decode cX1_neighbour 70 = .ok (.aload_n 0, 1) := by decide +kernel
theorem dX1_neighbour_71 : decode cX1_neighbour 71 = .ok (.iload_n 1, 1) := by decide +kernel
theorem dX1_neighbour_72 : decode cX1_neighbour 72 = .ok (.invokevirtual 59, 3) := by decide +kernel
theorem dX1_neighbour_75 : decode cX1_neighbour 75 = .ok (.iconst 1, 1) := by decide +kernel
theorem dX1_neighbour_76 : decode cX1_neighbour 76 = .ok (.iadd, 1) := by decide +kernel
theorem dX1_neighbour_77 : decode cX1_neighbour 77 = .ok (.aload_n 0, 1) := by decide +kernel
theorem dX1_neighbour_78 : decode cX1_neighbour 78 = .ok (.getfield 19, 3) := by decide +kernel
theorem dX1_neighbour_81 : decode cX1_neighbour 81 = .ok (.if_icmp .ge 12, 3) := by decide +kernel
theorem dX1_neighbour_84 : decode cX1_neighbour 84 = .ok (.iload_n 1, 1) := by decide +kernel
theorem dX1_neighbour_85 : decode cX1_neighbour 85 = .ok (.aload_n 0, 1) := by decide +kernel
theorem dX1_neighbour_86 : decode cX1_neighbour 86 = .ok (.getfield 15, 3) := by decide +kernel
theorem dX1_neighbour_89 : decode cX1_neighbour 89 = .ok (.iadd, 1) := by decide +kernel
theorem dX1_neighbour_90 : decode cX1_neighbour 90 = .ok (.goto 4, 3) := by decide +kernel
theorem dX1_neighbour_93 : decode cX1_neighbour 93 = .ok (.iconst (-1), 1) := by decide +kernel
theorem dX1_neighbour_94 : decode cX1_neighbour 94 = .ok (.ireturn, 1) := by decide +kernel
theorem dX1_neighbour_95 : decode cX1_neighbour 95 = .ok (.aload_n 0, 1) := by decide +kernel
theorem dX1_neighbour_96 : decode cX1_neighbour 96 = .ok (.iload_n 1, 1) := by decide +kernel
theorem dX1_neighbour_97 : decode cX1_neighbour 97 = .ok (.invokevirtual 59, 3) := by decide +kernel
theorem dX1_neighbour_100 : decode cX1_neighbour 100 = .ok (.ifCond .le 12, 3) := by decide +kernel
theorem dX1_neighbour_103 : decode cX1_neighbour 103 = .ok (.iload_n 1, 1) := by decide +kernel
theorem dX1_neighbour_104 : decode cX1_neighbour 104 = .ok (.aload_n 0, 1) := by decide +kernel
theorem dX1_neighbour_105 : decode cX1_neighbour 105 = .ok (.getfield 15, 3) := by decide +kernel
theorem dX1_neighbour_108 : decode cX1_neighbour 108 = .ok (.isub, 1) := by decide +kernel
theorem dX1_neighbour_109 : decode cX1_neighbour 109 = .ok (.goto 4, 3) := by decide +kernel
theorem dX1_neighbour_112 : decode cX1_neighbour 112 = .ok (.iconst (-1), 1) := by decide +kernel
theorem dX1_neighbour_113 : decode cX1_neighbour 113 = .ok (.ireturn, 1) := by decide +kernel
theorem dX1_neighbour_114 : decode cX1_neighbour 114 = .ok (.iload_n 1, 1) := by decide +kernel
theorem dX1_neighbour_115 : decode cX1_neighbour 115 = .ok (.ireturn, 1) := by decide +kernel
theorem dX1_opposite_0 : decode cX1_opposite 0 = .ok (.iload_n 0, 1) := by decide +kernel
theorem dX1_opposite_1 : decode cX1_opposite 1 = .ok (.tableswitch 45 0 4 #[43, 35, 37, 39, 41], 35) := by decide +kernel
theorem dX1_opposite_36 : decode cX1_opposite 36 = .ok (.iconst 2, 1) := by decide +kernel
theorem dX1_opposite_37 : decode cX1_opposite 37 = .ok (.ireturn, 1) := by decide +kernel
theorem dX1_opposite_38 : decode cX1_opposite 38 = .ok (.iconst 1, 1) := by decide +kernel
theorem dX1_opposite_39 : decode cX1_opposite 39 = .ok (.ireturn, 1) := by decide +kernel
theorem dX1_opposite_40 : decode cX1_opposite 40 = .ok (.iconst 4, 1) := by decide +kernel
theorem dX1_opposite_41 : decode cX1_opposite 41 = .ok (.ireturn, 1) := by decide +kernel
theorem dX1_opposite_42 : decode cX1_opposite 42 = .ok (.iconst 3, 1) := by decide +kernel
theorem dX1_opposite_43 : decode cX1_opposite 43 = .ok (.ireturn, 1) := by decide +kernel
theorem dX1_opposite_44 : decode cX1_opposite 44 = .ok (.iconst 5, 1) := by decide +kernel
theorem dX1_opposite_45 : decode cX1_opposite 45 = .ok (.ireturn, 1) := by decide +kernel
theorem dX1_opposite_46 : decode cX1_opposite 46 = .ok (.iconst 0, 1) := by decide +kernel
theorem dX1_opposite_47 : decode cX1_opposite 47 = .ok (.ireturn, 1) := by decide +kernel
theorem dX4_init_0 : decode cX4_init 0 = .ok (.aload_n 0, 1) := by decide +kernel
theorem dX4_init_1 : decode cX4_init 1 = .ok (.invokespecial 3, 3) := by decide +kernel
theorem dX4_init_4 : decode cX4_init 4 = .ok (.aload_n 0, 1) := by decide +kernel
theorem dX4_init_5 : decode cX4_init 5 = .ok (.sipush 400, 3) := by decide +kernel
theorem dX4_init_8 : decode cX4_init 8 = .ok (.newarray .int, 2) := by decide +kernel
theorem dX4_init_10 : decode cX4_init 10 = .ok (.putfield 9, 3) := by decide +kernel
theorem dX4_init_13 : decode cX4_init 13 = .ok (.aload_n 0, 1) := by decide +kernel
theorem dX4_init_14 : decode cX4_init 14 = .ok (.sipush 400, 3) := by decide +kernel
theorem dX4_init_17 : decode cX4_init 17 = .ok (.newarray .int, 2) := by decide +kernel
theorem dX4_init_19 : decode cX4_init 19 = .ok (.putfield 15, 3) := by decide +kernel
theorem dX4_init_22 : decode cX4_init 22 = .ok (.aload_n 0, 1) := by decide +kernel
theorem dX4_init_23 : decode cX4_init 23 = .ok (.sipush 400, 3) := by decide +kernel
theorem dX4_init_26 : decode cX4_init 26 = .ok (.newarray .boolean, 2) := by decide +kernel
theorem dX4_init_28 : decode cX4_init 28 = .ok (.putfield 18, 3) := by decide +kernel
theorem dX4_init_31 : decode cX4_init 31 = .ok (.aload_n 0, 1) := by decide +kernel
theorem dX4_init_32 : decode cX4_init 32 = .ok (.sipush 400, 3) := by decide +kernel
theorem dX4_init_35 : decode cX4_init 35 = .ok (.newarray .int, 2) := by decide +kernel
theorem dX4_init_37 : decode cX4_init 37 = .ok (.putfield 22, 3) := by decide +kernel
theorem dX4_init_40 : decode cX4_init 40 = .ok (.aload_n 0, 1) := by decide +kernel
theorem dX4_init_41 : decode cX4_init 41 = .ok (.sipush 400, 3) := by decide +kernel
theorem dX4_init_44 : decode cX4_init 44 = .ok (.newarray .int, 2) := by decide +kernel
theorem dX4_init_46 : decode cX4_init 46 = .ok (.putfield 25, 3) := by decide +kernel
theorem dX4_init_49 : decode cX4_init 49 = .ok (.aload_n 0, 1) := by decide +kernel
theorem dX4_init_50 : decode cX4_init 50 = .ok (.aload_n 1, 1) := by decide +kernel
theorem dX4_init_51 : decode cX4_init 51 = .ok (.putfield 28, 3) := by decide +kernel
theorem dX4_init_54 : decode cX4_init 54 = .ok (.return_, 1) := by decide +kernel
theorem dX4_isFull_0 : decode cX4_isFull 0 = .ok (.aload_n 0, 1) := by decide +kernel
theorem dX4_isFull_1 : decode cX4_isFull 1 = .ok (.getfield 32, 3) := by decide +kernel
theorem dX4_isFull_4 : decode cX4_isFull 4 = .ok (.sipush 400, 3) := by decide +kernel
theorem dX4_isFull_7 : decode cX4_isFull 7 = .ok (.if_icmp .lt 7, 3) := by decide +kernel
theorem dX4_isFull_10 : decode cX4_isFull 10 = .ok (.iconst 1, 1) := by decide +kernel
theorem dX4_isFull_11 : decode cX4_isFull 11 = .ok (.goto 4, 3) := by decide +kernel
theorem dX4_isFull_14 : decode cX4_isFull 14 = .ok (.iconst 0, 1) := by decide +kernel
theorem dX4_isFull_15 : decode cX4_isFull 15 = .ok (.ireturn, 1) := by decide +kernel
theorem dX4_add_0 : decode cX4_add 0 = .ok (.aload_n 0, 1) := by decide +kernel
theorem dX4_add_1 : decode cX4_add 1 = .ok (.getfield 32, 3) := by decide +kernel
theorem dX4_add_4 : decode cX4_add 4 = .ok (.istore 6, 2) := by decide +kernel
theorem dX4_add_6 : decode cX4_add 6 = .ok (.aload_n 0, 1) := by decide +kernel
theorem dX4_add_7 : decode cX4_add 7 = .ok (.getfield 9, 3) := by decide +kernel
theorem dX4_add_10 : decode cX4_add 10 = .ok (.iload 6, 2) := by decide +kernel
theorem dX4_add_12 : decode cX4_add 12 = .ok (.iload_n 1, 1) := by decide +kernel
theorem dX4_add_13 : decode cX4_add 13 = .ok (.iastore, 1) := by decide +kernel
theorem dX4_add_14 : decode cX4_add 14 = .ok (.aload_n 0, 1) := by decide +kernel
theorem dX4_add_15 : decode cX4_add 15 = .ok (.getfield 15, 3) := by decide +kernel
theorem dX4_add_18 : decode cX4_add 18 = .ok (.iload 6, 2) := by decide +kernel
theorem dX4_add_20 : decode cX4_add 20 = .ok (.iload_n 2, 1) := by decide +kernel
theorem dX4_add_21 : decode cX4_add 21 = .ok (.iastore, 1) := by decide +kernel
theorem dX4_add_22 : decode cX4_add 22 = .ok (.aload_n 0, 1) := by decide +kernel
theorem dX4_add_23 : decode cX4_add 23 = .ok (.getfield 18, 3) := by decide +kernel
theorem dX4_add_26 : decode cX4_add 26 = .ok (.iload 6, 2) := by decide +kernel
theorem dX4_add_28 : decode cX4_add 28 = .ok (.iload_n 3, 1) := by decide +kernel
theorem dX4_add_29 : decode cX4_add 29 = .ok (.bastore, 1) := by decide +kernel
theorem dX4_add_30 : decode cX4_add 30 = .ok (.aload_n 0, 1) := by decide +kernel
theorem dX4_add_31 : decode cX4_add 31 = .ok (.getfield 22, 3) := by decide +kernel
theorem dX4_add_34 : decode cX4_add 34 = .ok (.iload 6, 2) := by decide +kernel
theorem dX4_add_36 : decode cX4_add 36 = .ok (.iload 4, 2) := by decide +kernel
theorem dX4_add_38 : decode cX4_add 38 = .ok (.iastore, 1) := by decide +kernel
theorem dX4_add_39 : decode cX4_add 39 = .ok (.aload_n 0, 1) := by decide +kernel
theorem dX4_add_40 : decode cX4_add 40 = .ok (.getfield 25, 3) := by decide +kernel
theorem dX4_add_43 : decode cX4_add 43 = .ok (.iload 6, 2) := by decide +kernel
theorem dX4_add_45 : decode cX4_add 45 = .ok (.iload 5, 2) := by decide +kernel
theorem dX4_add_47 : decode cX4_add 47 = .ok (.iastore, 1) := by decide +kernel
theorem dX4_add_48 : decode cX4_add 48 = .ok (.aload_n 0, 1) := by decide +kernel
theorem dX4_add_49 : decode cX4_add 49 = .ok (.dup, 1) := by decide +kernel
theorem dX4_add_50 : decode cX4_add 50 = .ok (.getfield 32, 3) := by decide +kernel
theorem dX4_add_53 : decode cX4_add 53 = .ok (.iconst 1, 1) := by decide +kernel
theorem dX4_add_54 : decode cX4_add 54 = .ok (.iadd, 1) := by decide +kernel
theorem dX4_add_55 : decode cX4_add 55 = .ok (.putfield 32, 3) := by decide +kernel
theorem dX4_add_58 : decode cX4_add 58 = .ok (.iload 6, 2) := by decide +kernel
theorem dX4_add_60 : decode cX4_add 60 = .ok (.ireturn, 1) := by decide +kernel
theorem dX4_flit_0 : decode cX4_flit 0 = .ok (.iconst 4, 1) := by decide +kernel
theorem dX4_flit_1 : decode cX4_flit 1 = .ok (.iload_n 0, 1) := by decide +kernel
theorem dX4_flit_2 : decode cX4_flit 2 = .ok (.imul, 1) := by decide +kernel
theorem dX4_flit_3 : decode cX4_flit 3 = .ok (.iload_n 1, 1) := by decide +kernel
theorem dX4_flit_4 : decode cX4_flit 4 = .ok (.ifCond .eq 7, 3) := by decide +kernel
theorem dX4_flit_7 : decode cX4_flit 7 = .ok (.iconst 2, 1) := by decide +kernel
theorem dX4_flit_8 : decode cX4_flit 8 = .ok (.goto 4, 3) := by decide +kernel
theorem dX4_flit_11 : decode cX4_flit 11 = .ok (.iconst 0, 1) := by decide +kernel
theorem dX4_flit_12 : decode cX4_flit 12 = .ok (.iadd, 1) := by decide +kernel
theorem dX4_flit_13 : decode cX4_flit 13 = .ok (.iload_n 2, 1) := by decide +kernel
theorem dX4_flit_14 : decode cX4_flit 14 = .ok (.ifCond .eq 7, 3) := by decide +kernel
theorem dX4_flit_17 : decode cX4_flit 17 = .ok (.iconst 1, 1) := by decide +kernel
theorem dX4_flit_18 : decode cX4_flit 18 = .ok (.goto 4, 3) := by decide +kernel
theorem dX4_flit_21 : decode cX4_flit 21 = .ok (.iconst 0, 1) := by decide +kernel
theorem dX4_flit_22 : decode cX4_flit 22 = .ok (.iadd, 1) := by decide +kernel
theorem dX4_flit_23 : decode cX4_flit 23 = .ok (.ireturn, 1) := by decide +kernel
theorem dX4_number_0 : decode cX4_number 0 = .ok (.iload_n 0, 1) := by decide +kernel
theorem dX4_number_1 : decode cX4_number 1 = .ok (.iconst 4, 1) := by decide +kernel
theorem dX4_number_2 : decode cX4_number 2 = .ok (.idiv, 1) := by decide +kernel
theorem dX4_number_3 : decode cX4_number 3 = .ok (.ireturn, 1) := by decide +kernel
theorem dX4_isOfReply_0 : decode cX4_isOfReply 0 = .ok (.iload_n 0, 1) := by decide +kernel
theorem dX4_isOfReply_1 : decode cX4_isOfReply 1 = .ok (.iconst 2, 1) := by decide +kernel
theorem dX4_isOfReply_2 : decode cX4_isOfReply 2 = .ok (.iand, 1) := by decide +kernel
theorem dX4_isOfReply_3 : decode cX4_isOfReply 3 = .ok (.ifCond .eq 7, 3) := by decide +kernel
theorem dX4_isOfReply_6 : decode cX4_isOfReply 6 = .ok (.iconst 1, 1) := by decide +kernel
theorem dX4_isOfReply_7 : decode cX4_isOfReply 7 = .ok (.goto 4, 3) := by decide +kernel
theorem dX4_isOfReply_10 : decode cX4_isOfReply 10 = .ok (.iconst 0, 1) := by decide +kernel
theorem dX4_isOfReply_11 : decode cX4_isOfReply 11 = .ok (.ireturn, 1) := by decide +kernel
theorem dX4_isLast_0 : decode cX4_isLast 0 = .ok (.iload_n 0, 1) := by decide +kernel
theorem dX4_isLast_1 : decode cX4_isLast 1 = .ok (.iconst 1, 1) := by decide +kernel
theorem dX4_isLast_2 : decode cX4_isLast 2 = .ok (.iand, 1) := by decide +kernel
theorem dX4_isLast_3 : decode cX4_isLast 3 = .ok (.ifCond .eq 7, 3) := by decide +kernel
theorem dX4_isLast_6 : decode cX4_isLast 6 = .ok (.iconst 1, 1) := by decide +kernel
theorem dX4_isLast_7 : decode cX4_isLast 7 = .ok (.goto 4, 3) := by decide +kernel
theorem dX4_isLast_10 : decode cX4_isLast 10 = .ok (.iconst 0, 1) := by decide +kernel
theorem dX4_isLast_11 : decode cX4_isLast 11 = .ok (.ireturn, 1) := by decide +kernel
theorem dX4_goal_0 : decode cX4_goal 0 = .ok (.iload_n 1, 1) := by decide +kernel
theorem dX4_goal_1 : decode cX4_goal 1 = .ok (.invokestatic 36, 3) := by decide +kernel
theorem dX4_goal_4 : decode cX4_goal 4 = .ok (.ifCond .eq 15, 3) := by decide +kernel
theorem dX4_goal_7 : decode cX4_goal 7 = .ok (.aload_n 0, 1) := by decide +kernel
theorem dX4_goal_8 : decode cX4_goal 8 = .ok (.getfield 9, 3) := by decide +kernel
theorem dX4_goal_11 : decode cX4_goal 11 = .ok (.iload_n 1, 1) := by decide +kernel
theorem dX4_goal_12 : decode cX4_goal 12 = .ok (.invokestatic 40, 3) := by decide +kernel
theorem dX4_goal_15 : decode cX4_goal 15 = .ok (.iaload, 1) := by decide +kernel
theorem dX4_goal_16 : decode cX4_goal 16 = .ok (.goto 12, 3) := by decide +kernel
theorem dX4_goal_19 : decode cX4_goal 19 = .ok (.aload_n 0, 1) := by decide +kernel
theorem dX4_goal_20 : decode cX4_goal 20 = .ok (.getfield 15, 3) := by decide +kernel
theorem dX4_goal_23 : decode cX4_goal 23 = .ok (.iload_n 1, 1) := by decide +kernel
theorem dX4_goal_24 : decode cX4_goal 24 = .ok (.invokestatic 40, 3) := by decide +kernel
theorem dX4_goal_27 : decode cX4_goal 27 = .ok (.iaload, 1) := by decide +kernel
theorem dX4_goal_28 : decode cX4_goal 28 = .ok (.ireturn, 1) := by decide +kernel
theorem dX4_channel_0 : decode cX4_channel 0 = .ok (.aload_n 0, 1) := by decide +kernel
theorem dX4_channel_1 : decode cX4_channel 1 = .ok (.getfield 9, 3) := by decide +kernel
theorem dX4_channel_4 : decode cX4_channel 4 = .ok (.iload_n 1, 1) := by decide +kernel
theorem dX4_channel_5 : decode cX4_channel 5 = .ok (.iaload, 1) := by decide +kernel
theorem dX4_channel_6 : decode cX4_channel 6 = .ok (.aload_n 0, 1) := by decide +kernel
theorem dX4_channel_7 : decode cX4_channel 7 = .ok (.getfield 15, 3) := by decide +kernel
theorem dX4_channel_10 : decode cX4_channel 10 = .ok (.iload_n 1, 1) := by decide +kernel
theorem dX4_channel_11 : decode cX4_channel 11 = .ok (.iaload, 1) := by decide +kernel
theorem dX4_channel_12 : decode cX4_channel 12 = .ok (.iadd, 1) := by decide +kernel
theorem dX4_channel_13 : decode cX4_channel 13 = .ok (.aload_n 0, 1) := by decide +kernel
theorem dX4_channel_14 : decode cX4_channel 14 = .ok (.getfield 28, 3) := by decide +kernel
theorem dX4_channel_17 : decode cX4_channel 17 = .ok (.getfield 44, 3) := by decide +kernel
theorem dX4_channel_20 : decode cX4_channel 20 = .ok (.irem, 1) := by decide +kernel
theorem dX4_channel_21 : decode cX4_channel 21 = .ok (.istore_n 3, 1) := by decide +kernel
theorem dX4_channel_22 : decode cX4_channel 22 = .ok (.iload_n 2, 1) := by decide +kernel
theorem dX4_channel_23 : decode cX4_channel 23 = .ok (.ifCond .eq 15, 3) := by decide +kernel
theorem dX4_channel_26 : decode cX4_channel 26 = .ok (.iload_n 3, 1) := by decide +kernel
theorem dX4_channel_27 : decode cX4_channel 27 = .ok (.aload_n 0, 1) := by decide +kernel
theorem dX4_channel_28 : decode cX4_channel 28 = .ok (.getfield 28, 3) := by decide +kernel
theorem dX4_channel_31 : decode cX4_channel 31 = .ok (.getfield 44, 3) := by decide +kernel
theorem dX4_channel_34 : decode cX4_channel 34 = .ok (.iadd, 1) := by decide +kernel
theorem dX4_channel_35 : decode cX4_channel 35 = .ok (.goto 4, 3) := by decide +kernel
theorem dX4_channel_38 : decode cX4_channel 38 = .ok (.iload_n 3, 1) := by decide +kernel
theorem dX4_channel_39 : decode cX4_channel 39 = .ok (.ireturn, 1) := by decide +kernel
theorem dX4_length_0 : decode cX4_length 0 = .ok (.aload_n 0, 1) := by decide +kernel
theorem dX4_length_1 : decode cX4_length 1 = .ok (.getfield 18, 3) := by decide +kernel
theorem dX4_length_4 : decode cX4_length 4 = .ok (.iload_n 1, 1) := by decide +kernel
theorem dX4_length_5 : decode cX4_length 5 = .ok (.baload, 1) := by decide +kernel
theorem dX4_length_6 : decode cX4_length 6 = .ok (.ifCond .ne 5, 3) := by decide +kernel
theorem dX4_length_9 : decode cX4_length 9 = .ok (.iconst 2, 1) := by decide +kernel
theorem dX4_length_10 : decode cX4_length 10 = .ok (.ireturn, 1) := by decide +kernel
theorem dX4_length_11 : decode cX4_length 11 = .ok (.iload_n 2, 1) := by decide +kernel
theorem dX4_length_12 : decode cX4_length 12 = .ok (.ifCond .eq 7, 3) := by decide +kernel
theorem dX4_length_15 : decode cX4_length 15 = .ok (.iconst 1, 1) := by decide +kernel
theorem dX4_length_16 : decode cX4_length 16 = .ok (.goto 4, 3) := by decide +kernel
theorem dX4_length_19 : decode cX4_length 19 = .ok (.iconst 3, 1) := by decide +kernel
theorem dX4_length_20 : decode cX4_length 20 = .ok (.ireturn, 1) := by decide +kernel
theorem dX5_init_0 : decode cX5_init 0 = .ok (.aload_n 0, 1) := by decide +kernel
theorem dX5_init_1 : decode cX5_init 1 = .ok (.invokespecial 1, 3) := by decide +kernel
theorem dX5_init_4 : decode cX5_init 4 = .ok (.aload_n 0, 1) := by decide +kernel
theorem dX5_init_5 : decode cX5_init 5 = .ok (.iload_n 3, 1) := by decide +kernel
theorem dX5_init_6 : decode cX5_init 6 = .ok (.putfield 7, 3) := by decide +kernel
theorem dX5_init_9 : decode cX5_init 9 = .ok (.aload_n 0, 1) := by decide +kernel
theorem dX5_init_10 : decode cX5_init 10 = .ok (.iload_n 2, 1) := by decide +kernel
theorem dX5_init_11 : decode cX5_init 11 = .ok (.putfield 13, 3) := by decide +kernel
theorem dX5_init_14 : decode cX5_init 14 = .ok (.aload_n 0, 1) := by decide +kernel
theorem dX5_init_15 : decode cX5_init 15 = .ok (.iload_n 1, 1) := by decide +kernel
theorem dX5_init_16 : decode cX5_init 16 = .ok (.iload_n 2, 1) := by decide +kernel
theorem dX5_init_17 : decode cX5_init 17 = .ok (.imul, 1) := by decide +kernel
theorem dX5_init_18 : decode cX5_init 18 = .ok (.newarray .int, 2) := by decide +kernel
theorem dX5_init_20 : decode cX5_init 20 = .ok (.putfield 17, 3) := by decide +kernel
theorem dX5_init_23 : decode cX5_init 23 = .ok (.aload_n 0, 1) := by decide +kernel
theorem dX5_init_24 : decode cX5_init 24 = .ok (.iload_n 1, 1) := by decide +kernel
theorem dX5_init_25 : decode cX5_init 25 = .ok (.newarray .int, 2) := by decide +kernel
theorem dX5_init_27 : decode cX5_init 27 = .ok (.putfield 21, 3) := by decide +kernel
theorem dX5_init_30 : decode cX5_init 30 = .ok (.aload_n 0, 1) := by decide +kernel
theorem dX5_init_31 : decode cX5_init 31 = .ok (.iload_n 1, 1) := by decide +kernel
theorem dX5_init_32 : decode cX5_init 32 = .ok (.newarray .int, 2) := by decide +kernel
theorem dX5_init_34 : decode cX5_init 34 = .ok (.putfield 24, 3) := by decide +kernel
theorem dX5_init_37 : decode cX5_init 37 = .ok (.return_, 1) := by decide +kernel
theorem dX5_isFull_0 : decode cX5_isFull 0 = .ok (.aload_n 0, 1) := by decide +kernel
theorem dX5_isFull_1 : decode cX5_isFull 1 = .ok (.getfield 21, 3) := by decide +kernel
theorem dX5_isFull_4 : decode cX5_isFull 4 = .ok (.iload_n 1, 1) := by decide +kernel
theorem dX5_isFull_5 : decode cX5_isFull 5 = .ok (.iaload, 1) := by decide +kernel
theorem dX5_isFull_6 : decode cX5_isFull 6 = .ok (.aload_n 0, 1) := by decide +kernel
theorem dX5_isFull_7 : decode cX5_isFull 7 = .ok (.getfield 13, 3) := by decide +kernel
theorem dX5_isFull_10 : decode cX5_isFull 10 = .ok (.if_icmp .lt 7, 3) := by decide +kernel
theorem dX5_isFull_13 : decode cX5_isFull 13 = .ok (.iconst 1, 1) := by decide +kernel
theorem dX5_isFull_14 : decode cX5_isFull 14 = .ok (.goto 4, 3) := by decide +kernel
theorem dX5_isFull_17 : decode cX5_isFull 17 = .ok (.iconst 0, 1) := by decide +kernel
theorem dX5_isFull_18 : decode cX5_isFull 18 = .ok (.ireturn, 1) := by decide +kernel
theorem dX5_firstNumber_0 : decode cX5_firstNumber 0 = .ok (.aload_n 0, 1) := by decide +kernel
theorem dX5_firstNumber_1 : decode cX5_firstNumber 1 = .ok (.getfield 17, 3) := by decide +kernel
theorem dX5_firstNumber_4 : decode cX5_firstNumber 4 = .ok (.iload_n 1, 1) := by decide +kernel
theorem dX5_firstNumber_5 : decode cX5_firstNumber 5 = .ok (.aload_n 0, 1) := by decide +kernel
theorem dX5_firstNumber_6 : decode cX5_firstNumber 6 = .ok (.getfield 13, 3) := by decide +kernel
theorem dX5_firstNumber_9 : decode cX5_firstNumber 9 = .ok (.imul, 1) := by decide +kernel
theorem dX5_firstNumber_10 : decode cX5_firstNumber 10 = .ok (.iaload, 1) := by decide +kernel
theorem dX5_firstNumber_11 : decode cX5_firstNumber 11 = .ok (.ireturn, 1) := by decide +kernel
theorem dX5_add_0 : decode cX5_add 0 = .ok (.aload_n 0, 1) := by decide +kernel
theorem dX5_add_1 : decode cX5_add 1 = .ok (.getfield 17, 3) := by decide +kernel
theorem dX5_add_4 : decode cX5_add 4 = .ok (.iload_n 1, 1) := by decide +kernel
theorem dX5_add_5 : decode cX5_add 5 = .ok (.aload_n 0, 1) := by decide +kernel
theorem dX5_add_6 : decode cX5_add 6 = .ok (.getfield 13, 3) := by decide +kernel
theorem dX5_add_9 : decode cX5_add 9 = .ok (.imul, 1) := by decide +kernel
theorem dX5_add_10 : decode cX5_add 10 = .ok (.aload_n 0, 1) := by decide +kernel
theorem dX5_add_11 : decode cX5_add 11 = .ok (.getfield 21, 3) := by decide +kernel
theorem dX5_add_14 : decode cX5_add 14 = .ok (.iload_n 1, 1) := by decide +kernel
theorem dX5_add_15 : decode cX5_add 15 = .ok (.iaload, 1) := by decide +kernel
theorem dX5_add_16 : decode cX5_add 16 = .ok (.iadd, 1) := by decide +kernel
theorem dX5_add_17 : decode cX5_add 17 = .ok (.iload_n 2, 1) := by decide +kernel
theorem dX5_add_18 : decode cX5_add 18 = .ok (.iastore, 1) := by decide +kernel
theorem dX5_add_19 : decode cX5_add 19 = .ok (.aload_n 0, 1) := by decide +kernel
theorem dX5_add_20 : decode cX5_add 20 = .ok (.getfield 21, 3) := by decide +kernel
theorem dX5_add_23 : decode cX5_add 23 = .ok (.iload_n 1, 1) := by decide +kernel
theorem dX5_add_24 : decode cX5_add 24 = .ok (.dup2, 1) := by decide +kernel
theorem dX5_add_25 : decode cX5_add 25 = .ok (.iaload, 1) := by decide +kernel
theorem dX5_add_26 : decode cX5_add 26 = .ok (.iconst 1, 1) := by decide +kernel
theorem dX5_add_27 : decode cX5_add 27 = .ok (.iadd, 1) := by decide +kernel
theorem dX5_add_28 : decode cX5_add 28 = .ok (.iastore, 1) := by decide +kernel
theorem dX5_add_29 : decode cX5_add 29 = .ok (.return_, 1) := by decide +kernel
theorem dX5_removeFirst_0 : decode cX5_removeFirst 0 = .ok (.iload_n 1, 1) := by decide +kernel
theorem dX5_removeFirst_1 : decode cX5_removeFirst 1 = .ok (.aload_n 0, 1) := by decide +kernel
theorem dX5_removeFirst_2 : decode cX5_removeFirst 2 = .ok (.getfield 13, 3) := by decide +kernel
theorem dX5_removeFirst_5 : decode cX5_removeFirst 5 = .ok (.imul, 1) := by decide +kernel
theorem dX5_removeFirst_6 : decode cX5_removeFirst 6 = .ok (.istore_n 2, 1) := by decide +kernel
theorem dX5_removeFirst_7 : decode cX5_removeFirst 7 = .ok (.iconst 1, 1) := by decide +kernel
theorem dX5_removeFirst_8 : decode cX5_removeFirst 8 = .ok (.istore_n 3, 1) := by decide +kernel
theorem dX5_removeFirst_9 : decode cX5_removeFirst 9 = .ok (.iload_n 3, 1) := by decide +kernel
theorem dX5_removeFirst_10 : decode cX5_removeFirst 10 = .ok (.aload_n 0, 1) := by decide +kernel
theorem dX5_removeFirst_11 : decode cX5_removeFirst 11 = .ok (.getfield 21, 3) := by decide +kernel
theorem dX5_removeFirst_14 : decode cX5_removeFirst 14 = .ok (.iload_n 1, 1) := by decide +kernel
theorem dX5_removeFirst_15 : decode cX5_removeFirst 15 = .ok (.iaload, 1) := by decide +kernel
theorem dX5_removeFirst_16 : decode cX5_removeFirst 16 = .ok (.if_icmp .ge 27, 3) := by decide +kernel
theorem dX5_removeFirst_19 : decode cX5_removeFirst 19 = .ok (.aload_n 0, 1) := by decide +kernel
theorem dX5_removeFirst_20 : decode cX5_removeFirst 20 = .ok (.getfield 17, 3) := by decide +kernel
theorem dX5_removeFirst_23 : decode cX5_removeFirst 23 = .ok (.iload_n 2, 1) := by decide +kernel
theorem dX5_removeFirst_24 : decode cX5_removeFirst 24 = .ok (.iload_n 3, 1) := by decide +kernel
theorem dX5_removeFirst_25 : decode cX5_removeFirst 25 = .ok (.iadd, 1) := by decide +kernel
theorem dX5_removeFirst_26 : decode cX5_removeFirst 26 = .ok (.iconst 1, 1) := by decide +kernel
theorem dX5_removeFirst_27 : decode cX5_removeFirst 27 = .ok (.isub, 1) := by decide +kernel
theorem dX5_removeFirst_28 : decode cX5_removeFirst 28 = .ok (.aload_n 0, 1) := by decide +kernel
theorem dX5_removeFirst_29 : decode cX5_removeFirst 29 = .ok (.getfield 17, 3) := by decide +kernel
theorem dX5_removeFirst_32 : decode cX5_removeFirst 32 = .ok (.iload_n 2, 1) := by decide +kernel
theorem dX5_removeFirst_33 : decode cX5_removeFirst 33 = .ok (.iload_n 3, 1) := by decide +kernel
theorem dX5_removeFirst_34 : decode cX5_removeFirst 34 = .ok (.iadd, 1) := by decide +kernel
theorem dX5_removeFirst_35 : decode cX5_removeFirst 35 = .ok (.iaload, 1) := by decide +kernel
theorem dX5_removeFirst_36 : decode cX5_removeFirst 36 = .ok (.iastore, 1) := by decide +kernel
theorem dX5_removeFirst_37 : decode cX5_removeFirst 37 = .ok (.iinc 3 1, 3) := by decide +kernel
theorem dX5_removeFirst_40 : decode cX5_removeFirst 40 = .ok (.goto (-31), 3) := by decide +kernel
theorem dX5_removeFirst_43 : decode cX5_removeFirst 43 = .ok (.aload_n 0, 1) := by decide +kernel
theorem dX5_removeFirst_44 : decode cX5_removeFirst 44 = .ok (.getfield 21, 3) := by decide +kernel
theorem dX5_removeFirst_47 : decode cX5_removeFirst 47 = .ok (.iload_n 1, 1) := by decide +kernel
theorem dX5_removeFirst_48 : decode cX5_removeFirst 48 = .ok (.dup2, 1) := by decide +kernel
theorem dX5_removeFirst_49 : decode cX5_removeFirst 49 = .ok (.iaload, 1) := by decide +kernel
theorem dX5_removeFirst_50 : decode cX5_removeFirst 50 = .ok (.iconst 1, 1) := by decide +kernel
theorem dX5_removeFirst_51 : decode cX5_removeFirst 51 = .ok (.isub, 1) := by decide +kernel
theorem dX5_removeFirst_52 : decode cX5_removeFirst 52 = .ok (.iastore, 1) := by decide +kernel
theorem dX5_removeFirst_53 : decode cX5_removeFirst 53 = .ok (.aload_n 0, 1) := by decide +kernel
theorem dX5_removeFirst_54 : decode cX5_removeFirst 54 = .ok (.getfield 24, 3) := by decide +kernel
theorem dX5_removeFirst_57 : decode cX5_removeFirst 57 = .ok (.iload_n 1, 1) := by decide +kernel
theorem dX5_removeFirst_58 : decode cX5_removeFirst 58 = .ok (.iconst 0, 1) := by decide +kernel
theorem dX5_removeFirst_59 : decode cX5_removeFirst 59 = .ok (.iastore, 1) := by decide +kernel
theorem dX5_removeFirst_60 : decode cX5_removeFirst 60 = .ok (.return_, 1) := by decide +kernel
theorem dX2_init_0 : decode cX2_init 0 = .ok (.aload_n 0, 1) := by decide +kernel
theorem dX2_init_1 : decode cX2_init 1 = .ok (.invokespecial 3, 3) := by decide +kernel
theorem dX2_init_4 : decode cX2_init 4 = .ok (.aload_n 0, 1) := by decide +kernel
theorem dX2_init_5 : decode cX2_init 5 = .ok (.new 9, 3) := by decide +kernel
theorem dX2_init_8 : decode cX2_init 8 = .ok (.dup, 1) := by decide +kernel
theorem dX2_init_9 : decode cX2_init 9 = .ok (.invokespecial 11, 3) := by decide +kernel
theorem dX2_init_12 : decode cX2_init 12 = .ok (.putfield 12, 3) := by decide +kernel
theorem dX2_init_15 : decode cX2_init 15 = .ok (.aload_n 0, 1) := by decide +kernel
theorem dX2_init_16 : decode cX2_init 16 = .ok (.aload_n 1, 1) := by decide +kernel
theorem dX2_init_17 : decode cX2_init 17 = .ok (.putfield 18, 3) := by decide +kernel
theorem dX2_init_20 : decode cX2_init 20 = .ok (.aload_n 0, 1) := by decide +kernel
theorem dX2_init_21 : decode cX2_init 21 = .ok (.aload_n 2, 1) := by decide +kernel
theorem dX2_init_22 : decode cX2_init 22 = .ok (.putfield 22, 3) := by decide +kernel
theorem dX2_init_25 : decode cX2_init 25 = .ok (.aload_n 0, 1) := by decide +kernel
theorem dX2_init_26 : decode cX2_init 26 = .ok (.aload_n 3, 1) := by decide +kernel
theorem dX2_init_27 : decode cX2_init 27 = .ok (.putfield 26, 3) := by decide +kernel
theorem dX2_init_30 : decode cX2_init 30 = .ok (.aload_n 0, 1) := by decide +kernel
theorem dX2_init_31 : decode cX2_init 31 = .ok (.new 30, 3) := by decide +kernel
theorem dX2_init_34 : decode cX2_init 34 = .ok (.dup, 1) := by decide +kernel
theorem dX2_init_35 : decode cX2_init 35 = .ok (.aload_n 1, 1) := by decide +kernel
theorem dX2_init_36 : decode cX2_init 36 = .ok (.getfield 32, 3) := by decide +kernel
theorem dX2_init_39 : decode cX2_init 39 = .ok (.iconst 4, 1) := by decide +kernel
theorem dX2_init_40 : decode cX2_init 40 = .ok (.iconst 0, 1) := by decide +kernel
theorem dX2_init_41 : decode cX2_init 41 = .ok (.invokespecial 38, 3) := by decide +kernel
theorem dX2_init_44 : decode cX2_init 44 = .ok (.putfield 41, 3) := by decide +kernel
theorem dX2_init_47 : decode cX2_init 47 = .ok (.aload_n 0, 1) := by decide +kernel
theorem dX2_init_48 : decode cX2_init 48 = .ok (.new 30, 3) := by decide +kernel
theorem dX2_init_51 : decode cX2_init 51 = .ok (.dup, 1) := by decide +kernel
theorem dX2_init_52 : decode cX2_init 52 = .ok (.aload_n 1, 1) := by decide +kernel
theorem dX2_init_53 : decode cX2_init 53 = .ok (.getfield 32, 3) := by decide +kernel
theorem dX2_init_56 : decode cX2_init 56 = .ok (.iconst 2, 1) := by decide +kernel
theorem dX2_init_57 : decode cX2_init 57 = .ok (.iconst 1, 1) := by decide +kernel
theorem dX2_init_58 : decode cX2_init 58 = .ok (.invokespecial 38, 3) := by decide +kernel
theorem dX2_init_61 : decode cX2_init 61 = .ok (.putfield 45, 3) := by decide +kernel
theorem dX2_init_64 : decode cX2_init 64 = .ok (.aload_n 0, 1) := by decide +kernel
theorem dX2_init_65 : decode cX2_init 65 = .ok (.aload_n 1, 1) := by decide +kernel
theorem dX2_init_66 : decode cX2_init 66 = .ok (.getfield 32, 3) := by decide +kernel
theorem dX2_init_69 : decode cX2_init 69 = .ok (.bipush 8, 2) := by decide +kernel
theorem dX2_init_71 : decode cX2_init 71 = .ok (.imul, 1) := by decide +kernel
theorem dX2_init_72 : decode cX2_init 72 = .ok (.newarray .int, 2) := by decide +kernel
theorem dX2_init_74 : decode cX2_init 74 = .ok (.putfield 48, 3) := by decide +kernel
theorem dX2_init_77 : decode cX2_init 77 = .ok (.aload_n 0, 1) := by decide +kernel
theorem dX2_init_78 : decode cX2_init 78 = .ok (.aload_n 1, 1) := by decide +kernel
theorem dX2_init_79 : decode cX2_init 79 = .ok (.getfield 32, 3) := by decide +kernel
theorem dX2_init_82 : decode cX2_init 82 = .ok (.newarray .boolean, 2) := by decide +kernel
theorem dX2_init_84 : decode cX2_init 84 = .ok (.putfield 52, 3) := by decide +kernel
theorem dX2_init_87 : decode cX2_init 87 = .ok (.return_, 1) := by decide +kernel
theorem dX2_takeAll_0 : decode cX2_takeAll 0 = .ok (.iconst 0, 1) := by decide +kernel
theorem dX2_takeAll_1 : decode cX2_takeAll 1 = .ok (.istore_n 2, 1) := by decide +kernel
theorem dX2_takeAll_2 : decode cX2_takeAll 2 = .ok (.iload_n 2, 1) := by decide +kernel
theorem dX2_takeAll_3 : decode cX2_takeAll 3 = .ok (.aload_n 0, 1) := by decide +kernel
theorem dX2_takeAll_4 : decode cX2_takeAll 4 = .ok (.getfield 18, 3) := by decide +kernel
theorem dX2_takeAll_7 : decode cX2_takeAll 7 = .ok (.getfield 32, 3) := by decide +kernel
theorem dX2_takeAll_10 : decode cX2_takeAll 10 = .ok (.if_icmp .ge 85, 3) := by decide +kernel
theorem dX2_takeAll_13 : decode cX2_takeAll 13 = .ok (.iconst 0, 1) := by decide +kernel
theorem dX2_takeAll_14 : decode cX2_takeAll 14 = .ok (.istore_n 3, 1) := by decide +kernel
theorem dX2_takeAll_15 : decode cX2_takeAll 15 = .ok (.iload_n 3, 1) := by decide +kernel
theorem dX2_takeAll_16 : decode cX2_takeAll 16 = .ok (.aload_n 0, 1) := by decide +kernel
theorem dX2_takeAll_17 : decode cX2_takeAll 17 = .ok (.getfield 18, 3) := by decide +kernel
theorem dX2_takeAll_20 : decode cX2_takeAll 20 = .ok (.getfield 56, 3) := by decide +kernel
theorem dX2_takeAll_23 : decode cX2_takeAll 23 = .ok (.if_icmp .ge 66, 3) := by decide +kernel
theorem dX2_takeAll_26 : decode cX2_takeAll 26 = .ok (.aload_n 0, 1) := by decide +kernel
theorem dX2_takeAll_27 : decode cX2_takeAll 27 = .ok (.getfield 18, 3) := by decide +kernel
theorem dX2_takeAll_30 : decode cX2_takeAll 30 = .ok (.iload_n 2, 1) := by decide +kernel
theorem dX2_takeAll_31 : decode cX2_takeAll 31 = .ok (.iconst 5, 1) := by decide +kernel
theorem dX2_takeAll_32 : decode cX2_takeAll 32 = .ok (.iload_n 3, 1) := by decide +kernel
theorem dX2_takeAll_33 : decode cX2_takeAll 33 = .ok (.invokevirtual 59, 3) := by decide +kernel
theorem dX2_takeAll_36 : decode cX2_takeAll 36 = .ok (.istore 4, 2) := by decide +kernel
theorem dX2_takeAll_38 : decode cX2_takeAll 38 = .ok (.aload_n 0, 1) := by decide +kernel
theorem dX2_takeAll_39 : decode cX2_takeAll 39 = .ok (.getfield 22, 3) := by decide +kernel
theorem dX2_takeAll_42 : decode cX2_takeAll 42 = .ok (.getfield 63, 3) := by decide +kernel
theorem dX2_takeAll_45 : decode cX2_takeAll 45 = .ok (.iload 4, 2) := by decide +kernel
theorem dX2_takeAll_47 : decode cX2_takeAll 47 = .ok (.iaload, 1) := by decide +kernel
theorem dX2_takeAll_48 : decode cX2_takeAll 48 = .ok (.ifCond .le 35, 3) := by decide +kernel
theorem dX2_takeAll_51 : decode cX2_takeAll 51 = .ok (.aload_n 0, 1) := by decide +kernel
theorem dX2_takeAll_52 : decode cX2_takeAll 52 = .ok (.iload_n 2, 1) := by decide +kernel
theorem dX2_takeAll_53 : decode cX2_takeAll 53 = .ok (.aload_n 0, 1) := by decide +kernel
theorem dX2_takeAll_54 : decode cX2_takeAll 54 = .ok (.getfield 22, 3) := by decide +kernel
theorem dX2_takeAll_57 : decode cX2_takeAll 57 = .ok (.iload 4, 2) := by decide +kernel
theorem dX2_takeAll_59 : decode cX2_takeAll 59 = .ok (.invokevirtual 68, 3) := by decide +kernel
theorem dX2_takeAll_62 : decode cX2_takeAll 62 = .ok (.invokevirtual 72, 3) := by decide +kernel
theorem dX2_takeAll_65 : decode cX2_takeAll 65 = .ok (.ifCond .eq 18, 3) := by decide +kernel
theorem dX2_takeAll_68 : decode cX2_takeAll 68 = .ok (.aload_n 0, 1) := by decide +kernel
theorem dX2_takeAll_69 : decode cX2_takeAll 69 = .ok (.iload_n 2, 1) := by decide +kernel
theorem dX2_takeAll_70 : decode cX2_takeAll 70 = .ok (.aload_n 0, 1) := by decide +kernel
theorem dX2_takeAll_71 : decode cX2_takeAll 71 = .ok (.getfield 22, 3) := by decide +kernel
theorem dX2_takeAll_74 : decode cX2_takeAll 74 = .ok (.iload 4, 2) := by decide +kernel
theorem dX2_takeAll_76 : decode cX2_takeAll 76 = .ok (.invokevirtual 76, 3) := by decide +kernel
theorem dX2_takeAll_79 : decode cX2_takeAll 79 = .ok (.iload_n 1, 1) := by decide +kernel
theorem dX2_takeAll_80 : decode cX2_takeAll 80 = .ok (.invokevirtual 79, 3) := by decide +kernel
theorem dX2_takeAll_83 : decode cX2_takeAll 83 = .ok (.iinc 3 1, 3) := by decide +kernel
theorem dX2_takeAll_86 : decode cX2_takeAll 86 = .ok (.goto (-71), 3) := by decide +kernel
theorem dX2_takeAll_89 : decode cX2_takeAll 89 = .ok (.iinc 2 1, 3) := by decide +kernel
theorem dX2_takeAll_92 : decode cX2_takeAll 92 = .ok (.goto (-90), 3) := by decide +kernel
theorem dX2_takeAll_95 : decode cX2_takeAll 95 = .ok (.return_, 1) := by decide +kernel
theorem dX2_mayTake_0 : decode cX2_mayTake 0 = .ok (.iload_n 2, 1) := by decide +kernel
theorem dX2_mayTake_1 : decode cX2_mayTake 1 = .ok (.invokestatic 83, 3) := by decide +kernel
theorem dX2_mayTake_4 : decode cX2_mayTake 4 = .ok (.ifCond .ne 10, 3) := by decide +kernel
theorem dX2_mayTake_7 : decode cX2_mayTake 7 = .ok (.iload_n 2, 1) := by decide +kernel
theorem dX2_mayTake_8 : decode cX2_mayTake 8 = .ok (.invokestatic 89, 3) := by decide +kernel
theorem dX2_mayTake_11 : decode cX2_mayTake 11 = .ok (.ifCond .ne 5, 3) := by decide +kernel
theorem dX2_mayTake_14 : decode cX2_mayTake 14 = .ok (.iconst 1, 1) := by decide +kernel
theorem dX2_mayTake_15 : decode cX2_mayTake 15 = .ok (.ireturn, 1) := by decide +kernel
theorem dX2_mayTake_16 : decode cX2_mayTake 16 = .ok (.aload_n 0, 1) := by decide +kernel
theorem dX2_mayTake_17 : decode cX2_mayTake 17 = .ok (.getfield 52, 3) := by decide +kernel
theorem dX2_mayTake_20 : decode cX2_mayTake 20 = .ok (.iload_n 1, 1) := by decide +kernel
theorem dX2_mayTake_21 : decode cX2_mayTake 21 = .ok (.baload, 1) := by decide +kernel
theorem dX2_mayTake_22 : decode cX2_mayTake 22 = .ok (.ifCond .ne 18, 3) := by decide +kernel
theorem dX2_mayTake_25 : decode cX2_mayTake 25 = .ok (.aload_n 0, 1) := by decide +kernel
theorem dX2_mayTake_26 : decode cX2_mayTake 26 = .ok (.getfield 45, 3) := by decide +kernel
theorem dX2_mayTake_29 : decode cX2_mayTake 29 = .ok (.iload_n 1, 1) := by decide +kernel
theorem dX2_mayTake_30 : decode cX2_mayTake 30 = .ok (.invokevirtual 92, 3) := by decide +kernel
theorem dX2_mayTake_33 : decode cX2_mayTake 33 = .ok (.ifCond .ne 7, 3) := by decide +kernel
theorem dX2_mayTake_36 : decode cX2_mayTake 36 = .ok (.iconst 1, 1) := by decide +kernel
theorem dX2_mayTake_37 : decode cX2_mayTake 37 = .ok (.goto 4, 3) := by decide +kernel
theorem dX2_mayTake_40 : decode cX2_mayTake 40 = .ok (.iconst 0, 1) := by decide +kernel
theorem dX2_mayTake_41 : decode cX2_mayTake 41 = .ok (.ireturn, 1) := by decide +kernel
theorem dX2_accept_0 : decode cX2_accept 0 = .ok (.iload_n 2, 1) := by decide +kernel
theorem dX2_accept_1 : decode cX2_accept 1 = .ok (.invokestatic 89, 3) := by decide +kernel
theorem dX2_accept_4 : decode cX2_accept 4 = .ok (.ifCond .ne 4, 3) := by decide +kernel
theorem dX2_accept_7 : decode cX2_accept 7 = .ok (.return_, 1) := by decide +kernel
theorem dX2_accept_8 : decode cX2_accept 8 = .ok (.iload_n 2, 1) := by decide +kernel
theorem dX2_accept_9 : decode cX2_accept 9 = .ok (.invokestatic 95, 3) := by decide +kernel
theorem dX2_accept_12 : decode cX2_accept 12 = .ok (.istore 4, 2) := by decide +kernel
theorem dX2_accept_14 : decode cX2_accept 14 = .ok (.iload_n 2, 1) := by decide +kernel
theorem dX2_accept_15 : decode cX2_accept 15 = .ok (.invokestatic 83, 3) := by decide +kernel
theorem dX2_accept_18 : decode cX2_accept 18 = .ok (.ifCond .eq 16, 3) := by decide +kernel
theorem dX2_accept_21 : decode cX2_accept 21 = .ok (.aload_n 0, 1) := by decide +kernel
theorem dX2_accept_22 : decode cX2_accept 22 = .ok (.getfield 12, 3) := by decide +kernel
theorem dX2_accept_25 : decode cX2_accept 25 = .ok (.iload 4, 2) := by decide +kernel
theorem dX2_accept_27 : decode cX2_accept 27 = .ok (.iload_n 3, 1) := by decide +kernel
theorem dX2_accept_28 : decode cX2_accept 28 = .ok (.invokevirtual 98, 3) := by decide +kernel
theorem dX2_accept_31 : decode cX2_accept 31 = .ok (.goto 20, 3) := by decide +kernel
theorem dX2_accept_34 : decode cX2_accept 34 = .ok (.aload_n 0, 1) := by decide +kernel
theorem dX2_accept_35 : decode cX2_accept 35 = .ok (.iload_n 1, 1) := by decide +kernel
theorem dX2_accept_36 : decode cX2_accept 36 = .ok (.iload 4, 2) := by decide +kernel
theorem dX2_accept_38 : decode cX2_accept 38 = .ok (.invokevirtual 102, 3) := by decide +kernel
theorem dX2_accept_41 : decode cX2_accept 41 = .ok (.aload_n 0, 1) := by decide +kernel
theorem dX2_accept_42 : decode cX2_accept 42 = .ok (.getfield 45, 3) := by decide +kernel
theorem dX2_accept_45 : decode cX2_accept 45 = .ok (.iload_n 1, 1) := by decide +kernel
theorem dX2_accept_46 : decode cX2_accept 46 = .ok (.iload 4, 2) := by decide +kernel
theorem dX2_accept_48 : decode cX2_accept 48 = .ok (.invokevirtual 105, 3) := by decide +kernel
theorem dX2_accept_51 : decode cX2_accept 51 = .ok (.return_, 1) := by decide +kernel
theorem dX2_serve_0 : decode cX2_serve 0 = .ok (.iload_n 1, 1) := by decide +kernel
theorem dX2_serve_1 : decode cX2_serve 1 = .ok (.bipush 8, 2) := by decide +kernel
theorem dX2_serve_3 : decode cX2_serve 3 = .ok (.imul, 1) := by decide +kernel
theorem dX2_serve_4 : decode cX2_serve 4 = .ok (.aload_n 0, 1) := by decide +kernel
theorem dX2_serve_5 : decode cX2_serve 5 = .ok (.getfield 26, 3) := by decide +kernel
theorem dX2_serve_8 : decode cX2_serve 8 = .ok (.getfield 106, 3) := by decide +kernel
theorem dX2_serve_11 : decode cX2_serve 11 = .ok (.iload_n 2, 1) := by decide +kernel
theorem dX2_serve_12 : decode cX2_serve 12 = .ok (.iaload, 1) := by decide +kernel
theorem dX2_serve_13 : decode cX2_serve 13 = .ok (.iadd, 1) := by decide +kernel
theorem dX2_serve_14 : decode cX2_serve 14 = .ok (.istore_n 3, 1) := by decide +kernel
theorem dX2_serve_15 : decode cX2_serve 15 = .ok (.aload_n 0, 1) := by decide +kernel
theorem dX2_serve_16 : decode cX2_serve 16 = .ok (.getfield 48, 3) := by decide +kernel
theorem dX2_serve_19 : decode cX2_serve 19 = .ok (.iload_n 3, 1) := by decide +kernel
theorem dX2_serve_20 : decode cX2_serve 20 = .ok (.iaload, 1) := by decide +kernel
theorem dX2_serve_21 : decode cX2_serve 21 = .ok (.istore 4, 2) := by decide +kernel
theorem dX2_serve_23 : decode cX2_serve 23 = .ok (.aload_n 0, 1) := by decide +kernel
theorem dX2_serve_24 : decode cX2_serve 24 = .ok (.getfield 26, 3) := by decide +kernel
theorem dX2_serve_27 : decode cX2_serve 27 = .ok (.getfield 109, 3) := by decide +kernel
theorem dX2_serve_30 : decode cX2_serve 30 = .ok (.iload_n 2, 1) := by decide +kernel
theorem dX2_serve_31 : decode cX2_serve 31 = .ok (.baload, 1) := by decide +kernel
theorem dX2_serve_32 : decode cX2_serve 32 = .ok (.ifCond .eq 18, 3) := by decide +kernel
theorem dX2_serve_35 : decode cX2_serve 35 = .ok (.aload_n 0, 1) := by decide +kernel
theorem dX2_serve_36 : decode cX2_serve 36 = .ok (.getfield 48, 3) := by decide +kernel
theorem dX2_serve_39 : decode cX2_serve 39 = .ok (.iload_n 3, 1) := by decide +kernel
theorem dX2_serve_40 : decode cX2_serve 40 = .ok (.aload_n 0, 1) := by decide +kernel
theorem dX2_serve_41 : decode cX2_serve 41 = .ok (.getfield 26, 3) := by decide +kernel
theorem dX2_serve_44 : decode cX2_serve 44 = .ok (.getfield 112, 3) := by decide +kernel
theorem dX2_serve_47 : decode cX2_serve 47 = .ok (.iload_n 2, 1) := by decide +kernel
theorem dX2_serve_48 : decode cX2_serve 48 = .ok (.iaload, 1) := by decide +kernel
theorem dX2_serve_49 : decode cX2_serve 49 = .ok (.iastore, 1) := by decide +kernel
theorem dX2_serve_50 : decode cX2_serve 50 = .ok (.aload_n 0, 1) := by decide +kernel
theorem dX2_serve_51 : decode cX2_serve 51 = .ok (.getfield 26, 3) := by decide +kernel
theorem dX2_serve_54 : decode cX2_serve 54 = .ok (.getfield 112, 3) := by decide +kernel
theorem dX2_serve_57 : decode cX2_serve 57 = .ok (.iload_n 2, 1) := by decide +kernel
theorem dX2_serve_58 : decode cX2_serve 58 = .ok (.iload 4, 2) := by decide +kernel
theorem dX2_serve_60 : decode cX2_serve 60 = .ok (.iastore, 1) := by decide +kernel
theorem dX2_serve_61 : decode cX2_serve 61 = .ok (.return_, 1) := by decide +kernel
theorem dX2_sendAll_0 : decode cX2_sendAll 0 = .ok (.iconst 0, 1) := by decide +kernel
theorem dX2_sendAll_1 : decode cX2_sendAll 1 = .ok (.istore_n 1, 1) := by decide +kernel
theorem dX2_sendAll_2 : decode cX2_sendAll 2 = .ok (.iload_n 1, 1) := by decide +kernel
theorem dX2_sendAll_3 : decode cX2_sendAll 3 = .ok (.aload_n 0, 1) := by decide +kernel
theorem dX2_sendAll_4 : decode cX2_sendAll 4 = .ok (.getfield 18, 3) := by decide +kernel
theorem dX2_sendAll_7 : decode cX2_sendAll 7 = .ok (.getfield 32, 3) := by decide +kernel
theorem dX2_sendAll_10 : decode cX2_sendAll 10 = .ok (.if_icmp .ge 31, 3) := by decide +kernel
theorem dX2_sendAll_13 : decode cX2_sendAll 13 = .ok (.aload_n 0, 1) := by decide +kernel
theorem dX2_sendAll_14 : decode cX2_sendAll 14 = .ok (.iload_n 1, 1) := by decide +kernel
theorem dX2_sendAll_15 : decode cX2_sendAll 15 = .ok (.aload_n 0, 1) := by decide +kernel
theorem dX2_sendAll_16 : decode cX2_sendAll 16 = .ok (.getfield 45, 3) := by decide +kernel
theorem dX2_sendAll_19 : decode cX2_sendAll 19 = .ok (.invokevirtual 115, 3) := by decide +kernel
theorem dX2_sendAll_22 : decode cX2_sendAll 22 = .ok (.ifCond .ne 13, 3) := by decide +kernel
theorem dX2_sendAll_25 : decode cX2_sendAll 25 = .ok (.aload_n 0, 1) := by decide +kernel
theorem dX2_sendAll_26 : decode cX2_sendAll 26 = .ok (.iload_n 1, 1) := by decide +kernel
theorem dX2_sendAll_27 : decode cX2_sendAll 27 = .ok (.aload_n 0, 1) := by decide +kernel
theorem dX2_sendAll_28 : decode cX2_sendAll 28 = .ok (.getfield 41, 3) := by decide +kernel
theorem dX2_sendAll_31 : decode cX2_sendAll 31 = .ok (.invokevirtual 115, 3) := by decide +kernel
theorem dX2_sendAll_34 : decode cX2_sendAll 34 = .ok (.pop, 1) := by decide +kernel
theorem dX2_sendAll_35 : decode cX2_sendAll 35 = .ok (.iinc 1 1, 3) := by decide +kernel
theorem dX2_sendAll_38 : decode cX2_sendAll 38 = .ok (.goto (-36), 3) := by decide +kernel
theorem dX2_sendAll_41 : decode cX2_sendAll 41 = .ok (.return_, 1) := by decide +kernel
theorem dX2_sendFirst_0 : decode cX2_sendFirst 0 = .ok (.aload_n 2, 1) := by decide +kernel
theorem dX2_sendFirst_1 : decode cX2_sendFirst 1 = .ok (.getfield 119, 3) := by decide +kernel
theorem dX2_sendFirst_4 : decode cX2_sendFirst 4 = .ok (.iload_n 1, 1) := by decide +kernel
theorem dX2_sendFirst_5 : decode cX2_sendFirst 5 = .ok (.iaload, 1) := by decide +kernel
theorem dX2_sendFirst_6 : decode cX2_sendFirst 6 = .ok (.ifCond .ne 5, 3) := by decide +kernel
theorem dX2_sendFirst_9 : decode cX2_sendFirst 9 = .ok (.iconst 0, 1) := by decide +kernel
theorem dX2_sendFirst_10 : decode cX2_sendFirst 10 = .ok (.ireturn, 1) := by decide +kernel
theorem dX2_sendFirst_11 : decode cX2_sendFirst 11 = .ok (.aload_n 2, 1) := by decide +kernel
theorem dX2_sendFirst_12 : decode cX2_sendFirst 12 = .ok (.iload_n 1, 1) := by decide +kernel
theorem dX2_sendFirst_13 : decode cX2_sendFirst 13 = .ok (.invokevirtual 120, 3) := by decide +kernel
theorem dX2_sendFirst_16 : decode cX2_sendFirst 16 = .ok (.istore_n 3, 1) := by decide +kernel
theorem dX2_sendFirst_17 : decode cX2_sendFirst 17 = .ok (.aload_n 0, 1) := by decide +kernel
theorem dX2_sendFirst_18 : decode cX2_sendFirst 18 = .ok (.getfield 26, 3) := by decide +kernel
theorem dX2_sendFirst_21 : decode cX2_sendFirst 21 = .ok (.iload_n 3, 1) := by decide +kernel
theorem dX2_sendFirst_22 : decode cX2_sendFirst 22 = .ok (.aload_n 2, 1) := by decide +kernel
theorem dX2_sendFirst_23 : decode cX2_sendFirst 23 = .ok (.getfield 123, 3) := by decide +kernel
theorem dX2_sendFirst_26 : decode cX2_sendFirst 26 = .ok (.invokevirtual 127, 3) := by decide +kernel
theorem dX2_sendFirst_29 : decode cX2_sendFirst 29 = .ok (.istore 4, 2) := by decide +kernel
theorem dX2_sendFirst_31 : decode cX2_sendFirst 31 = .ok (.aload_n 0, 1) := by decide +kernel
theorem dX2_sendFirst_32 : decode cX2_sendFirst 32 = .ok (.getfield 18, 3) := by decide +kernel
theorem dX2_sendFirst_35 : decode cX2_sendFirst 35 = .ok (.iload_n 1, 1) := by decide +kernel
theorem dX2_sendFirst_36 : decode cX2_sendFirst 36 = .ok (.iconst 5, 1) := by decide +kernel
theorem dX2_sendFirst_37 : decode cX2_sendFirst 37 = .ok (.iload 4, 2) := by decide +kernel
theorem dX2_sendFirst_39 : decode cX2_sendFirst 39 = .ok (.invokevirtual 59, 3) := by decide +kernel
theorem dX2_sendFirst_42 : decode cX2_sendFirst 42 = .ok (.istore 5, 2) := by decide +kernel
theorem dX2_sendFirst_44 : decode cX2_sendFirst 44 = .ok (.aload_n 0, 1) := by decide +kernel
theorem dX2_sendFirst_45 : decode cX2_sendFirst 45 = .ok (.getfield 22, 3) := by decide +kernel
theorem dX2_sendFirst_48 : decode cX2_sendFirst 48 = .ok (.getfield 131, 3) := by decide +kernel
theorem dX2_sendFirst_51 : decode cX2_sendFirst 51 = .ok (.iload 5, 2) := by decide +kernel
theorem dX2_sendFirst_53 : decode cX2_sendFirst 53 = .ok (.iaload, 1) := by decide +kernel
theorem dX2_sendFirst_54 : decode cX2_sendFirst 54 = .ok (.ifCond .ne 5, 3) := by decide +kernel
theorem dX2_sendFirst_57 : decode cX2_sendFirst 57 = .ok (.iconst 0, 1) := by decide +kernel
theorem dX2_sendFirst_58 : decode cX2_sendFirst 58 = .ok (.ireturn, 1) := by decide +kernel
theorem dX2_sendFirst_59 : decode cX2_sendFirst 59 = .ok (.aload_n 2, 1) := by decide +kernel
theorem dX2_sendFirst_60 : decode cX2_sendFirst 60 = .ok (.getfield 134, 3) := by decide +kernel
theorem dX2_sendFirst_63 : decode cX2_sendFirst 63 = .ok (.iload_n 1, 1) := by decide +kernel
theorem dX2_sendFirst_64 : decode cX2_sendFirst 64 = .ok (.dup2, 1) := by decide +kernel
theorem dX2_sendFirst_65 : decode cX2_sendFirst 65 = .ok (.iaload, 1) := by decide +kernel
theorem dX2_sendFirst_66 : decode cX2_sendFirst 66 = .ok (.iconst 1, 1) := by decide +kernel
theorem dX2_sendFirst_67 : decode cX2_sendFirst 67 = .ok (.iadd, 1) := by decide +kernel
theorem dX2_sendFirst_68 : decode cX2_sendFirst 68 = .ok (.iastore, 1) := by decide +kernel
theorem dX2_sendFirst_69 : decode cX2_sendFirst 69 = .ok (.aload_n 2, 1) := by decide +kernel
theorem dX2_sendFirst_70 : decode cX2_sendFirst 70 = .ok (.getfield 134, 3) := by decide +kernel
theorem dX2_sendFirst_73 : decode cX2_sendFirst 73 = .ok (.iload_n 1, 1) := by decide +kernel
theorem dX2_sendFirst_74 : decode cX2_sendFirst 74 = .ok (.iaload, 1) := by decide +kernel
theorem dX2_sendFirst_75 : decode cX2_sendFirst 75 = .ok (.aload_n 0, 1) := by decide +kernel
theorem dX2_sendFirst_76 : decode cX2_sendFirst 76 = .ok (.getfield 26, 3) := by decide +kernel
theorem dX2_sendFirst_79 : decode cX2_sendFirst 79 = .ok (.iload_n 3, 1) := by decide +kernel
theorem dX2_sendFirst_80 : decode cX2_sendFirst 80 = .ok (.aload_n 2, 1) := by decide +kernel
theorem dX2_sendFirst_81 : decode cX2_sendFirst 81 = .ok (.getfield 123, 3) := by decide +kernel
theorem dX2_sendFirst_84 : decode cX2_sendFirst 84 = .ok (.invokevirtual 137, 3) := by decide +kernel
theorem dX2_sendFirst_87 : decode cX2_sendFirst 87 = .ok (.if_icmp .ne 7, 3) := by decide +kernel
theorem dX2_sendFirst_90 : decode cX2_sendFirst 90 = .ok (.iconst 1, 1) := by decide +kernel
theorem dX2_sendFirst_91 : decode cX2_sendFirst 91 = .ok (.goto 4, 3) := by decide +kernel
theorem dX2_sendFirst_94 : decode cX2_sendFirst 94 = .ok (.iconst 0, 1) := by decide +kernel
theorem dX2_sendFirst_95 : decode cX2_sendFirst 95 = .ok (.istore 6, 2) := by decide +kernel
theorem dX2_sendFirst_97 : decode cX2_sendFirst 97 = .ok (.aload_n 0, 1) := by decide +kernel
theorem dX2_sendFirst_98 : decode cX2_sendFirst 98 = .ok (.getfield 22, 3) := by decide +kernel
theorem dX2_sendFirst_101 : decode cX2_sendFirst 101 = .ok (.iload 5, 2) := by decide +kernel
theorem dX2_sendFirst_103 : decode cX2_sendFirst 103 = .ok (.iload_n 3, 1) := by decide +kernel
theorem dX2_sendFirst_104 : decode cX2_sendFirst 104 = .ok (.aload_n 2, 1) := by decide +kernel
theorem dX2_sendFirst_105 : decode cX2_sendFirst 105 = .ok (.getfield 123, 3) := by decide +kernel
theorem dX2_sendFirst_108 : decode cX2_sendFirst 108 = .ok (.iload 6, 2) := by decide +kernel
theorem dX2_sendFirst_110 : decode cX2_sendFirst 110 = .ok (.invokestatic 140, 3) := by decide +kernel
theorem dX2_sendFirst_113 : decode cX2_sendFirst 113 = .ok (.invokevirtual 144, 3) := by decide +kernel
theorem dX2_sendFirst_116 : decode cX2_sendFirst 116 = .ok (.iload 6, 2) := by decide +kernel
theorem dX2_sendFirst_118 : decode cX2_sendFirst 118 = .ok (.ifCond .eq 8, 3) := by decide +kernel
theorem dX2_sendFirst_121 : decode cX2_sendFirst 121 = .ok (.aload_n 2, 1) := by decide +kernel
theorem dX2_sendFirst_122 : decode cX2_sendFirst 122 = .ok (.iload_n 1, 1) := by decide +kernel
theorem dX2_sendFirst_123 : decode cX2_sendFirst 123 = .ok (.invokevirtual 147, 3) := by decide +kernel
theorem dX2_sendFirst_126 : decode cX2_sendFirst 126 = .ok (.iconst 1, 1) := by decide +kernel
theorem dX2_sendFirst_127 : decode cX2_sendFirst 127 = .ok (.ireturn, 1) := by decide +kernel
theorem dX3_init_0 : decode cX3_init 0 = .ok (.aload_n 0, 1) := by decide +kernel
theorem dX3_init_1 : decode cX3_init 1 = .ok (.invokespecial 3, 3) := by decide +kernel
theorem dX3_init_4 : decode cX3_init 4 = .ok (.aload_n 0, 1) := by decide +kernel
theorem dX3_init_5 : decode cX3_init 5 = .ok (.aload_n 1, 1) := by decide +kernel
theorem dX3_init_6 : decode cX3_init 6 = .ok (.getfield 9, 3) := by decide +kernel
theorem dX3_init_9 : decode cX3_init 9 = .ok (.putfield 15, 3) := by decide +kernel
theorem dX3_init_12 : decode cX3_init 12 = .ok (.aload_n 0, 1) := by decide +kernel
theorem dX3_init_13 : decode cX3_init 13 = .ok (.aload_n 1, 1) := by decide +kernel
theorem dX3_init_14 : decode cX3_init 14 = .ok (.getfield 18, 3) := by decide +kernel
theorem dX3_init_17 : decode cX3_init 17 = .ok (.newarray .int, 2) := by decide +kernel
theorem dX3_init_19 : decode cX3_init 19 = .ok (.putfield 21, 3) := by decide +kernel
theorem dX3_init_22 : decode cX3_init 22 = .ok (.aload_n 0, 1) := by decide +kernel
theorem dX3_init_23 : decode cX3_init 23 = .ok (.aload_n 1, 1) := by decide +kernel
theorem dX3_init_24 : decode cX3_init 24 = .ok (.getfield 18, 3) := by decide +kernel
theorem dX3_init_27 : decode cX3_init 27 = .ok (.aload_n 0, 1) := by decide +kernel
theorem dX3_init_28 : decode cX3_init 28 = .ok (.getfield 15, 3) := by decide +kernel
theorem dX3_init_31 : decode cX3_init 31 = .ok (.imul, 1) := by decide +kernel
theorem dX3_init_32 : decode cX3_init 32 = .ok (.newarray .int, 2) := by decide +kernel
theorem dX3_init_34 : decode cX3_init 34 = .ok (.putfield 25, 3) := by decide +kernel
theorem dX3_init_37 : decode cX3_init 37 = .ok (.aload_n 0, 1) := by decide +kernel
theorem dX3_init_38 : decode cX3_init 38 = .ok (.aload_n 1, 1) := by decide +kernel
theorem dX3_init_39 : decode cX3_init 39 = .ok (.getfield 18, 3) := by decide +kernel
theorem dX3_init_42 : decode cX3_init 42 = .ok (.newarray .int, 2) := by decide +kernel
theorem dX3_init_44 : decode cX3_init 44 = .ok (.putfield 28, 3) := by decide +kernel
theorem dX3_init_47 : decode cX3_init 47 = .ok (.aload_n 0, 1) := by decide +kernel
theorem dX3_init_48 : decode cX3_init 48 = .ok (.aload_n 1, 1) := by decide +kernel
theorem dX3_init_49 : decode cX3_init 49 = .ok (.getfield 18, 3) := by decide +kernel
theorem dX3_init_52 : decode cX3_init 52 = .ok (.newarray .int, 2) := by decide +kernel
theorem dX3_init_54 : decode cX3_init 54 = .ok (.putfield 31, 3) := by decide +kernel
theorem dX3_init_57 : decode cX3_init 57 = .ok (.aload_n 0, 1) := by decide +kernel
theorem dX3_init_58 : decode cX3_init 58 = .ok (.aload_n 1, 1) := by decide +kernel
theorem dX3_init_59 : decode cX3_init 59 = .ok (.getfield 18, 3) := by decide +kernel
theorem dX3_init_62 : decode cX3_init 62 = .ok (.newarray .int, 2) := by decide +kernel
theorem dX3_init_64 : decode cX3_init 64 = .ok (.putfield 34, 3) := by decide +kernel
theorem dX3_init_67 : decode cX3_init 67 = .ok (.aload_n 0, 1) := by decide +kernel
theorem dX3_init_68 : decode cX3_init 68 = .ok (.aload_n 1, 1) := by decide +kernel
theorem dX3_init_69 : decode cX3_init 69 = .ok (.getfield 18, 3) := by decide +kernel
theorem dX3_init_72 : decode cX3_init 72 = .ok (.newarray .int, 2) := by decide +kernel
theorem dX3_init_74 : decode cX3_init 74 = .ok (.putfield 37, 3) := by decide +kernel
theorem dX3_init_77 : decode cX3_init 77 = .ok (.aload_n 0, 1) := by decide +kernel
theorem dX3_init_78 : decode cX3_init 78 = .ok (.aload_n 1, 1) := by decide +kernel
theorem dX3_init_79 : decode cX3_init 79 = .ok (.getfield 18, 3) := by decide +kernel
theorem dX3_init_82 : decode cX3_init 82 = .ok (.newarray .int, 2) := by decide +kernel
theorem dX3_init_84 : decode cX3_init 84 = .ok (.putfield 40, 3) := by decide +kernel
theorem dX3_init_87 : decode cX3_init 87 = .ok (.iconst 0, 1) := by decide +kernel
theorem dX3_init_88 : decode cX3_init 88 = .ok (.istore_n 2, 1) := by decide +kernel
theorem dX3_init_89 : decode cX3_init 89 = .ok (.iload_n 2, 1) := by decide +kernel
theorem dX3_init_90 : decode cX3_init 90 = .ok (.aload_n 1, 1) := by decide +kernel
theorem dX3_init_91 : decode cX3_init 91 = .ok (.getfield 43, 3) := by decide +kernel
theorem dX3_init_94 : decode cX3_init 94 = .ok (.if_icmp .ge 85, 3) := by decide +kernel
theorem dX3_init_97 : decode cX3_init 97 = .ok (.iconst 0, 1) := by decide +kernel
theorem dX3_init_98 : decode cX3_init 98 = .ok (.istore_n 3, 1) := by decide +kernel
theorem dX3_init_99 : decode cX3_init 99 = .ok (.iload_n 3, 1) := by decide +kernel
theorem dX3_init_100 : decode cX3_init 100 = .ok (.bipush 6, 2) := by decide +kernel
theorem dX3_init_102 : decode cX3_init 102 = .ok (.if_icmp .ge 71, 3) := by decide +kernel
theorem dX3_init_105 : decode cX3_init 105 = .ok (.iconst 0, 1) := by decide +kernel
theorem dX3_init_106 : decode cX3_init 106 = .ok (.istore 4, 2) := by decide +kernel
theorem dX3_init_108 : decode cX3_init 108 = .ok (.iload 4, 2) := by decide +kernel
theorem dX3_init_110 : decode cX3_init 110 = .ok (.aload_n 1, 1) := by decide +kernel
theorem dX3_init_111 : decode cX3_init 111 = .ok (.getfield 46, 3) := by decide +kernel
theorem dX3_init_114 : decode cX3_init 114 = .ok (.if_icmp .ge 53, 3) := by decide +kernel
theorem dX3_init_117 : decode cX3_init 117 = .ok (.aload_n 1, 1) := by decide +kernel
theorem dX3_init_118 : decode cX3_init 118 = .ok (.iload_n 2, 1) := by decide +kernel
theorem dX3_init_119 : decode cX3_init 119 = .ok (.iload_n 3, 1) := by decide +kernel
theorem dX3_init_120 : decode cX3_init 120 = .ok (.iload 4, 2) := by decide +kernel
theorem dX3_init_122 : decode cX3_init 122 = .ok (.invokevirtual 49, 3) := by decide +kernel
theorem dX3_init_125 : decode cX3_init 125 = .ok (.istore 5, 2) := by decide +kernel
theorem dX3_init_127 : decode cX3_init 127 = .ok (.aload_n 0, 1) := by decide +kernel
theorem dX3_init_128 : decode cX3_init 128 = .ok (.getfield 21, 3) := by decide +kernel
theorem dX3_init_131 : decode cX3_init 131 = .ok (.iload 5, 2) := by decide +kernel
theorem dX3_init_133 : decode cX3_init 133 = .ok (.aload_n 1, 1) := by decide +kernel
theorem dX3_init_134 : decode cX3_init 134 = .ok (.iload_n 2, 1) := by decide +kernel
theorem dX3_init_135 : decode cX3_init 135 = .ok (.iload_n 3, 1) := by decide +kernel
theorem dX3_init_136 : decode cX3_init 136 = .ok (.iload 4, 2) := by decide +kernel
theorem dX3_init_138 : decode cX3_init 138 = .ok (.invokevirtual 53, 3) := by decide +kernel
theorem dX3_init_141 : decode cX3_init 141 = .ok (.iastore, 1) := by decide +kernel
theorem dX3_init_142 : decode cX3_init 142 = .ok (.aload_n 0, 1) := by decide +kernel
theorem dX3_init_143 : decode cX3_init 143 = .ok (.getfield 34, 3) := by decide +kernel
theorem dX3_init_146 : decode cX3_init 146 = .ok (.iload 5, 2) := by decide +kernel
theorem dX3_init_148 : decode cX3_init 148 = .ok (.aload_n 0, 1) := by decide +kernel
theorem dX3_init_149 : decode cX3_init 149 = .ok (.getfield 15, 3) := by decide +kernel
theorem dX3_init_152 : decode cX3_init 152 = .ok (.iastore, 1) := by decide +kernel
theorem dX3_init_153 : decode cX3_init 153 = .ok (.aload_n 0, 1) := by decide +kernel
theorem dX3_init_154 : decode cX3_init 154 = .ok (.getfield 37, 3) := by decide +kernel
theorem dX3_init_157 : decode cX3_init 157 = .ok (.iload 5, 2) := by decide +kernel
theorem dX3_init_159 : decode cX3_init 159 = .ok (.iconst (-1), 1) := by decide +kernel
theorem dX3_init_160 : decode cX3_init 160 = .ok (.iastore, 1) := by decide +kernel
theorem dX3_init_161 : decode cX3_init 161 = .ok (.iinc 4 1, 3) := by decide +kernel
theorem dX3_init_164 : decode cX3_init 164 = .ok (.goto (-56), 3) := by decide +kernel
theorem dX3_init_167 : decode cX3_init 167 = .ok (.iinc 3 1, 3) := by decide +kernel
theorem dX3_init_170 : decode cX3_init 170 = .ok (.goto (-71), 3) := by decide +kernel
theorem dX3_init_173 : decode cX3_init 173 = .ok (.iinc 2 1, 3) := by decide +kernel
theorem dX3_init_176 : decode cX3_init 176 = .ok (.goto (-87), 3) := by decide +kernel
theorem dX3_init_179 : decode cX3_init 179 = .ok (.return_, 1) := by decide +kernel
theorem dX3_arriveAll_0 : decode cX3_arriveAll 0 = .ok (.aload_n 0, 1) := by decide +kernel
theorem dX3_arriveAll_1 : decode cX3_arriveAll 1 = .ok (.iconst 0, 1) := by decide +kernel
theorem dX3_arriveAll_2 : decode cX3_arriveAll 2 = .ok (.putfield 56, 3) := by decide +kernel
theorem dX3_arriveAll_5 : decode cX3_arriveAll 5 = .ok (.iconst 0, 1) := by decide +kernel
theorem dX3_arriveAll_6 : decode cX3_arriveAll 6 = .ok (.istore_n 1, 1) := by decide +kernel
theorem dX3_arriveAll_7 : decode cX3_arriveAll 7 = .ok (.iload_n 1, 1) := by decide +kernel
theorem dX3_arriveAll_8 : decode cX3_arriveAll 8 = .ok (.aload_n 0, 1) := by decide +kernel
theorem dX3_arriveAll_9 : decode cX3_arriveAll 9 = .ok (.getfield 31, 3) := by decide +kernel
theorem dX3_arriveAll_12 : decode cX3_arriveAll 12 = .ok (.arraylength, 1) := by decide +kernel
theorem dX3_arriveAll_13 : decode cX3_arriveAll 13 = .ok (.if_icmp .ge 94, 3) := by decide +kernel
theorem dX3_arriveAll_16 : decode cX3_arriveAll 16 = .ok (.aload_n 0, 1) := by decide +kernel
theorem dX3_arriveAll_17 : decode cX3_arriveAll 17 = .ok (.getfield 37, 3) := by decide +kernel
theorem dX3_arriveAll_20 : decode cX3_arriveAll 20 = .ok (.iload_n 1, 1) := by decide +kernel
theorem dX3_arriveAll_21 : decode cX3_arriveAll 21 = .ok (.iaload, 1) := by decide +kernel
theorem dX3_arriveAll_22 : decode cX3_arriveAll 22 = .ok (.iconst (-1), 1) := by decide +kernel
theorem dX3_arriveAll_23 : decode cX3_arriveAll 23 = .ok (.if_icmp .eq 56, 3) := by decide +kernel
theorem dX3_arriveAll_26 : decode cX3_arriveAll 26 = .ok (.aload_n 0, 1) := by decide +kernel
theorem dX3_arriveAll_27 : decode cX3_arriveAll 27 = .ok (.getfield 25, 3) := by decide +kernel
theorem dX3_arriveAll_30 : decode cX3_arriveAll 30 = .ok (.iload_n 1, 1) := by decide +kernel
theorem dX3_arriveAll_31 : decode cX3_arriveAll 31 = .ok (.aload_n 0, 1) := by decide +kernel
theorem dX3_arriveAll_32 : decode cX3_arriveAll 32 = .ok (.getfield 15, 3) := by decide +kernel
theorem dX3_arriveAll_35 : decode cX3_arriveAll 35 = .ok (.imul, 1) := by decide +kernel
theorem dX3_arriveAll_36 : decode cX3_arriveAll 36 = .ok (.aload_n 0, 1) := by decide +kernel
theorem dX3_arriveAll_37 : decode cX3_arriveAll 37 = .ok (.getfield 28, 3) := by decide +kernel
theorem dX3_arriveAll_40 : decode cX3_arriveAll 40 = .ok (.iload_n 1, 1) := by decide +kernel
theorem dX3_arriveAll_41 : decode cX3_arriveAll 41 = .ok (.iaload, 1) := by decide +kernel
theorem dX3_arriveAll_42 : decode cX3_arriveAll 42 = .ok (.aload_n 0, 1) := by decide +kernel
theorem dX3_arriveAll_43 : decode cX3_arriveAll 43 = .ok (.getfield 31, 3) := by decide +kernel
theorem dX3_arriveAll_46 : decode cX3_arriveAll 46 = .ok (.iload_n 1, 1) := by decide +kernel
theorem dX3_arriveAll_47 : decode cX3_arriveAll 47 = .ok (.iaload, 1) := by decide +kernel
theorem dX3_arriveAll_48 : decode cX3_arriveAll 48 = .ok (.iadd, 1) := by decide +kernel
theorem dX3_arriveAll_49 : decode cX3_arriveAll 49 = .ok (.aload_n 0, 1) := by decide +kernel
theorem dX3_arriveAll_50 : decode cX3_arriveAll 50 = .ok (.getfield 15, 3) := by decide +kernel
theorem dX3_arriveAll_53 : decode cX3_arriveAll 53 = .ok (.irem, 1) := by decide +kernel
theorem dX3_arriveAll_54 : decode cX3_arriveAll 54 = .ok (.iadd, 1) := by decide +kernel
theorem dX3_arriveAll_55 : decode cX3_arriveAll 55 = .ok (.aload_n 0, 1) := by decide +kernel
theorem dX3_arriveAll_56 : decode cX3_arriveAll 56 = .ok (.getfield 37, 3) := by decide +kernel
theorem dX3_arriveAll_59 : decode cX3_arriveAll 59 = .ok (.iload_n 1, 1) := by decide +kernel
theorem dX3_arriveAll_60 : decode cX3_arriveAll 60 = .ok (.iaload, 1) := by decide +kernel
theorem dX3_arriveAll_61 : decode cX3_arriveAll 61 = .ok (.iastore, 1) := by decide +kernel
theorem dX3_arriveAll_62 : decode cX3_arriveAll 62 = .ok (.aload_n 0, 1) := by decide +kernel
theorem dX3_arriveAll_63 : decode cX3_arriveAll 63 = .ok (.getfield 31, 3) := by decide +kernel
theorem dX3_arriveAll_66 : decode cX3_arriveAll 66 = .ok (.iload_n 1, 1) := by decide +kernel
theorem dX3_arriveAll_67 : decode cX3_arriveAll 67 = .ok (.dup2, 1) := by decide +kernel
theorem dX3_arriveAll_68 : decode cX3_arriveAll 68 = .ok (.iaload, 1) := by decide +kernel
theorem dX3_arriveAll_69 : decode cX3_arriveAll 69 = .ok (.iconst 1, 1) := by decide +kernel
theorem dX3_arriveAll_70 : decode cX3_arriveAll 70 = .ok (.iadd, 1) := by decide +kernel
theorem dX3_arriveAll_71 : decode cX3_arriveAll 71 = .ok (.iastore, 1) := by decide +kernel
theorem dX3_arriveAll_72 : decode cX3_arriveAll 72 = .ok (.aload_n 0, 1) := by decide +kernel
theorem dX3_arriveAll_73 : decode cX3_arriveAll 73 = .ok (.getfield 37, 3) := by decide +kernel
theorem dX3_arriveAll_76 : decode cX3_arriveAll 76 = .ok (.iload_n 1, 1) := by decide +kernel
theorem dX3_arriveAll_77 : decode cX3_arriveAll 77 = .ok (.iconst (-1), 1) := by decide +kernel
theorem dX3_arriveAll_78 : decode cX3_arriveAll 78 = .ok (.iastore, 1) := by decide +kernel
theorem dX3_arriveAll_79 : decode cX3_arriveAll 79 = .ok (.aload_n 0, 1) := by decide +kernel
theorem dX3_arriveAll_80 : decode cX3_arriveAll 80 = .ok (.getfield 34, 3) := by decide +kernel
theorem dX3_arriveAll_83 : decode cX3_arriveAll 83 = .ok (.iload_n 1, 1) := by decide +kernel
theorem dX3_arriveAll_84 : decode cX3_arriveAll 84 = .ok (.dup2, 1) := by decide +kernel
theorem dX3_arriveAll_85 : decode cX3_arriveAll 85 = .ok (.iaload, 1) := by decide +kernel
theorem dX3_arriveAll_86 : decode cX3_arriveAll 86 = .ok (.aload_n 0, 1) := by decide +kernel
theorem dX3_arriveAll_87 : decode cX3_arriveAll 87 = .ok (.getfield 40, 3) := by decide +kernel
theorem dX3_arriveAll_90 : decode cX3_arriveAll 90 = .ok (.iload_n 1, 1) := by decide +kernel
theorem dX3_arriveAll_91 : decode cX3_arriveAll 91 = .ok (.iaload, 1) := by decide +kernel
theorem dX3_arriveAll_92 : decode cX3_arriveAll 92 = .ok (.iadd, 1) := by decide +kernel
theorem dX3_arriveAll_93 : decode cX3_arriveAll 93 = .ok (.iastore, 1) := by decide +kernel
theorem dX3_arriveAll_94 : decode cX3_arriveAll 94 = .ok (.aload_n 0, 1) := by decide +kernel
theorem dX3_arriveAll_95 : decode cX3_arriveAll 95 = .ok (.getfield 40, 3) := by decide +kernel
theorem dX3_arriveAll_98 : decode cX3_arriveAll 98 = .ok (.iload_n 1, 1) := by decide +kernel
theorem dX3_arriveAll_99 : decode cX3_arriveAll 99 = .ok (.iconst 0, 1) := by decide +kernel
theorem dX3_arriveAll_100 : decode cX3_arriveAll 100 = .ok (.iastore, 1) := by decide +kernel
theorem dX3_arriveAll_101 : decode cX3_arriveAll 101 = .ok (.iinc 1 1, 3) := by decide +kernel
theorem dX3_arriveAll_104 : decode cX3_arriveAll 104 = .ok (.goto (-97), 3) := by decide +kernel
theorem dX3_arriveAll_107 : decode cX3_arriveAll 107 = .ok (.return_, 1) := by decide +kernel
theorem dX3_firstFlit_0 : decode cX3_firstFlit 0 = .ok (.aload_n 0, 1) := by decide +kernel
theorem dX3_firstFlit_1 : decode cX3_firstFlit 1 = .ok (.getfield 25, 3) := by decide +kernel
theorem dX3_firstFlit_4 : decode cX3_firstFlit 4 = .ok (.iload_n 1, 1) := by decide +kernel
theorem dX3_firstFlit_5 : decode cX3_firstFlit 5 = .ok (.aload_n 0, 1) := by decide +kernel
theorem dX3_firstFlit_6 : decode cX3_firstFlit 6 = .ok (.getfield 15, 3) := by decide +kernel
theorem dX3_firstFlit_9 : decode cX3_firstFlit 9 = .ok (.imul, 1) := by decide +kernel
theorem dX3_firstFlit_10 : decode cX3_firstFlit 10 = .ok (.aload_n 0, 1) := by decide +kernel
theorem dX3_firstFlit_11 : decode cX3_firstFlit 11 = .ok (.getfield 28, 3) := by decide +kernel
theorem dX3_firstFlit_14 : decode cX3_firstFlit 14 = .ok (.iload_n 1, 1) := by decide +kernel
theorem dX3_firstFlit_15 : decode cX3_firstFlit 15 = .ok (.iaload, 1) := by decide +kernel
theorem dX3_firstFlit_16 : decode cX3_firstFlit 16 = .ok (.iadd, 1) := by decide +kernel
theorem dX3_firstFlit_17 : decode cX3_firstFlit 17 = .ok (.iaload, 1) := by decide +kernel
theorem dX3_firstFlit_18 : decode cX3_firstFlit 18 = .ok (.ireturn, 1) := by decide +kernel
theorem dX3_takeOut_0 : decode cX3_takeOut 0 = .ok (.aload_n 0, 1) := by decide +kernel
theorem dX3_takeOut_1 : decode cX3_takeOut 1 = .ok (.iload_n 1, 1) := by decide +kernel
theorem dX3_takeOut_2 : decode cX3_takeOut 2 = .ok (.invokevirtual 59, 3) := by decide +kernel
theorem dX3_takeOut_5 : decode cX3_takeOut 5 = .ok (.istore_n 2, 1) := by decide +kernel
theorem dX3_takeOut_6 : decode cX3_takeOut 6 = .ok (.aload_n 0, 1) := by decide +kernel
theorem dX3_takeOut_7 : decode cX3_takeOut 7 = .ok (.getfield 28, 3) := by decide +kernel
theorem dX3_takeOut_10 : decode cX3_takeOut 10 = .ok (.iload_n 1, 1) := by decide +kernel
theorem dX3_takeOut_11 : decode cX3_takeOut 11 = .ok (.aload_n 0, 1) := by decide +kernel
theorem dX3_takeOut_12 : decode cX3_takeOut 12 = .ok (.getfield 28, 3) := by decide +kernel
theorem dX3_takeOut_15 : decode cX3_takeOut 15 = .ok (.iload_n 1, 1) := by decide +kernel
theorem dX3_takeOut_16 : decode cX3_takeOut 16 = .ok (.iaload, 1) := by decide +kernel
theorem dX3_takeOut_17 : decode cX3_takeOut 17 = .ok (.iconst 1, 1) := by decide +kernel
theorem dX3_takeOut_18 : decode cX3_takeOut 18 = .ok (.iadd, 1) := by decide +kernel
theorem dX3_takeOut_19 : decode cX3_takeOut 19 = .ok (.aload_n 0, 1) := by decide +kernel
theorem dX3_takeOut_20 : decode cX3_takeOut 20 = .ok (.getfield 15, 3) := by decide +kernel
theorem dX3_takeOut_23 : decode cX3_takeOut 23 = .ok (.irem, 1) := by decide +kernel
theorem dX3_takeOut_24 : decode cX3_takeOut 24 = .ok (.iastore, 1) := by decide +kernel
theorem dX3_takeOut_25 : decode cX3_takeOut 25 = .ok (.aload_n 0, 1) := by decide +kernel
theorem dX3_takeOut_26 : decode cX3_takeOut 26 = .ok (.getfield 31, 3) := by decide +kernel
theorem dX3_takeOut_29 : decode cX3_takeOut 29 = .ok (.iload_n 1, 1) := by decide +kernel
theorem dX3_takeOut_30 : decode cX3_takeOut 30 = .ok (.dup2, 1) := by decide +kernel
theorem dX3_takeOut_31 : decode cX3_takeOut 31 = .ok (.iaload, 1) := by decide +kernel
theorem dX3_takeOut_32 : decode cX3_takeOut 32 = .ok (.iconst 1, 1) := by decide +kernel
theorem dX3_takeOut_33 : decode cX3_takeOut 33 = .ok (.isub, 1) := by decide +kernel
theorem dX3_takeOut_34 : decode cX3_takeOut 34 = .ok (.iastore, 1) := by decide +kernel
theorem dX3_takeOut_35 : decode cX3_takeOut 35 = .ok (.aload_n 0, 1) := by decide +kernel
theorem dX3_takeOut_36 : decode cX3_takeOut 36 = .ok (.getfield 40, 3) := by decide +kernel
theorem dX3_takeOut_39 : decode cX3_takeOut 39 = .ok (.aload_n 0, 1) := by decide +kernel
theorem dX3_takeOut_40 : decode cX3_takeOut 40 = .ok (.getfield 21, 3) := by decide +kernel
theorem dX3_takeOut_43 : decode cX3_takeOut 43 = .ok (.iload_n 1, 1) := by decide +kernel
theorem dX3_takeOut_44 : decode cX3_takeOut 44 = .ok (.iaload, 1) := by decide +kernel
theorem dX3_takeOut_45 : decode cX3_takeOut 45 = .ok (.dup2, 1) := by decide +kernel
theorem dX3_takeOut_46 : decode cX3_takeOut 46 = .ok (.iaload, 1) := by decide +kernel
theorem dX3_takeOut_47 : decode cX3_takeOut 47 = .ok (.iconst 1, 1) := by decide +kernel
theorem dX3_takeOut_48 : decode cX3_takeOut 48 = .ok (.iadd, 1) := by decide +kernel
theorem dX3_takeOut_49 : decode cX3_takeOut 49 = .ok (.iastore, 1) := by decide +kernel
theorem dX3_takeOut_50 : decode cX3_takeOut 50 = .ok (.iload_n 2, 1) := by decide +kernel
theorem dX3_takeOut_51 : decode cX3_takeOut 51 = .ok (.ireturn, 1) := by decide +kernel
theorem dX3_send_0 : decode cX3_send 0 = .ok (.aload_n 0, 1) := by decide +kernel
theorem dX3_send_1 : decode cX3_send 1 = .ok (.getfield 34, 3) := by decide +kernel
theorem dX3_send_4 : decode cX3_send 4 = .ok (.iload_n 1, 1) := by decide +kernel
theorem dX3_send_5 : decode cX3_send 5 = .ok (.dup2, 1) := by decide +kernel
theorem dX3_send_6 : decode cX3_send 6 = .ok (.iaload, 1) := by decide +kernel
theorem dX3_send_7 : decode cX3_send 7 = .ok (.iconst 1, 1) := by decide +kernel
theorem dX3_send_8 : decode cX3_send 8 = .ok (.isub, 1) := by decide +kernel
theorem dX3_send_9 : decode cX3_send 9 = .ok (.iastore, 1) := by decide +kernel
theorem dX3_send_10 : decode cX3_send 10 = .ok (.aload_n 0, 1) := by decide +kernel
theorem dX3_send_11 : decode cX3_send 11 = .ok (.getfield 37, 3) := by decide +kernel
theorem dX3_send_14 : decode cX3_send 14 = .ok (.aload_n 0, 1) := by decide +kernel
theorem dX3_send_15 : decode cX3_send 15 = .ok (.getfield 21, 3) := by decide +kernel
theorem dX3_send_18 : decode cX3_send 18 = .ok (.iload_n 1, 1) := by decide +kernel
theorem dX3_send_19 : decode cX3_send 19 = .ok (.iaload, 1) := by decide +kernel
theorem dX3_send_20 : decode cX3_send 20 = .ok (.iload_n 2, 1) := by decide +kernel
theorem dX3_send_21 : decode cX3_send 21 = .ok (.iastore, 1) := by decide +kernel
theorem dX3_send_22 : decode cX3_send 22 = .ok (.aload_n 0, 1) := by decide +kernel
theorem dX3_send_23 : decode cX3_send 23 = .ok (.dup, 1) := by decide +kernel
theorem dX3_send_24 : decode cX3_send 24 = .ok (.getfield 56, 3) := by decide +kernel
theorem dX3_send_27 : decode cX3_send 27 = .ok (.iconst 1, 1) := by decide +kernel
theorem dX3_send_28 : decode cX3_send 28 = .ok (.iadd, 1) := by decide +kernel
theorem dX3_send_29 : decode cX3_send 29 = .ok (.putfield 56, 3) := by decide +kernel
theorem dX3_send_32 : decode cX3_send 32 = .ok (.return_, 1) := by decide +kernel
end
section
theorem dX6_init_0 : decode cX6_init 0 = .ok (.aload_n 0, 1) := by decide +kernel
theorem dX6_init_1 : decode cX6_init 1 = .ok (.invokespecial 3, 3) := by decide +kernel
theorem dX6_init_4 : decode cX6_init 4 = .ok (.aload_n 0, 1) := by decide +kernel
theorem dX6_init_5 : decode cX6_init 5 = .ok (.iconst 5, 1) := by decide +kernel
theorem dX6_init_6 : decode cX6_init 6 = .ok (.newarray .int, 2) := by decide +kernel
theorem dX6_init_8 : decode cX6_init 8 = .ok (.putfield 9, 3) := by decide +kernel
theorem dX6_init_11 : decode cX6_init 11 = .ok (.aload_n 0, 1) := by decide +kernel
theorem dX6_init_12 : decode cX6_init 12 = .ok (.aload_n 1, 1) := by decide +kernel
theorem dX6_init_13 : decode cX6_init 13 = .ok (.putfield 15, 3) := by decide +kernel
theorem dX6_init_16 : decode cX6_init 16 = .ok (.aload_n 0, 1) := by decide +kernel
theorem dX6_init_17 : decode cX6_init 17 = .ok (.aload_n 2, 1) := by decide +kernel
theorem dX6_init_18 : decode cX6_init 18 = .ok (.putfield 19, 3) := by decide +kernel
theorem dX6_init_21 : decode cX6_init 21 = .ok (.aload_n 0, 1) := by decide +kernel
theorem dX6_init_22 : decode cX6_init 22 = .ok (.aload_n 3, 1) := by decide +kernel
theorem dX6_init_23 : decode cX6_init 23 = .ok (.putfield 23, 3) := by decide +kernel
theorem dX6_init_26 : decode cX6_init 26 = .ok (.aload_n 0, 1) := by decide +kernel
theorem dX6_init_27 : decode cX6_init 27 = .ok (.aload_n 1, 1) := by decide +kernel
theorem dX6_init_28 : decode cX6_init 28 = .ok (.getfield 27, 3) := by decide +kernel
theorem dX6_init_31 : decode cX6_init 31 = .ok (.newarray .int, 2) := by decide +kernel
theorem dX6_init_33 : decode cX6_init 33 = .ok (.putfield 33, 3) := by decide +kernel
theorem dX6_init_36 : decode cX6_init 36 = .ok (.aload_n 0, 1) := by decide +kernel
theorem dX6_init_37 : decode cX6_init 37 = .ok (.aload_n 1, 1) := by decide +kernel
theorem dX6_init_38 : decode cX6_init 38 = .ok (.getfield 27, 3) := by decide +kernel
theorem dX6_init_41 : decode cX6_init 41 = .ok (.newarray .int, 2) := by decide +kernel
theorem dX6_init_43 : decode cX6_init 43 = .ok (.putfield 36, 3) := by decide +kernel
theorem dX6_init_46 : decode cX6_init 46 = .ok (.aload_n 0, 1) := by decide +kernel
theorem dX6_init_47 : decode cX6_init 47 = .ok (.aload_n 1, 1) := by decide +kernel
theorem dX6_init_48 : decode cX6_init 48 = .ok (.getfield 27, 3) := by decide +kernel
theorem dX6_init_51 : decode cX6_init 51 = .ok (.newarray .boolean, 2) := by decide +kernel
theorem dX6_init_53 : decode cX6_init 53 = .ok (.putfield 39, 3) := by decide +kernel
theorem dX6_init_56 : decode cX6_init 56 = .ok (.aload_n 0, 1) := by decide +kernel
theorem dX6_init_57 : decode cX6_init 57 = .ok (.aload_n 1, 1) := by decide +kernel
theorem dX6_init_58 : decode cX6_init 58 = .ok (.getfield 27, 3) := by decide +kernel
theorem dX6_init_61 : decode cX6_init 61 = .ok (.newarray .int, 2) := by decide +kernel
theorem dX6_init_63 : decode cX6_init 63 = .ok (.putfield 43, 3) := by decide +kernel
theorem dX6_init_66 : decode cX6_init 66 = .ok (.aload_n 0, 1) := by decide +kernel
theorem dX6_init_67 : decode cX6_init 67 = .ok (.aload_n 1, 1) := by decide +kernel
theorem dX6_init_68 : decode cX6_init 68 = .ok (.getfield 46, 3) := by decide +kernel
theorem dX6_init_71 : decode cX6_init 71 = .ok (.iconst 5, 1) := by decide +kernel
theorem dX6_init_72 : decode cX6_init 72 = .ok (.imul, 1) := by decide +kernel
theorem dX6_init_73 : decode cX6_init 73 = .ok (.newarray .int, 2) := by decide +kernel
theorem dX6_init_75 : decode cX6_init 75 = .ok (.putfield 49, 3) := by decide +kernel
theorem dX6_init_78 : decode cX6_init 78 = .ok (.aload_n 0, 1) := by decide +kernel
theorem dX6_init_79 : decode cX6_init 79 = .ok (.aload_n 1, 1) := by decide +kernel
theorem dX6_init_80 : decode cX6_init 80 = .ok (.getfield 46, 3) := by decide +kernel
theorem dX6_init_83 : decode cX6_init 83 = .ok (.iconst 5, 1) := by decide +kernel
theorem dX6_init_84 : decode cX6_init 84 = .ok (.imul, 1) := by decide +kernel
theorem dX6_init_85 : decode cX6_init 85 = .ok (.newarray .int, 2) := by decide +kernel
theorem dX6_init_87 : decode cX6_init 87 = .ok (.putfield 52, 3) := by decide +kernel
theorem dX6_init_90 : decode cX6_init 90 = .ok (.return_, 1) := by decide +kernel
theorem dX6_moveAll_0 : decode cX6_moveAll 0 = .ok (.iconst 0, 1) := by decide +kernel
theorem dX6_moveAll_1 : decode cX6_moveAll 1 = .ok (.istore_n 1, 1) := by decide +kernel
theorem dX6_moveAll_2 : decode cX6_moveAll 2 = .ok (.iload_n 1, 1) := by decide +kernel
theorem dX6_moveAll_3 : decode cX6_moveAll 3 = .ok (.aload_n 0, 1) := by decide +kernel
theorem dX6_moveAll_4 : decode cX6_moveAll 4 = .ok (.getfield 15, 3) := by decide +kernel
theorem dX6_moveAll_7 : decode cX6_moveAll 7 = .ok (.getfield 46, 3) := by decide +kernel
theorem dX6_moveAll_10 : decode cX6_moveAll 10 = .ok (.if_icmp .ge 66, 3) := by decide +kernel
theorem dX6_moveAll_13 : decode cX6_moveAll 13 = .ok (.iconst 0, 1) := by decide +kernel
theorem dX6_moveAll_14 : decode cX6_moveAll 14 = .ok (.istore_n 2, 1) := by decide +kernel
theorem dX6_moveAll_15 : decode cX6_moveAll 15 = .ok (.iload_n 2, 1) := by decide +kernel
theorem dX6_moveAll_16 : decode cX6_moveAll 16 = .ok (.iconst 5, 1) := by decide +kernel
theorem dX6_moveAll_17 : decode cX6_moveAll 17 = .ok (.if_icmp .ge 21, 3) := by decide +kernel
theorem dX6_moveAll_20 : decode cX6_moveAll 20 = .ok (.aload_n 0, 1) := by decide +kernel
theorem dX6_moveAll_21 : decode cX6_moveAll 21 = .ok (.getfield 9, 3) := by decide +kernel
theorem dX6_moveAll_24 : decode cX6_moveAll 24 = .ok (.iload_n 2, 1) := by decide +kernel
theorem dX6_moveAll_25 : decode cX6_moveAll 25 = .ok (.aload_n 0, 1) := by decide +kernel
theorem dX6_moveAll_26 : decode cX6_moveAll 26 = .ok (.iload_n 1, 1) := by decide +kernel
theorem dX6_moveAll_27 : decode cX6_moveAll 27 = .ok (.iload_n 2, 1) := by decide +kernel
theorem dX6_moveAll_28 : decode cX6_moveAll 28 = .ok (.invokevirtual 55, 3) := by decide +kernel
theorem dX6_moveAll_31 : decode cX6_moveAll 31 = .ok (.iastore, 1) := by decide +kernel
theorem dX6_moveAll_32 : decode cX6_moveAll 32 = .ok (.iinc 2 1, 3) := by decide +kernel
theorem dX6_moveAll_35 : decode cX6_moveAll 35 = .ok (.goto (-20), 3) := by decide +kernel
theorem dX6_moveAll_38 : decode cX6_moveAll 38 = .ok (.iconst 0, 1) := by decide +kernel
theorem dX6_moveAll_39 : decode cX6_moveAll 39 = .ok (.istore_n 2, 1) := by decide +kernel
theorem dX6_moveAll_40 : decode cX6_moveAll 40 = .ok (.iload_n 2, 1) := by decide +kernel
theorem dX6_moveAll_41 : decode cX6_moveAll 41 = .ok (.iconst 5, 1) := by decide +kernel
theorem dX6_moveAll_42 : decode cX6_moveAll 42 = .ok (.if_icmp .ge 28, 3) := by decide +kernel
theorem dX6_moveAll_45 : decode cX6_moveAll 45 = .ok (.aload_n 0, 1) := by decide +kernel
theorem dX6_moveAll_46 : decode cX6_moveAll 46 = .ok (.iload_n 1, 1) := by decide +kernel
theorem dX6_moveAll_47 : decode cX6_moveAll 47 = .ok (.iload_n 2, 1) := by decide +kernel
theorem dX6_moveAll_48 : decode cX6_moveAll 48 = .ok (.invokevirtual 59, 3) := by decide +kernel
theorem dX6_moveAll_51 : decode cX6_moveAll 51 = .ok (.istore_n 3, 1) := by decide +kernel
theorem dX6_moveAll_52 : decode cX6_moveAll 52 = .ok (.iload_n 3, 1) := by decide +kernel
theorem dX6_moveAll_53 : decode cX6_moveAll 53 = .ok (.iconst (-1), 1) := by decide +kernel
theorem dX6_moveAll_54 : decode cX6_moveAll 54 = .ok (.if_icmp .eq 10, 3) := by decide +kernel
theorem dX6_moveAll_57 : decode cX6_moveAll 57 = .ok (.aload_n 0, 1) := by decide +kernel
theorem dX6_moveAll_58 : decode cX6_moveAll 58 = .ok (.iload_n 1, 1) := by decide +kernel
theorem dX6_moveAll_59 : decode cX6_moveAll 59 = .ok (.iload_n 3, 1) := by decide +kernel
theorem dX6_moveAll_60 : decode cX6_moveAll 60 = .ok (.iload_n 2, 1) := by decide +kernel
theorem dX6_moveAll_61 : decode cX6_moveAll 61 = .ok (.invokevirtual 62, 3) := by decide +kernel
theorem dX6_moveAll_64 : decode cX6_moveAll 64 = .ok (.iinc 2 1, 3) := by decide +kernel
theorem dX6_moveAll_67 : decode cX6_moveAll 67 = .ok (.goto (-27), 3) := by decide +kernel
theorem dX6_moveAll_70 : decode cX6_moveAll 70 = .ok (.iinc 1 1, 3) := by decide +kernel
theorem dX6_moveAll_73 : decode cX6_moveAll 73 = .ok (.goto (-71), 3) := by decide +kernel
theorem dX6_moveAll_76 : decode cX6_moveAll 76 = .ok (.return_, 1) := by decide +kernel
theorem dX6_readyChannel_0 : decode cX6_readyChannel 0 = .ok (.aload_n 0, 1) := by decide +kernel
theorem dX6_readyChannel_1 : decode cX6_readyChannel 1 = .ok (.getfield 49, 3) := by decide +kernel
theorem dX6_readyChannel_4 : decode cX6_readyChannel 4 = .ok (.iload_n 1, 1) := by decide +kernel
theorem dX6_readyChannel_5 : decode cX6_readyChannel 5 = .ok (.iconst 5, 1) := by decide +kernel
theorem dX6_readyChannel_6 : decode cX6_readyChannel 6 = .ok (.imul, 1) := by decide +kernel
theorem dX6_readyChannel_7 : decode cX6_readyChannel 7 = .ok (.iload_n 2, 1) := by decide +kernel
theorem dX6_readyChannel_8 : decode cX6_readyChannel 8 = .ok (.iadd, 1) := by decide +kernel
theorem dX6_readyChannel_9 : decode cX6_readyChannel 9 = .ok (.iaload, 1) := by decide +kernel
theorem dX6_readyChannel_10 : decode cX6_readyChannel 10 = .ok (.istore_n 3, 1) := by decide +kernel
theorem dX6_readyChannel_11 : decode cX6_readyChannel 11 = .ok (.iconst 0, 1) := by decide +kernel
theorem dX6_readyChannel_12 : decode cX6_readyChannel 12 = .ok (.istore 4, 2) := by decide +kernel
theorem dX6_readyChannel_14 : decode cX6_readyChannel 14 = .ok (.iload 4, 2) := by decide +kernel
theorem dX6_readyChannel_16 : decode cX6_readyChannel 16 = .ok (.aload_n 0, 1) := by decide +kernel
theorem dX6_readyChannel_17 : decode cX6_readyChannel 17 = .ok (.getfield 15, 3) := by decide +kernel
theorem dX6_readyChannel_20 : decode cX6_readyChannel 20 = .ok (.getfield 66, 3) := by decide +kernel
theorem dX6_readyChannel_23 : decode cX6_readyChannel 23 = .ok (.if_icmp .ge 37, 3) := by decide +kernel
theorem dX6_readyChannel_26 : decode cX6_readyChannel 26 = .ok (.iload_n 3, 1) := by decide +kernel
theorem dX6_readyChannel_27 : decode cX6_readyChannel 27 = .ok (.iload 4, 2) := by decide +kernel
theorem dX6_readyChannel_29 : decode cX6_readyChannel 29 = .ok (.iadd, 1) := by decide +kernel
theorem dX6_readyChannel_30 : decode cX6_readyChannel 30 = .ok (.aload_n 0, 1) := by decide +kernel
theorem dX6_readyChannel_31 : decode cX6_readyChannel 31 = .ok (.getfield 15, 3) := by decide +kernel
theorem dX6_readyChannel_34 : decode cX6_readyChannel 34 = .ok (.getfield 66, 3) := by decide +kernel
theorem dX6_readyChannel_37 : decode cX6_readyChannel 37 = .ok (.irem, 1) := by decide +kernel
theorem dX6_readyChannel_38 : decode cX6_readyChannel 38 = .ok (.istore 5, 2) := by decide +kernel
theorem dX6_readyChannel_40 : decode cX6_readyChannel 40 = .ok (.aload_n 0, 1) := by decide +kernel
theorem dX6_readyChannel_41 : decode cX6_readyChannel 41 = .ok (.iload_n 1, 1) := by decide +kernel
theorem dX6_readyChannel_42 : decode cX6_readyChannel 42 = .ok (.iload_n 2, 1) := by decide +kernel
theorem dX6_readyChannel_43 : decode cX6_readyChannel 43 = .ok (.iload 5, 2) := by decide +kernel
theorem dX6_readyChannel_45 : decode cX6_readyChannel 45 = .ok (.invokevirtual 69, 3) := by decide +kernel
theorem dX6_readyChannel_48 : decode cX6_readyChannel 48 = .ok (.ifCond .eq 6, 3) := by decide +kernel
theorem dX6_readyChannel_51 : decode cX6_readyChannel 51 = .ok (.iload 5, 2) := by decide +kernel
theorem dX6_readyChannel_53 : decode cX6_readyChannel 53 = .ok (.ireturn, 1) := by decide +kernel
theorem dX6_readyChannel_54 : decode cX6_readyChannel 54 = .ok (.iinc 4 1, 3) := by decide +kernel
theorem dX6_readyChannel_57 : decode cX6_readyChannel 57 = .ok (.goto (-43), 3) := by decide +kernel
theorem dX6_readyChannel_60 : decode cX6_readyChannel 60 = .ok (.iconst (-1), 1) := by decide +kernel
theorem dX6_readyChannel_61 : decode cX6_readyChannel 61 = .ok (.ireturn, 1) := by decide +kernel
theorem dX6_isReady_0 : decode cX6_isReady 0 = .ok (.aload_n 0, 1) := by decide +kernel
theorem dX6_isReady_1 : decode cX6_isReady 1 = .ok (.getfield 15, 3) := by decide +kernel
theorem dX6_isReady_4 : decode cX6_isReady 4 = .ok (.iload_n 1, 1) := by decide +kernel
theorem dX6_isReady_5 : decode cX6_isReady 5 = .ok (.iload_n 2, 1) := by decide +kernel
theorem dX6_isReady_6 : decode cX6_isReady 6 = .ok (.iload_n 3, 1) := by decide +kernel
theorem dX6_isReady_7 : decode cX6_isReady 7 = .ok (.invokevirtual 73, 3) := by decide +kernel
theorem dX6_isReady_10 : decode cX6_isReady 10 = .ok (.istore 4, 2) := by decide +kernel
theorem dX6_isReady_12 : decode cX6_isReady 12 = .ok (.aload_n 0, 1) := by decide +kernel
theorem dX6_isReady_13 : decode cX6_isReady 13 = .ok (.getfield 19, 3) := by decide +kernel
theorem dX6_isReady_16 : decode cX6_isReady 16 = .ok (.getfield 77, 3) := by decide +kernel
theorem dX6_isReady_19 : decode cX6_isReady 19 = .ok (.iload 4, 2) := by decide +kernel
theorem dX6_isReady_21 : decode cX6_isReady 21 = .ok (.iaload, 1) := by decide +kernel
theorem dX6_isReady_22 : decode cX6_isReady 22 = .ok (.ifCond .le 45, 3) := by decide +kernel
theorem dX6_isReady_25 : decode cX6_isReady 25 = .ok (.aload_n 0, 1) := by decide +kernel
theorem dX6_isReady_26 : decode cX6_isReady 26 = .ok (.getfield 33, 3) := by decide +kernel
theorem dX6_isReady_29 : decode cX6_isReady 29 = .ok (.iload 4, 2) := by decide +kernel
theorem dX6_isReady_31 : decode cX6_isReady 31 = .ok (.iaload, 1) := by decide +kernel
theorem dX6_isReady_32 : decode cX6_isReady 32 = .ok (.iconst 2, 1) := by decide +kernel
theorem dX6_isReady_33 : decode cX6_isReady 33 = .ok (.if_icmp .ne 34, 3) := by decide +kernel
theorem dX6_isReady_36 : decode cX6_isReady 36 = .ok (.aload_n 0, 1) := by decide +kernel
theorem dX6_isReady_37 : decode cX6_isReady 37 = .ok (.getfield 19, 3) := by decide +kernel
theorem dX6_isReady_40 : decode cX6_isReady 40 = .ok (.getfield 82, 3) := by decide +kernel
theorem dX6_isReady_43 : decode cX6_isReady 43 = .ok (.aload_n 0, 1) := by decide +kernel
theorem dX6_isReady_44 : decode cX6_isReady 44 = .ok (.getfield 15, 3) := by decide +kernel
theorem dX6_isReady_47 : decode cX6_isReady 47 = .ok (.iload_n 1, 1) := by decide +kernel
theorem dX6_isReady_48 : decode cX6_isReady 48 = .ok (.aload_n 0, 1) := by decide +kernel
theorem dX6_isReady_49 : decode cX6_isReady 49 = .ok (.getfield 36, 3) := by decide +kernel
theorem dX6_isReady_52 : decode cX6_isReady 52 = .ok (.iload 4, 2) := by decide +kernel
theorem dX6_isReady_54 : decode cX6_isReady 54 = .ok (.iaload, 1) := by decide +kernel
theorem dX6_isReady_55 : decode cX6_isReady 55 = .ok (.iload_n 3, 1) := by decide +kernel
theorem dX6_isReady_56 : decode cX6_isReady 56 = .ok (.invokevirtual 73, 3) := by decide +kernel
theorem dX6_isReady_59 : decode cX6_isReady 59 = .ok (.iaload, 1) := by decide +kernel
theorem dX6_isReady_60 : decode cX6_isReady 60 = .ok (.ifCond .le 7, 3) := by decide +kernel
theorem dX6_isReady_63 : decode cX6_isReady 63 = .ok (.iconst 1, 1) := by decide +kernel
theorem dX6_isReady_64 : decode cX6_isReady 64 = .ok (.goto 4, 3) := by decide +kernel
theorem dX6_isReady_67 : decode cX6_isReady 67 = .ok (.iconst 0, 1) := by decide +kernel
theorem dX6_isReady_68 : decode cX6_isReady 68 = .ok (.ireturn, 1) := by decide +kernel
theorem dX6_chosenPort_0 : decode cX6_chosenPort 0 = .ok (.aload_n 0, 1) := by decide +kernel
theorem dX6_chosenPort_1 : decode cX6_chosenPort 1 = .ok (.getfield 52, 3) := by decide +kernel
theorem dX6_chosenPort_4 : decode cX6_chosenPort 4 = .ok (.iload_n 1, 1) := by decide +kernel
theorem dX6_chosenPort_5 : decode cX6_chosenPort 5 = .ok (.iconst 5, 1) := by decide +kernel
theorem dX6_chosenPort_6 : decode cX6_chosenPort 6 = .ok (.imul, 1) := by decide +kernel
theorem dX6_chosenPort_7 : decode cX6_chosenPort 7 = .ok (.iload_n 2, 1) := by decide +kernel
theorem dX6_chosenPort_8 : decode cX6_chosenPort 8 = .ok (.iadd, 1) := by decide +kernel
theorem dX6_chosenPort_9 : decode cX6_chosenPort 9 = .ok (.iaload, 1) := by decide +kernel
theorem dX6_chosenPort_10 : decode cX6_chosenPort 10 = .ok (.istore_n 3, 1) := by decide +kernel
theorem dX6_chosenPort_11 : decode cX6_chosenPort 11 = .ok (.iconst 0, 1) := by decide +kernel
theorem dX6_chosenPort_12 : decode cX6_chosenPort 12 = .ok (.istore 4, 2) := by decide +kernel
theorem dX6_chosenPort_14 : decode cX6_chosenPort 14 = .ok (.iload 4, 2) := by decide +kernel
theorem dX6_chosenPort_16 : decode cX6_chosenPort 16 = .ok (.iconst 5, 1) := by decide +kernel
theorem dX6_chosenPort_17 : decode cX6_chosenPort 17 = .ok (.if_icmp .ge 57, 3) := by decide +kernel
theorem dX6_chosenPort_20 : decode cX6_chosenPort 20 = .ok (.iload_n 3, 1) := by decide +kernel
theorem dX6_chosenPort_21 : decode cX6_chosenPort 21 = .ok (.iload 4, 2) := by decide +kernel
theorem dX6_chosenPort_23 : decode cX6_chosenPort 23 = .ok (.iadd, 1) := by decide +kernel
theorem dX6_chosenPort_24 : decode cX6_chosenPort 24 = .ok (.iconst 5, 1) := by decide +kernel
theorem dX6_chosenPort_25 : decode cX6_chosenPort 25 = .ok (.irem, 1) := by decide +kernel
theorem dX6_chosenPort_26 : decode cX6_chosenPort 26 = .ok (.istore 5, 2) := by decide +kernel
theorem dX6_chosenPort_28 : decode cX6_chosenPort 28 = .ok (.aload_n 0, 1) := by decide +kernel
theorem dX6_chosenPort_29 : decode cX6_chosenPort 29 = .ok (.getfield 9, 3) := by decide +kernel
theorem dX6_chosenPort_32 : decode cX6_chosenPort 32 = .ok (.iload 5, 2) := by decide +kernel
theorem dX6_chosenPort_34 : decode cX6_chosenPort 34 = .ok (.iaload, 1) := by decide +kernel
theorem dX6_chosenPort_35 : decode cX6_chosenPort 35 = .ok (.iconst (-1), 1) := by decide +kernel
theorem dX6_chosenPort_36 : decode cX6_chosenPort 36 = .ok (.if_icmp .eq 32, 3) := by decide +kernel
theorem dX6_chosenPort_39 : decode cX6_chosenPort 39 = .ok (.aload_n 0, 1) := by decide +kernel
theorem dX6_chosenPort_40 : decode cX6_chosenPort 40 = .ok (.getfield 36, 3) := by decide +kernel
theorem dX6_chosenPort_43 : decode cX6_chosenPort 43 = .ok (.aload_n 0, 1) := by decide +kernel
theorem dX6_chosenPort_44 : decode cX6_chosenPort 44 = .ok (.getfield 15, 3) := by decide +kernel
theorem dX6_chosenPort_47 : decode cX6_chosenPort 47 = .ok (.iload_n 1, 1) := by decide +kernel
theorem dX6_chosenPort_48 : decode cX6_chosenPort 48 = .ok (.iload 5, 2) := by decide +kernel
theorem dX6_chosenPort_50 : decode cX6_chosenPort 50 = .ok (.aload_n 0, 1) := by decide +kernel
theorem dX6_chosenPort_51 : decode cX6_chosenPort 51 = .ok (.getfield 9, 3) := by decide +kernel
theorem dX6_chosenPort_54 : decode cX6_chosenPort 54 = .ok (.iload 5, 2) := by decide +kernel
theorem dX6_chosenPort_56 : decode cX6_chosenPort 56 = .ok (.iaload, 1) := by decide +kernel
theorem dX6_chosenPort_57 : decode cX6_chosenPort 57 = .ok (.invokevirtual 73, 3) := by decide +kernel
theorem dX6_chosenPort_60 : decode cX6_chosenPort 60 = .ok (.iaload, 1) := by decide +kernel
theorem dX6_chosenPort_61 : decode cX6_chosenPort 61 = .ok (.iload_n 2, 1) := by decide +kernel
theorem dX6_chosenPort_62 : decode cX6_chosenPort 62 = .ok (.if_icmp .ne 6, 3) := by decide +kernel
theorem dX6_chosenPort_65 : decode cX6_chosenPort 65 = .ok (.iload 5, 2) := by decide +kernel
theorem dX6_chosenPort_67 : decode cX6_chosenPort 67 = .ok (.ireturn, 1) := by decide +kernel
theorem dX6_chosenPort_68 : decode cX6_chosenPort 68 = .ok (.iinc 4 1, 3) := by decide +kernel
theorem dX6_chosenPort_71 : decode cX6_chosenPort 71 = .ok (.goto (-57), 3) := by decide +kernel
theorem dX6_chosenPort_74 : decode cX6_chosenPort 74 = .ok (.iconst (-1), 1) := by decide +kernel
theorem dX6_chosenPort_75 : decode cX6_chosenPort 75 = .ok (.ireturn, 1) := by decide +kernel
theorem dX6_move_0 : decode cX6_move 0 = .ok (.aload_n 0, 1) := by decide +kernel
theorem dX6_move_1 : decode cX6_move 1 = .ok (.getfield 9, 3) := by decide +kernel
theorem dX6_move_4 : decode cX6_move 4 = .ok (.iload_n 2, 1) := by decide +kernel
theorem dX6_move_5 : decode cX6_move 5 = .ok (.iaload, 1) := by decide +kernel
theorem dX6_move_6 : decode cX6_move 6 = .ok (.istore 4, 2) := by decide +kernel
theorem dX6_move_8 : decode cX6_move 8 = .ok (.aload_n 0, 1) := by decide +kernel
theorem dX6_move_9 : decode cX6_move 9 = .ok (.getfield 15, 3) := by decide +kernel
theorem dX6_move_12 : decode cX6_move 12 = .ok (.iload_n 1, 1) := by decide +kernel
theorem dX6_move_13 : decode cX6_move 13 = .ok (.iload_n 2, 1) := by decide +kernel
theorem dX6_move_14 : decode cX6_move 14 = .ok (.iload 4, 2) := by decide +kernel
theorem dX6_move_16 : decode cX6_move 16 = .ok (.invokevirtual 73, 3) := by decide +kernel
theorem dX6_move_19 : decode cX6_move 19 = .ok (.istore 5, 2) := by decide +kernel
theorem dX6_move_21 : decode cX6_move 21 = .ok (.aload_n 0, 1) := by decide +kernel
theorem dX6_move_22 : decode cX6_move 22 = .ok (.getfield 15, 3) := by decide +kernel
theorem dX6_move_25 : decode cX6_move 25 = .ok (.iload_n 1, 1) := by decide +kernel
theorem dX6_move_26 : decode cX6_move 26 = .ok (.iload_n 3, 1) := by decide +kernel
theorem dX6_move_27 : decode cX6_move 27 = .ok (.iload 4, 2) := by decide +kernel
theorem dX6_move_29 : decode cX6_move 29 = .ok (.invokevirtual 73, 3) := by decide +kernel
theorem dX6_move_32 : decode cX6_move 32 = .ok (.istore 6, 2) := by decide +kernel
theorem dX6_move_34 : decode cX6_move 34 = .ok (.aload_n 0, 1) := by decide +kernel
theorem dX6_move_35 : decode cX6_move 35 = .ok (.getfield 19, 3) := by decide +kernel
theorem dX6_move_38 : decode cX6_move 38 = .ok (.iload 5, 2) := by decide +kernel
theorem dX6_move_40 : decode cX6_move 40 = .ok (.invokevirtual 85, 3) := by decide +kernel
theorem dX6_move_43 : decode cX6_move 43 = .ok (.istore 7, 2) := by decide +kernel
theorem dX6_move_45 : decode cX6_move 45 = .ok (.aload_n 0, 1) := by decide +kernel
theorem dX6_move_46 : decode cX6_move 46 = .ok (.getfield 19, 3) := by decide +kernel
theorem dX6_move_49 : decode cX6_move 49 = .ok (.iload 6, 2) := by decide +kernel
theorem dX6_move_51 : decode cX6_move 51 = .ok (.iload 7, 2) := by decide +kernel
theorem dX6_move_53 : decode cX6_move 53 = .ok (.invokevirtual 89, 3) := by decide +kernel
theorem dX6_move_56 : decode cX6_move 56 = .ok (.aload_n 0, 1) := by decide +kernel
theorem dX6_move_57 : decode cX6_move 57 = .ok (.getfield 52, 3) := by decide +kernel
theorem dX6_move_60 : decode cX6_move 60 = .ok (.iload_n 1, 1) := by decide +kernel
theorem dX6_move_61 : decode cX6_move 61 = .ok (.iconst 5, 1) := by decide +kernel
theorem dX6_move_62 : decode cX6_move 62 = .ok (.imul, 1) := by decide +kernel
theorem dX6_move_63 : decode cX6_move 63 = .ok (.iload_n 3, 1) := by decide +kernel
theorem dX6_move_64 : decode cX6_move 64 = .ok (.iadd, 1) := by decide +kernel
theorem dX6_move_65 : decode cX6_move 65 = .ok (.iload_n 2, 1) := by decide +kernel
theorem dX6_move_66 : decode cX6_move 66 = .ok (.iconst 1, 1) := by decide +kernel
theorem dX6_move_67 : decode cX6_move 67 = .ok (.iadd, 1) := by decide +kernel
theorem dX6_move_68 : decode cX6_move 68 = .ok (.iconst 5, 1) := by decide +kernel
theorem dX6_move_69 : decode cX6_move 69 = .ok (.irem, 1) := by decide +kernel
theorem dX6_move_70 : decode cX6_move 70 = .ok (.iastore, 1) := by decide +kernel
theorem dX6_move_71 : decode cX6_move 71 = .ok (.aload_n 0, 1) := by decide +kernel
theorem dX6_move_72 : decode cX6_move 72 = .ok (.getfield 49, 3) := by decide +kernel
theorem dX6_move_75 : decode cX6_move 75 = .ok (.iload_n 1, 1) := by decide +kernel
theorem dX6_move_76 : decode cX6_move 76 = .ok (.iconst 5, 1) := by decide +kernel
theorem dX6_move_77 : decode cX6_move 77 = .ok (.imul, 1) := by decide +kernel
theorem dX6_move_78 : decode cX6_move 78 = .ok (.iload_n 2, 1) := by decide +kernel
theorem dX6_move_79 : decode cX6_move 79 = .ok (.iadd, 1) := by decide +kernel
theorem dX6_move_80 : decode cX6_move 80 = .ok (.iload 4, 2) := by decide +kernel
theorem dX6_move_82 : decode cX6_move 82 = .ok (.iconst 1, 1) := by decide +kernel
theorem dX6_move_83 : decode cX6_move 83 = .ok (.iadd, 1) := by decide +kernel
theorem dX6_move_84 : decode cX6_move 84 = .ok (.aload_n 0, 1) := by decide +kernel
theorem dX6_move_85 : decode cX6_move 85 = .ok (.getfield 15, 3) := by decide +kernel
theorem dX6_move_88 : decode cX6_move 88 = .ok (.getfield 66, 3) := by decide +kernel
theorem dX6_move_91 : decode cX6_move 91 = .ok (.irem, 1) := by decide +kernel
theorem dX6_move_92 : decode cX6_move 92 = .ok (.iastore, 1) := by decide +kernel
theorem dX6_move_93 : decode cX6_move 93 = .ok (.iload 7, 2) := by decide +kernel
theorem dX6_move_95 : decode cX6_move 95 = .ok (.invokestatic 93, 3) := by decide +kernel
theorem dX6_move_98 : decode cX6_move 98 = .ok (.ifCond .eq 19, 3) := by decide +kernel
theorem dX6_move_101 : decode cX6_move 101 = .ok (.aload_n 0, 1) := by decide +kernel
theorem dX6_move_102 : decode cX6_move 102 = .ok (.getfield 39, 3) := by decide +kernel
theorem dX6_move_105 : decode cX6_move 105 = .ok (.iload 6, 2) := by decide +kernel
theorem dX6_move_107 : decode cX6_move 107 = .ok (.iconst 0, 1) := by decide +kernel
theorem dX6_move_108 : decode cX6_move 108 = .ok (.bastore, 1) := by decide +kernel
theorem dX6_move_109 : decode cX6_move 109 = .ok (.aload_n 0, 1) := by decide +kernel
theorem dX6_move_110 : decode cX6_move 110 = .ok (.getfield 33, 3) := by decide +kernel
theorem dX6_move_113 : decode cX6_move 113 = .ok (.iload 5, 2) := by decide +kernel
theorem dX6_move_115 : decode cX6_move 115 = .ok (.iconst 0, 1) := by decide +kernel
theorem dX6_move_116 : decode cX6_move 116 = .ok (.iastore, 1) := by decide +kernel
theorem dX6_move_117 : decode cX6_move 117 = .ok (.return_, 1) := by decide +kernel
theorem dX6_grantAll_0 : decode cX6_grantAll 0 = .ok (.iconst 0, 1) := by decide +kernel
theorem dX6_grantAll_1 : decode cX6_grantAll 1 = .ok (.istore_n 1, 1) := by decide +kernel
theorem dX6_grantAll_2 : decode cX6_grantAll 2 = .ok (.iload_n 1, 1) := by decide +kernel
theorem dX6_grantAll_3 : decode cX6_grantAll 3 = .ok (.aload_n 0, 1) := by decide +kernel
theorem dX6_grantAll_4 : decode cX6_grantAll 4 = .ok (.getfield 15, 3) := by decide +kernel
theorem dX6_grantAll_7 : decode cX6_grantAll 7 = .ok (.getfield 46, 3) := by decide +kernel
theorem dX6_grantAll_10 : decode cX6_grantAll 10 = .ok (.if_icmp .ge 77, 3) := by decide +kernel
theorem dX6_grantAll_13 : decode cX6_grantAll 13 = .ok (.iconst 0, 1) := by decide +kernel
theorem dX6_grantAll_14 : decode cX6_grantAll 14 = .ok (.istore_n 2, 1) := by decide +kernel
theorem dX6_grantAll_15 : decode cX6_grantAll 15 = .ok (.iload_n 2, 1) := by decide +kernel
theorem dX6_grantAll_16 : decode cX6_grantAll 16 = .ok (.iconst 5, 1) := by decide +kernel
theorem dX6_grantAll_17 : decode cX6_grantAll 17 = .ok (.if_icmp .ge 64, 3) := by decide +kernel
theorem dX6_grantAll_20 : decode cX6_grantAll 20 = .ok (.iconst 0, 1) := by decide +kernel
theorem dX6_grantAll_21 : decode cX6_grantAll 21 = .ok (.istore_n 3, 1) := by decide +kernel
theorem dX6_grantAll_22 : decode cX6_grantAll 22 = .ok (.iload_n 3, 1) := by decide +kernel
theorem dX6_grantAll_23 : decode cX6_grantAll 23 = .ok (.aload_n 0, 1) := by decide +kernel
theorem dX6_grantAll_24 : decode cX6_grantAll 24 = .ok (.getfield 15, 3) := by decide +kernel
theorem dX6_grantAll_27 : decode cX6_grantAll 27 = .ok (.getfield 66, 3) := by decide +kernel
theorem dX6_grantAll_30 : decode cX6_grantAll 30 = .ok (.if_icmp .ge 45, 3) := by decide +kernel
theorem dX6_grantAll_33 : decode cX6_grantAll 33 = .ok (.aload_n 0, 1) := by decide +kernel
theorem dX6_grantAll_34 : decode cX6_grantAll 34 = .ok (.getfield 15, 3) := by decide +kernel
theorem dX6_grantAll_37 : decode cX6_grantAll 37 = .ok (.iload_n 1, 1) := by decide +kernel
theorem dX6_grantAll_38 : decode cX6_grantAll 38 = .ok (.iload_n 2, 1) := by decide +kernel
theorem dX6_grantAll_39 : decode cX6_grantAll 39 = .ok (.iload_n 3, 1) := by decide +kernel
theorem dX6_grantAll_40 : decode cX6_grantAll 40 = .ok (.invokevirtual 73, 3) := by decide +kernel
theorem dX6_grantAll_43 : decode cX6_grantAll 43 = .ok (.istore 4, 2) := by decide +kernel
theorem dX6_grantAll_45 : decode cX6_grantAll 45 = .ok (.aload_n 0, 1) := by decide +kernel
theorem dX6_grantAll_46 : decode cX6_grantAll 46 = .ok (.getfield 33, 3) := by decide +kernel
theorem dX6_grantAll_49 : decode cX6_grantAll 49 = .ok (.iload 4, 2) := by decide +kernel
theorem dX6_grantAll_51 : decode cX6_grantAll 51 = .ok (.iaload, 1) := by decide +kernel
theorem dX6_grantAll_52 : decode cX6_grantAll 52 = .ok (.iconst 1, 1) := by decide +kernel
theorem dX6_grantAll_53 : decode cX6_grantAll 53 = .ok (.if_icmp .ne 16, 3) := by decide +kernel
theorem dX6_grantAll_56 : decode cX6_grantAll 56 = .ok (.aload_n 0, 1) := by decide +kernel
theorem dX6_grantAll_57 : decode cX6_grantAll 57 = .ok (.iload_n 1, 1) := by decide +kernel
theorem dX6_grantAll_58 : decode cX6_grantAll 58 = .ok (.aload_n 0, 1) := by decide +kernel
theorem dX6_grantAll_59 : decode cX6_grantAll 59 = .ok (.getfield 36, 3) := by decide +kernel
theorem dX6_grantAll_62 : decode cX6_grantAll 62 = .ok (.iload 4, 2) := by decide +kernel
theorem dX6_grantAll_64 : decode cX6_grantAll 64 = .ok (.iaload, 1) := by decide +kernel
theorem dX6_grantAll_65 : decode cX6_grantAll 65 = .ok (.iload_n 3, 1) := by decide +kernel
theorem dX6_grantAll_66 : decode cX6_grantAll 66 = .ok (.invokevirtual 99, 3) := by decide +kernel
theorem dX6_grantAll_69 : decode cX6_grantAll 69 = .ok (.iinc 3 1, 3) := by decide +kernel
theorem dX6_grantAll_72 : decode cX6_grantAll 72 = .ok (.goto (-50), 3) := by decide +kernel
theorem dX6_grantAll_75 : decode cX6_grantAll 75 = .ok (.iinc 2 1, 3) := by decide +kernel
theorem dX6_grantAll_78 : decode cX6_grantAll 78 = .ok (.goto (-63), 3) := by decide +kernel
theorem dX6_grantAll_81 : decode cX6_grantAll 81 = .ok (.iinc 1 1, 3) := by decide +kernel
theorem dX6_grantAll_84 : decode cX6_grantAll 84 = .ok (.goto (-82), 3) := by decide +kernel
theorem dX6_grantAll_87 : decode cX6_grantAll 87 = .ok (.return_, 1) := by decide +kernel
theorem dX6_grantIfFree_0 : decode cX6_grantIfFree 0 = .ok (.aload_n 0, 1) := by decide +kernel
theorem dX6_grantIfFree_1 : decode cX6_grantIfFree 1 = .ok (.getfield 15, 3) := by decide +kernel
theorem dX6_grantIfFree_4 : decode cX6_grantIfFree 4 = .ok (.iload_n 1, 1) := by decide +kernel
theorem dX6_grantIfFree_5 : decode cX6_grantIfFree 5 = .ok (.iload_n 2, 1) := by decide +kernel
theorem dX6_grantIfFree_6 : decode cX6_grantIfFree 6 = .ok (.iload_n 3, 1) := by decide +kernel
theorem dX6_grantIfFree_7 : decode cX6_grantIfFree 7 = .ok (.invokevirtual 73, 3) := by decide +kernel
theorem dX6_grantIfFree_10 : decode cX6_grantIfFree 10 = .ok (.istore 4, 2) := by decide +kernel
theorem dX6_grantIfFree_12 : decode cX6_grantIfFree 12 = .ok (.aload_n 0, 1) := by decide +kernel
theorem dX6_grantIfFree_13 : decode cX6_grantIfFree 13 = .ok (.getfield 39, 3) := by decide +kernel
theorem dX6_grantIfFree_16 : decode cX6_grantIfFree 16 = .ok (.iload 4, 2) := by decide +kernel
theorem dX6_grantIfFree_18 : decode cX6_grantIfFree 18 = .ok (.baload, 1) := by decide +kernel
theorem dX6_grantIfFree_19 : decode cX6_grantIfFree 19 = .ok (.ifCond .eq 4, 3) := by decide +kernel
theorem dX6_grantIfFree_22 : decode cX6_grantIfFree 22 = .ok (.return_, 1) := by decide +kernel
theorem dX6_grantIfFree_23 : decode cX6_grantIfFree 23 = .ok (.aload_n 0, 1) := by decide +kernel
theorem dX6_grantIfFree_24 : decode cX6_grantIfFree 24 = .ok (.getfield 43, 3) := by decide +kernel
theorem dX6_grantIfFree_27 : decode cX6_grantIfFree 27 = .ok (.iload 4, 2) := by decide +kernel
theorem dX6_grantIfFree_29 : decode cX6_grantIfFree 29 = .ok (.iaload, 1) := by decide +kernel
theorem dX6_grantIfFree_30 : decode cX6_grantIfFree 30 = .ok (.istore 5, 2) := by decide +kernel
theorem dX6_grantIfFree_32 : decode cX6_grantIfFree 32 = .ok (.iconst 0, 1) := by decide +kernel
theorem dX6_grantIfFree_33 : decode cX6_grantIfFree 33 = .ok (.istore 6, 2) := by decide +kernel
theorem dX6_grantIfFree_35 : decode cX6_grantIfFree 35 = .ok (.iload 6, 2) := by decide +kernel
theorem dX6_grantIfFree_37 : decode cX6_grantIfFree 37 = .ok (.iconst 5, 1) := by decide +kernel
theorem dX6_grantIfFree_38 : decode cX6_grantIfFree 38 = .ok (.if_icmp .ge 83, 3) := by decide +kernel
theorem dX6_grantIfFree_41 : decode cX6_grantIfFree 41 = .ok (.iload 5, 2) := by decide +kernel
theorem dX6_grantIfFree_43 : decode cX6_grantIfFree 43 = .ok (.iload 6, 2) := by decide +kernel
theorem dX6_grantIfFree_45 : decode cX6_grantIfFree 45 = .ok (.iadd, 1) := by decide +kernel
theorem dX6_grantIfFree_46 : decode cX6_grantIfFree 46 = .ok (.iconst 5, 1) := by decide +kernel
theorem dX6_grantIfFree_47 : decode cX6_grantIfFree 47 = .ok (.irem, 1) := by decide +kernel
theorem dX6_grantIfFree_48 : decode cX6_grantIfFree 48 = .ok (.istore 7, 2) := by decide +kernel
theorem dX6_grantIfFree_50 : decode cX6_grantIfFree 50 = .ok (.aload_n 0, 1) := by decide +kernel
theorem dX6_grantIfFree_51 : decode cX6_grantIfFree 51 = .ok (.getfield 15, 3) := by decide +kernel
theorem dX6_grantIfFree_54 : decode cX6_grantIfFree 54 = .ok (.iload_n 1, 1) := by decide +kernel
theorem dX6_grantIfFree_55 : decode cX6_grantIfFree 55 = .ok (.iload 7, 2) := by decide +kernel
theorem dX6_grantIfFree_57 : decode cX6_grantIfFree 57 = .ok (.iload_n 3, 1) := by decide +kernel
theorem dX6_grantIfFree_58 : decode cX6_grantIfFree 58 = .ok (.invokevirtual 73, 3) := by decide +kernel
theorem dX6_grantIfFree_61 : decode cX6_grantIfFree 61 = .ok (.istore 8, 2) := by decide +kernel
theorem dX6_grantIfFree_63 : decode cX6_grantIfFree 63 = .ok (.aload_n 0, 1) := by decide +kernel
theorem dX6_grantIfFree_64 : decode cX6_grantIfFree 64 = .ok (.getfield 33, 3) := by decide +kernel
theorem dX6_grantIfFree_67 : decode cX6_grantIfFree 67 = .ok (.iload 8, 2) := by decide +kernel
theorem dX6_grantIfFree_69 : decode cX6_grantIfFree 69 = .ok (.iaload, 1) := by decide +kernel
theorem dX6_grantIfFree_70 : decode cX6_grantIfFree 70 = .ok (.iconst 1, 1) := by decide +kernel
theorem dX6_grantIfFree_71 : decode cX6_grantIfFree 71 = .ok (.if_icmp .ne 44, 3) := by decide +kernel
theorem dX6_grantIfFree_74 : decode cX6_grantIfFree 74 = .ok (.aload_n 0, 1) := by decide +kernel
theorem dX6_grantIfFree_75 : decode cX6_grantIfFree 75 = .ok (.getfield 36, 3) := by decide +kernel
theorem dX6_grantIfFree_78 : decode cX6_grantIfFree 78 = .ok (.iload 8, 2) := by decide +kernel
theorem dX6_grantIfFree_80 : decode cX6_grantIfFree 80 = .ok (.iaload, 1) := by decide +kernel
theorem dX6_grantIfFree_81 : decode cX6_grantIfFree 81 = .ok (.iload_n 2, 1) := by decide +kernel
theorem dX6_grantIfFree_82 : decode cX6_grantIfFree 82 = .ok (.if_icmp .ne 33, 3) := by decide +kernel
theorem dX6_grantIfFree_85 : decode cX6_grantIfFree 85 = .ok (.aload_n 0, 1) := by decide +kernel
theorem dX6_grantIfFree_86 : decode cX6_grantIfFree 86 = .ok (.getfield 39, 3) := by decide +kernel
theorem dX6_grantIfFree_89 : decode cX6_grantIfFree 89 = .ok (.iload 4, 2) := by decide +kernel
theorem dX6_grantIfFree_91 : decode cX6_grantIfFree 91 = .ok (.iconst 1, 1) := by decide +kernel
theorem dX6_grantIfFree_92 : decode cX6_grantIfFree 92 = .ok (.bastore, 1) := by decide +kernel
theorem dX6_grantIfFree_93 : decode cX6_grantIfFree 93 = .ok (.aload_n 0, 1) := by decide +kernel
theorem dX6_grantIfFree_94 : decode cX6_grantIfFree 94 = .ok (.getfield 33, 3) := by decide +kernel
theorem dX6_grantIfFree_97 : decode cX6_grantIfFree 97 = .ok (.iload 8, 2) := by decide +kernel
theorem dX6_grantIfFree_99 : decode cX6_grantIfFree 99 = .ok (.iconst 2, 1) := by decide +kernel
theorem dX6_grantIfFree_100 : decode cX6_grantIfFree 100 = .ok (.iastore, 1) := by decide +kernel
theorem dX6_grantIfFree_101 : decode cX6_grantIfFree 101 = .ok (.aload_n 0, 1) := by decide +kernel
theorem dX6_grantIfFree_102 : decode cX6_grantIfFree 102 = .ok (.getfield 43, 3) := by decide +kernel
theorem dX6_grantIfFree_105 : decode cX6_grantIfFree 105 = .ok (.iload 4, 2) := by decide +kernel
theorem dX6_grantIfFree_107 : decode cX6_grantIfFree 107 = .ok (.iload 7, 2) := by decide +kernel
theorem dX6_grantIfFree_109 : decode cX6_grantIfFree 109 = .ok (.iconst 1, 1) := by decide +kernel
theorem dX6_grantIfFree_110 : decode cX6_grantIfFree 110 = .ok (.iadd, 1) := by decide +kernel
theorem dX6_grantIfFree_111 : decode cX6_grantIfFree 111 = .ok (.iconst 5, 1) := by decide +kernel
theorem dX6_grantIfFree_112 : decode cX6_grantIfFree 112 = .ok (.irem, 1) := by decide +kernel
theorem dX6_grantIfFree_113 : decode cX6_grantIfFree 113 = .ok (.iastore, 1) := by decide +kernel
theorem dX6_grantIfFree_114 : decode cX6_grantIfFree 114 = .ok (.return_, 1) := by decide +kernel
theorem dX6_grantIfFree_115 : decode cX6_grantIfFree 115 = .ok (.iinc 6 1, 3) := by decide +kernel
theorem dX6_grantIfFree_118 : decode cX6_grantIfFree 118 = .ok (.goto (-83), 3) := by decide +kernel
theorem dX6_grantIfFree_121 : decode cX6_grantIfFree 121 = .ok (.return_, 1) := by decide +kernel
theorem dX6_routeAll_0 : decode cX6_routeAll 0 = .ok (.iconst 0, 1) := by decide +kernel
theorem dX6_routeAll_1 : decode cX6_routeAll 1 = .ok (.istore_n 1, 1) := by decide +kernel
theorem dX6_routeAll_2 : decode cX6_routeAll 2 = .ok (.iload_n 1, 1) := by decide +kernel
theorem dX6_routeAll_3 : decode cX6_routeAll 3 = .ok (.aload_n 0, 1) := by decide +kernel
theorem dX6_routeAll_4 : decode cX6_routeAll 4 = .ok (.getfield 15, 3) := by decide +kernel
theorem dX6_routeAll_7 : decode cX6_routeAll 7 = .ok (.getfield 46, 3) := by decide +kernel
theorem dX6_routeAll_10 : decode cX6_routeAll 10 = .ok (.if_icmp .ge 112, 3) := by decide +kernel
theorem dX6_routeAll_13 : decode cX6_routeAll 13 = .ok (.iconst 0, 1) := by decide +kernel
theorem dX6_routeAll_14 : decode cX6_routeAll 14 = .ok (.istore_n 2, 1) := by decide +kernel
theorem dX6_routeAll_15 : decode cX6_routeAll 15 = .ok (.iload_n 2, 1) := by decide +kernel
theorem dX6_routeAll_16 : decode cX6_routeAll 16 = .ok (.iconst 5, 1) := by decide +kernel
theorem dX6_routeAll_17 : decode cX6_routeAll 17 = .ok (.if_icmp .ge 99, 3) := by decide +kernel
theorem dX6_routeAll_20 : decode cX6_routeAll 20 = .ok (.iconst 0, 1) := by decide +kernel
theorem dX6_routeAll_21 : decode cX6_routeAll 21 = .ok (.istore_n 3, 1) := by decide +kernel
theorem dX6_routeAll_22 : decode cX6_routeAll 22 = .ok (.iload_n 3, 1) := by decide +kernel
theorem dX6_routeAll_23 : decode cX6_routeAll 23 = .ok (.aload_n 0, 1) := by decide +kernel
theorem dX6_routeAll_24 : decode cX6_routeAll 24 = .ok (.getfield 15, 3) := by decide +kernel
theorem dX6_routeAll_27 : decode cX6_routeAll 27 = .ok (.getfield 66, 3) := by decide +kernel
theorem dX6_routeAll_30 : decode cX6_routeAll 30 = .ok (.if_icmp .ge 80, 3) := by decide +kernel
theorem dX6_routeAll_33 : decode cX6_routeAll 33 = .ok (.aload_n 0, 1) := by decide +kernel
theorem dX6_routeAll_34 : decode cX6_routeAll 34 = .ok (.getfield 15, 3) := by decide +kernel
theorem dX6_routeAll_37 : decode cX6_routeAll 37 = .ok (.iload_n 1, 1) := by decide +kernel
theorem dX6_routeAll_38 : decode cX6_routeAll 38 = .ok (.iload_n 2, 1) := by decide +kernel
theorem dX6_routeAll_39 : decode cX6_routeAll 39 = .ok (.iload_n 3, 1) := by decide +kernel
theorem dX6_routeAll_40 : decode cX6_routeAll 40 = .ok (.invokevirtual 73, 3) := by decide +kernel
theorem dX6_routeAll_43 : decode cX6_routeAll 43 = .ok (.istore 4, 2) := by decide +kernel
theorem dX6_routeAll_45 : decode cX6_routeAll 45 = .ok (.aload_n 0, 1) := by decide +kernel
theorem dX6_routeAll_46 : decode cX6_routeAll 46 = .ok (.getfield 33, 3) := by decide +kernel
theorem dX6_routeAll_49 : decode cX6_routeAll 49 = .ok (.iload 4, 2) := by decide +kernel
theorem dX6_routeAll_51 : decode cX6_routeAll 51 = .ok (.iaload, 1) := by decide +kernel
theorem dX6_routeAll_52 : decode cX6_routeAll 52 = .ok (.ifCond .ne 52, 3) := by decide +kernel
theorem dX6_routeAll_55 : decode cX6_routeAll 55 = .ok (.aload_n 0, 1) := by decide +kernel
theorem dX6_routeAll_56 : decode cX6_routeAll 56 = .ok (.getfield 19, 3) := by decide +kernel
theorem dX6_routeAll_59 : decode cX6_routeAll 59 = .ok (.getfield 77, 3) := by decide +kernel
theorem dX6_routeAll_62 : decode cX6_routeAll 62 = .ok (.iload 4, 2) := by decide +kernel
theorem dX6_routeAll_64 : decode cX6_routeAll 64 = .ok (.iaload, 1) := by decide +kernel
theorem dX6_routeAll_65 : decode cX6_routeAll 65 = .ok (.ifCond .le 39, 3) := by decide +kernel
theorem dX6_routeAll_68 : decode cX6_routeAll 68 = .ok (.aload_n 0, 1) := by decide +kernel
theorem dX6_routeAll_69 : decode cX6_routeAll 69 = .ok (.getfield 36, 3) := by decide +kernel
theorem dX6_routeAll_72 : decode cX6_routeAll 72 = .ok (.iload 4, 2) := by decide +kernel
theorem dX6_routeAll_74 : decode cX6_routeAll 74 = .ok (.aload_n 0, 1) := by decide +kernel
theorem dX6_routeAll_75 : decode cX6_routeAll 75 = .ok (.iload_n 1, 1) := by decide +kernel
theorem dX6_routeAll_76 : decode cX6_routeAll 76 = .ok (.aload_n 0, 1) := by decide +kernel
theorem dX6_routeAll_77 : decode cX6_routeAll 77 = .ok (.getfield 23, 3) := by decide +kernel
theorem dX6_routeAll_80 : decode cX6_routeAll 80 = .ok (.aload_n 0, 1) := by decide +kernel
theorem dX6_routeAll_81 : decode cX6_routeAll 81 = .ok (.getfield 19, 3) := by decide +kernel
theorem dX6_routeAll_84 : decode cX6_routeAll 84 = .ok (.iload 4, 2) := by decide +kernel
theorem dX6_routeAll_86 : decode cX6_routeAll 86 = .ok (.invokevirtual 102, 3) := by decide +kernel
theorem dX6_routeAll_89 : decode cX6_routeAll 89 = .ok (.invokevirtual 105, 3) := by decide +kernel
theorem dX6_routeAll_92 : decode cX6_routeAll 92 = .ok (.invokevirtual 108, 3) := by decide +kernel
theorem dX6_routeAll_95 : decode cX6_routeAll 95 = .ok (.iastore, 1) := by decide +kernel
theorem dX6_routeAll_96 : decode cX6_routeAll 96 = .ok (.aload_n 0, 1) := by decide +kernel
theorem dX6_routeAll_97 : decode cX6_routeAll 97 = .ok (.getfield 33, 3) := by decide +kernel
theorem dX6_routeAll_100 : decode cX6_routeAll 100 = .ok (.iload 4, 2) := by decide +kernel
theorem dX6_routeAll_102 : decode cX6_routeAll 102 = .ok (.iconst 1, 1) := by decide +kernel
theorem dX6_routeAll_103 : decode cX6_routeAll 103 = .ok (.iastore, 1) := by decide +kernel
theorem dX6_routeAll_104 : decode cX6_routeAll 104 = .ok (.iinc 3 1, 3) := by decide +kernel
theorem dX6_routeAll_107 : decode cX6_routeAll 107 = .ok (.goto (-85), 3) := by decide +kernel
theorem dX6_routeAll_110 : decode cX6_routeAll 110 = .ok (.iinc 2 1, 3) := by decide +kernel
theorem dX6_routeAll_113 : decode cX6_routeAll 113 = .ok (.goto (-98), 3) := by decide +kernel
theorem dX6_routeAll_116 : decode cX6_routeAll 116 = .ok (.iinc 1 1, 3) := by decide +kernel
theorem dX6_routeAll_119 : decode cX6_routeAll 119 = .ok (.goto (-117), 3) := by decide +kernel
theorem dX6_routeAll_122 : decode cX6_routeAll 122 = .ok (.return_, 1) := by decide +kernel
theorem dX6_wayTo_0 : decode cX6_wayTo 0 = .ok (.aload_n 0, 1) := by decide +kernel
theorem dX6_wayTo_1 : decode cX6_wayTo 1 = .ok (.getfield 15, 3) := by decide +kernel
theorem dX6_wayTo_4 : decode cX6_wayTo 4 = .ok (.iload_n 2, 1) := by decide +kernel
theorem dX6_wayTo_5 : decode cX6_wayTo 5 = .ok (.invokevirtual 111, 3) := by decide +kernel
theorem dX6_wayTo_8 : decode cX6_wayTo 8 = .ok (.aload_n 0, 1) := by decide +kernel
theorem dX6_wayTo_9 : decode cX6_wayTo 9 = .ok (.getfield 15, 3) := by decide +kernel
theorem dX6_wayTo_12 : decode cX6_wayTo 12 = .ok (.iload_n 1, 1) := by decide +kernel
theorem dX6_wayTo_13 : decode cX6_wayTo 13 = .ok (.invokevirtual 111, 3) := by decide +kernel
theorem dX6_wayTo_16 : decode cX6_wayTo 16 = .ok (.isub, 1) := by decide +kernel
theorem dX6_wayTo_17 : decode cX6_wayTo 17 = .ok (.istore_n 3, 1) := by decide +kernel
theorem dX6_wayTo_18 : decode cX6_wayTo 18 = .ok (.iload_n 3, 1) := by decide +kernel
theorem dX6_wayTo_19 : decode cX6_wayTo 19 = .ok (.ifCond .eq 13, 3) := by decide +kernel
theorem dX6_wayTo_22 : decode cX6_wayTo 22 = .ok (.iload_n 3, 1) := by decide +kernel
theorem dX6_wayTo_23 : decode cX6_wayTo 23 = .ok (.ifCond .le 7, 3) := by decide +kernel
theorem dX6_wayTo_26 : decode cX6_wayTo 26 = .ok (.iconst 1, 1) := by decide +kernel
theorem dX6_wayTo_27 : decode cX6_wayTo 27 = .ok (.goto 4, 3) := by decide +kernel
theorem dX6_wayTo_30 : decode cX6_wayTo 30 = .ok (.iconst 2, 1) := by decide +kernel
theorem dX6_wayTo_31 : decode cX6_wayTo 31 = .ok (.ireturn, 1) := by decide +kernel
theorem dX6_wayTo_32 : decode cX6_wayTo 32 = .ok (.aload_n 0, 1) := by decide +kernel
theorem dX6_wayTo_33 : decode cX6_wayTo 33 = .ok (.getfield 15, 3) := by decide +kernel
theorem dX6_wayTo_36 : decode cX6_wayTo 36 = .ok (.iload_n 2, 1) := by decide +kernel
theorem dX6_wayTo_37 : decode cX6_wayTo 37 = .ok (.invokevirtual 114, 3) := by decide +kernel
theorem dX6_wayTo_40 : decode cX6_wayTo 40 = .ok (.aload_n 0, 1) := by decide +kernel
theorem dX6_wayTo_41 : decode cX6_wayTo 41 = .ok (.getfield 15, 3) := by decide +kernel
theorem dX6_wayTo_44 : decode cX6_wayTo 44 = .ok (.iload_n 1, 1) := by decide +kernel
theorem dX6_wayTo_45 : decode cX6_wayTo 45 = .ok (.invokevirtual 114, 3) := by decide +kernel
theorem dX6_wayTo_48 : decode cX6_wayTo 48 = .ok (.isub, 1) := by decide +kernel
theorem dX6_wayTo_49 : decode cX6_wayTo 49 = .ok (.istore 4, 2) := by decide +kernel
theorem dX6_wayTo_51 : decode cX6_wayTo 51 = .ok (.iload 4, 2) := by decide +kernel
theorem dX6_wayTo_53 : decode cX6_wayTo 53 = .ok (.ifCond .eq 14, 3) := by decide +kernel
theorem dX6_wayTo_56 : decode cX6_wayTo 56 = .ok (.iload 4, 2) := by decide +kernel
theorem dX6_wayTo_58 : decode cX6_wayTo 58 = .ok (.ifCond .le 7, 3) := by decide +kernel
theorem dX6_wayTo_61 : decode cX6_wayTo 61 = .ok (.iconst 3, 1) := by decide +kernel
theorem dX6_wayTo_62 : decode cX6_wayTo 62 = .ok (.goto 4, 3) := by decide +kernel
theorem dX6_wayTo_65 : decode cX6_wayTo 65 = .ok (.iconst 4, 1) := by decide +kernel
theorem dX6_wayTo_66 : decode cX6_wayTo 66 = .ok (.ireturn, 1) := by decide +kernel
theorem dX6_wayTo_67 : decode cX6_wayTo 67 = .ok (.iconst 0, 1) := by decide +kernel
theorem dX6_wayTo_68 : decode cX6_wayTo 68 = .ok (.ireturn, 1) := by decide +kernel
theorem dX7_init_0 : decode cX7_init 0 = .ok (.aload_n 0, 1) := by decide +kernel
theorem dX7_init_1 : decode cX7_init 1 = .ok (.invokespecial 1, 3) := by decide +kernel
theorem dX7_init_4 : decode cX7_init 4 = .ok (.aload_n 0, 1) := by decide +kernel
theorem dX7_init_5 : decode cX7_init 5 = .ok (.new 7, 3) := by decide +kernel
theorem dX7_init_8 : decode cX7_init 8 = .ok (.dup, 1) := by decide +kernel
theorem dX7_init_9 : decode cX7_init 9 = .ok (.iload_n 1, 1) := by decide +kernel
theorem dX7_init_10 : decode cX7_init 10 = .ok (.iload_n 2, 1) := by decide +kernel
theorem dX7_init_11 : decode cX7_init 11 = .ok (.iload_n 3, 1) := by decide +kernel
theorem dX7_init_12 : decode cX7_init 12 = .ok (.iload 4, 2) := by decide +kernel
theorem dX7_init_14 : decode cX7_init 14 = .ok (.invokespecial 9, 3) := by decide +kernel
theorem dX7_init_17 : decode cX7_init 17 = .ok (.putfield 12, 3) := by decide +kernel
theorem dX7_init_20 : decode cX7_init 20 = .ok (.aload_n 0, 1) := by decide +kernel
theorem dX7_init_21 : decode cX7_init 21 = .ok (.new 18, 3) := by decide +kernel
theorem dX7_init_24 : decode cX7_init 24 = .ok (.dup, 1) := by decide +kernel
theorem dX7_init_25 : decode cX7_init 25 = .ok (.aload_n 0, 1) := by decide +kernel
theorem dX7_init_26 : decode cX7_init 26 = .ok (.getfield 12, 3) := by decide +kernel
theorem dX7_init_29 : decode cX7_init 29 = .ok (.invokespecial 20, 3) := by decide +kernel
theorem dX7_init_32 : decode cX7_init 32 = .ok (.putfield 23, 3) := by decide +kernel
theorem dX7_init_35 : decode cX7_init 35 = .ok (.aload_n 0, 1) := by decide +kernel
theorem dX7_init_36 : decode cX7_init 36 = .ok (.new 27, 3) := by decide +kernel
theorem dX7_init_39 : decode cX7_init 39 = .ok (.dup, 1) := by decide +kernel
theorem dX7_init_40 : decode cX7_init 40 = .ok (.aload_n 0, 1) := by decide +kernel
theorem dX7_init_41 : decode cX7_init 41 = .ok (.getfield 12, 3) := by decide +kernel
theorem dX7_init_44 : decode cX7_init 44 = .ok (.invokespecial 29, 3) := by decide +kernel
theorem dX7_init_47 : decode cX7_init 47 = .ok (.putfield 30, 3) := by decide +kernel
theorem dX7_init_50 : decode cX7_init 50 = .ok (.aload_n 0, 1) := by decide +kernel
theorem dX7_init_51 : decode cX7_init 51 = .ok (.new 34, 3) := by decide +kernel
theorem dX7_init_54 : decode cX7_init 54 = .ok (.dup, 1) := by decide +kernel
theorem dX7_init_55 : decode cX7_init 55 = .ok (.aload_n 0, 1) := by decide +kernel
theorem dX7_init_56 : decode cX7_init 56 = .ok (.getfield 12, 3) := by decide +kernel
theorem dX7_init_59 : decode cX7_init 59 = .ok (.aload_n 0, 1) := by decide +kernel
theorem dX7_init_60 : decode cX7_init 60 = .ok (.getfield 23, 3) := by decide +kernel
theorem dX7_init_63 : decode cX7_init 63 = .ok (.aload_n 0, 1) := by decide +kernel
theorem dX7_init_64 : decode cX7_init 64 = .ok (.getfield 30, 3) := by decide +kernel
theorem dX7_init_67 : decode cX7_init 67 = .ok (.invokespecial 36, 3) := by decide +kernel
theorem dX7_init_70 : decode cX7_init 70 = .ok (.putfield 39, 3) := by decide +kernel
theorem dX7_init_73 : decode cX7_init 73 = .ok (.aload_n 0, 1) := by decide +kernel
theorem dX7_init_74 : decode cX7_init 74 = .ok (.new 43, 3) := by decide +kernel
theorem dX7_init_77 : decode cX7_init 77 = .ok (.dup, 1) := by decide +kernel
theorem dX7_init_78 : decode cX7_init 78 = .ok (.aload_n 0, 1) := by decide +kernel
theorem dX7_init_79 : decode cX7_init 79 = .ok (.getfield 12, 3) := by decide +kernel
theorem dX7_init_82 : decode cX7_init 82 = .ok (.aload_n 0, 1) := by decide +kernel
theorem dX7_init_83 : decode cX7_init 83 = .ok (.getfield 23, 3) := by decide +kernel
theorem dX7_init_86 : decode cX7_init 86 = .ok (.aload_n 0, 1) := by decide +kernel
theorem dX7_init_87 : decode cX7_init 87 = .ok (.getfield 30, 3) := by decide +kernel
theorem dX7_init_90 : decode cX7_init 90 = .ok (.invokespecial 45, 3) := by decide +kernel
theorem dX7_init_93 : decode cX7_init 93 = .ok (.putfield 46, 3) := by decide +kernel
theorem dX7_init_96 : decode cX7_init 96 = .ok (.return_, 1) := by decide +kernel
theorem dX7_nodes_0 : decode cX7_nodes 0 = .ok (.aload_n 0, 1) := by decide +kernel
theorem dX7_nodes_1 : decode cX7_nodes 1 = .ok (.getfield 12, 3) := by decide +kernel
theorem dX7_nodes_4 : decode cX7_nodes 4 = .ok (.getfield 50, 3) := by decide +kernel
theorem dX7_nodes_7 : decode cX7_nodes 7 = .ok (.ireturn, 1) := by decide +kernel
theorem dX7_request_0 : decode cX7_request 0 = .ok (.aload_n 0, 1) := by decide +kernel
theorem dX7_request_1 : decode cX7_request 1 = .ok (.getfield 12, 3) := by decide +kernel
theorem dX7_request_4 : decode cX7_request 4 = .ok (.iload_n 1, 1) := by decide +kernel
theorem dX7_request_5 : decode cX7_request 5 = .ok (.invokevirtual 54, 3) := by decide +kernel
theorem dX7_request_8 : decode cX7_request 8 = .ok (.ifCond .eq 22, 3) := by decide +kernel
theorem dX7_request_11 : decode cX7_request 11 = .ok (.aload_n 0, 1) := by decide +kernel
theorem dX7_request_12 : decode cX7_request 12 = .ok (.getfield 12, 3) := by decide +kernel
theorem dX7_request_15 : decode cX7_request 15 = .ok (.iload_n 2, 1) := by decide +kernel
theorem dX7_request_16 : decode cX7_request 16 = .ok (.invokevirtual 54, 3) := by decide +kernel
theorem dX7_request_19 : decode cX7_request 19 = .ok (.ifCond .eq 11, 3) := by decide +kernel
theorem dX7_request_22 : decode cX7_request 22 = .ok (.iload 4, 2) := by decide +kernel
theorem dX7_request_24 : decode cX7_request 24 = .ok (.invokestatic 58, 3) := by decide +kernel
theorem dX7_request_27 : decode cX7_request 27 = .ok (.ifCond .ne 5, 3) := by decide +kernel
theorem dX7_request_30 : decode cX7_request 30 = .ok (.iconst (-1), 1) := by decide +kernel
theorem dX7_request_31 : decode cX7_request 31 = .ok (.ireturn, 1) := by decide +kernel
theorem dX7_request_32 : decode cX7_request 32 = .ok (.aload_n 0, 1) := by decide +kernel
theorem dX7_request_33 : decode cX7_request 33 = .ok (.getfield 39, 3) := by decide +kernel
theorem dX7_request_36 : decode cX7_request 36 = .ok (.getfield 61, 3) := by decide +kernel
theorem dX7_request_39 : decode cX7_request 39 = .ok (.iload_n 1, 1) := by decide +kernel
theorem dX7_request_40 : decode cX7_request 40 = .ok (.invokevirtual 65, 3) := by decide +kernel
theorem dX7_request_43 : decode cX7_request 43 = .ok (.ifCond .ne 13, 3) := by decide +kernel
theorem dX7_request_46 : decode cX7_request 46 = .ok (.aload_n 0, 1) := by decide +kernel
theorem dX7_request_47 : decode cX7_request 47 = .ok (.getfield 30, 3) := by decide +kernel
theorem dX7_request_50 : decode cX7_request 50 = .ok (.invokevirtual 70, 3) := by decide +kernel
theorem dX7_request_53 : decode cX7_request 53 = .ok (.ifCond .eq 6, 3) := by decide +kernel
theorem dX7_request_56 : decode cX7_request 56 = .ok (.bipush (-2), 2) := by decide +kernel
theorem dX7_request_58 : decode cX7_request 58 = .ok (.ireturn, 1) := by decide +kernel
theorem dX7_request_59 : decode cX7_request 59 = .ok (.aload_n 0, 1) := by decide +kernel
theorem dX7_request_60 : decode cX7_request 60 = .ok (.getfield 30, 3) := by decide +kernel
theorem dX7_request_63 : decode cX7_request 63 = .ok (.iload_n 1, 1) := by decide +kernel
theorem dX7_request_64 : decode cX7_request 64 = .ok (.iload_n 2, 1) := by decide +kernel
theorem dX7_request_65 : decode cX7_request 65 = .ok (.iload_n 3, 1) := by decide +kernel
theorem dX7_request_66 : decode cX7_request 66 = .ok (.iload 4, 2) := by decide +kernel
theorem dX7_request_68 : decode cX7_request 68 = .ok (.iload 5, 2) := by decide +kernel
theorem dX7_request_70 : decode cX7_request 70 = .ok (.invokevirtual 73, 3) := by decide +kernel
theorem dX7_request_73 : decode cX7_request 73 = .ok (.istore 6, 2) := by decide +kernel
theorem dX7_request_75 : decode cX7_request 75 = .ok (.aload_n 0, 1) := by decide +kernel
theorem dX7_request_76 : decode cX7_request 76 = .ok (.getfield 39, 3) := by decide +kernel
theorem dX7_request_79 : decode cX7_request 79 = .ok (.getfield 61, 3) := by decide +kernel
theorem dX7_request_82 : decode cX7_request 82 = .ok (.iload_n 1, 1) := by decide +kernel
theorem dX7_request_83 : decode cX7_request 83 = .ok (.iload 6, 2) := by decide +kernel
theorem dX7_request_85 : decode cX7_request 85 = .ok (.invokevirtual 77, 3) := by decide +kernel
theorem dX7_request_88 : decode cX7_request 88 = .ok (.iload 6, 2) := by decide +kernel
theorem dX7_request_90 : decode cX7_request 90 = .ok (.ireturn, 1) := by decide +kernel
theorem dX7_hold_0 : decode cX7_hold 0 = .ok (.aload_n 0, 1) := by decide +kernel
theorem dX7_hold_1 : decode cX7_hold 1 = .ok (.getfield 12, 3) := by decide +kernel
theorem dX7_hold_4 : decode cX7_hold 4 = .ok (.iload_n 1, 1) := by decide +kernel
theorem dX7_hold_5 : decode cX7_hold 5 = .ok (.invokevirtual 54, 3) := by decide +kernel
theorem dX7_hold_8 : decode cX7_hold 8 = .ok (.ifCond .ne 5, 3) := by decide +kernel
theorem dX7_hold_11 : decode cX7_hold 11 = .ok (.iconst 0, 1) := by decide +kernel
theorem dX7_hold_12 : decode cX7_hold 12 = .ok (.ireturn, 1) := by decide +kernel
theorem dX7_hold_13 : decode cX7_hold 13 = .ok (.aload_n 0, 1) := by decide +kernel
theorem dX7_hold_14 : decode cX7_hold 14 = .ok (.getfield 39, 3) := by decide +kernel
theorem dX7_hold_17 : decode cX7_hold 17 = .ok (.getfield 80, 3) := by decide +kernel
theorem dX7_hold_20 : decode cX7_hold 20 = .ok (.iload_n 1, 1) := by decide +kernel
theorem dX7_hold_21 : decode cX7_hold 21 = .ok (.iload_n 2, 1) := by decide +kernel
theorem dX7_hold_22 : decode cX7_hold 22 = .ok (.bastore, 1) := by decide +kernel
theorem dX7_hold_23 : decode cX7_hold 23 = .ok (.iconst 1, 1) := by decide +kernel
theorem dX7_hold_24 : decode cX7_hold 24 = .ok (.ireturn, 1) := by decide +kernel
theorem dX7_run_0 : decode cX7_run 0 = .ok (.iload_n 1, 1) := by decide +kernel
theorem dX7_run_1 : decode cX7_run 1 = .ok (.ifCond .lt 9, 3) := by decide +kernel
theorem dX7_run_4 : decode cX7_run 4 = .ok (.iload_n 1, 1) := by decide +kernel
theorem dX7_run_5 : decode cX7_run 5 = .ok (.bipush 60, 2) := by decide +kernel
theorem dX7_run_7 : decode cX7_run 7 = .ok (.if_icmp .le 5, 3) := by decide +kernel
theorem dX7_run_10 : decode cX7_run 10 = .ok (.iconst (-1), 1) := by decide +kernel
theorem dX7_run_11 : decode cX7_run 11 = .ok (.ireturn, 1) := by decide +kernel
theorem dX7_run_12 : decode cX7_run 12 = .ok (.aload_n 0, 1) := by decide +kernel
theorem dX7_run_13 : decode cX7_run 13 = .ok (.getfield 39, 3) := by decide +kernel
theorem dX7_run_16 : decode cX7_run 16 = .ok (.getfield 84, 3) := by decide +kernel
theorem dX7_run_19 : decode cX7_run 19 = .ok (.getfield 88, 3) := by decide +kernel
theorem dX7_run_22 : decode cX7_run 22 = .ok (.istore_n 2, 1) := by decide +kernel
theorem dX7_run_23 : decode cX7_run 23 = .ok (.iconst 0, 1) := by decide +kernel
theorem dX7_run_24 : decode cX7_run 24 = .ok (.istore_n 3, 1) := by decide +kernel
theorem dX7_run_25 : decode cX7_run 25 = .ok (.iload_n 3, 1) := by decide +kernel
theorem dX7_run_26 : decode cX7_run 26 = .ok (.iload_n 1, 1) := by decide +kernel
theorem dX7_run_27 : decode cX7_run 27 = .ok (.if_icmp .ge 13, 3) := by decide +kernel
theorem dX7_run_30 : decode cX7_run 30 = .ok (.aload_n 0, 1) := by decide +kernel
theorem dX7_run_31 : decode cX7_run 31 = .ok (.invokevirtual 93, 3) := by decide +kernel
theorem dX7_run_34 : decode cX7_run 34 = .ok (.iinc 3 1, 3) := by decide +kernel
theorem dX7_run_37 : decode cX7_run 37 = .ok (.goto (-12), 3) := by decide +kernel
theorem dX7_run_40 : decode cX7_run 40 = .ok (.aload_n 0, 1) := by decide +kernel
theorem dX7_run_41 : decode cX7_run 41 = .ok (.getfield 39, 3) := by decide +kernel
theorem dX7_run_44 : decode cX7_run 44 = .ok (.getfield 84, 3) := by decide +kernel
theorem dX7_run_47 : decode cX7_run 47 = .ok (.getfield 88, 3) := by decide +kernel
theorem dX7_run_50 : decode cX7_run 50 = .ok (.iload_n 2, 1) := by decide +kernel
theorem dX7_run_51 : decode cX7_run 51 = .ok (.isub, 1) := by decide +kernel
theorem dX7_run_52 : decode cX7_run 52 = .ok (.ireturn, 1) := by decide +kernel
theorem dX7_ticks_0 : decode cX7_ticks 0 = .ok (.aload_n 0, 1) := by decide +kernel
theorem dX7_ticks_1 : decode cX7_ticks 1 = .ok (.getfield 96, 3) := by decide +kernel
theorem dX7_ticks_4 : decode cX7_ticks 4 = .ok (.ireturn, 1) := by decide +kernel
theorem dX7_replies_0 : decode cX7_replies 0 = .ok (.aload_n 0, 1) := by decide +kernel
theorem dX7_replies_1 : decode cX7_replies 1 = .ok (.getfield 39, 3) := by decide +kernel
theorem dX7_replies_4 : decode cX7_replies 4 = .ok (.getfield 84, 3) := by decide +kernel
theorem dX7_replies_7 : decode cX7_replies 7 = .ok (.getfield 88, 3) := by decide +kernel
theorem dX7_replies_10 : decode cX7_replies 10 = .ok (.ireturn, 1) := by decide +kernel
theorem dX7_reply_0 : decode cX7_reply 0 = .ok (.aload_n 0, 1) := by decide +kernel
theorem dX7_reply_1 : decode cX7_reply 1 = .ok (.getfield 39, 3) := by decide +kernel
theorem dX7_reply_4 : decode cX7_reply 4 = .ok (.getfield 84, 3) := by decide +kernel
theorem dX7_reply_7 : decode cX7_reply 7 = .ok (.astore_n 3, 1) := by decide +kernel
theorem dX7_reply_8 : decode cX7_reply 8 = .ok (.iload_n 1, 1) := by decide +kernel
theorem dX7_reply_9 : decode cX7_reply 9 = .ok (.ifCond .lt 11, 3) := by decide +kernel
theorem dX7_reply_12 : decode cX7_reply 12 = .ok (.iload_n 1, 1) := by decide +kernel
theorem dX7_reply_13 : decode cX7_reply 13 = .ok (.aload_n 3, 1) := by decide +kernel
theorem dX7_reply_14 : decode cX7_reply 14 = .ok (.getfield 88, 3) := by decide +kernel
theorem dX7_reply_17 : decode cX7_reply 17 = .ok (.if_icmp .lt 5, 3) := by decide +kernel
theorem dX7_reply_20 : decode cX7_reply 20 = .ok (.iconst (-1), 1) := by decide +kernel
theorem dX7_reply_21 : decode cX7_reply 21 = .ok (.ireturn, 1) := by decide +kernel
theorem dX7_reply_22 : decode cX7_reply 22 = .ok (.iload_n 2, 1) := by decide +kernel
theorem dX7_reply_23 : decode cX7_reply 23 = .ok (.tableswitch 54 0 2 #[25, 32, 47], 25) := by decide +kernel
theorem dX7_reply_48 : decode cX7_reply 48 = .ok (.aload_n 3, 1) := by decide +kernel
theorem dX7_reply_49 : decode cX7_reply 49 = .ok (.getfield 99, 3) := by decide +kernel
theorem dX7_reply_52 : decode cX7_reply 52 = .ok (.iload_n 1, 1) := by decide +kernel
theorem dX7_reply_53 : decode cX7_reply 53 = .ok (.iaload, 1) := by decide +kernel
theorem dX7_reply_54 : decode cX7_reply 54 = .ok (.ireturn, 1) := by decide +kernel
theorem dX7_reply_55 : decode cX7_reply 55 = .ok (.aload_n 0, 1) := by decide +kernel
theorem dX7_reply_56 : decode cX7_reply 56 = .ok (.getfield 30, 3) := by decide +kernel
theorem dX7_reply_59 : decode cX7_reply 59 = .ok (.getfield 103, 3) := by decide +kernel
theorem dX7_reply_62 : decode cX7_reply 62 = .ok (.aload_n 3, 1) := by decide +kernel
theorem dX7_reply_63 : decode cX7_reply 63 = .ok (.getfield 99, 3) := by decide +kernel
theorem dX7_reply_66 : decode cX7_reply 66 = .ok (.iload_n 1, 1) := by decide +kernel
theorem dX7_reply_67 : decode cX7_reply 67 = .ok (.iaload, 1) := by decide +kernel
theorem dX7_reply_68 : decode cX7_reply 68 = .ok (.iaload, 1) := by decide +kernel
theorem dX7_reply_69 : decode cX7_reply 69 = .ok (.ireturn, 1) := by decide +kernel
theorem dX7_reply_70 : decode cX7_reply 70 = .ok (.aload_n 3, 1) := by decide +kernel
theorem dX7_reply_71 : decode cX7_reply 71 = .ok (.getfield 106, 3) := by decide +kernel
theorem dX7_reply_74 : decode cX7_reply 74 = .ok (.iload_n 1, 1) := by decide +kernel
theorem dX7_reply_75 : decode cX7_reply 75 = .ok (.iaload, 1) := by decide +kernel
theorem dX7_reply_76 : decode cX7_reply 76 = .ok (.ireturn, 1) := by decide +kernel
theorem dX7_reply_77 : decode cX7_reply 77 = .ok (.iconst (-1), 1) := by decide +kernel
theorem dX7_reply_78 : decode cX7_reply 78 = .ok (.ireturn, 1) := by decide +kernel
theorem dX7_memory_0 : decode cX7_memory 0 = .ok (.aload_n 0, 1) := by decide +kernel
theorem dX7_memory_1 : decode cX7_memory 1 = .ok (.getfield 12, 3) := by decide +kernel
theorem dX7_memory_4 : decode cX7_memory 4 = .ok (.iload_n 1, 1) := by decide +kernel
theorem dX7_memory_5 : decode cX7_memory 5 = .ok (.invokevirtual 54, 3) := by decide +kernel
theorem dX7_memory_8 : decode cX7_memory 8 = .ok (.ifCond .eq 10, 3) := by decide +kernel
theorem dX7_memory_11 : decode cX7_memory 11 = .ok (.iload_n 2, 1) := by decide +kernel
theorem dX7_memory_12 : decode cX7_memory 12 = .ok (.invokestatic 58, 3) := by decide +kernel
theorem dX7_memory_15 : decode cX7_memory 15 = .ok (.ifCond .ne 5, 3) := by decide +kernel
theorem dX7_memory_18 : decode cX7_memory 18 = .ok (.iconst 0, 1) := by decide +kernel
theorem dX7_memory_19 : decode cX7_memory 19 = .ok (.ireturn, 1) := by decide +kernel
theorem dX7_memory_20 : decode cX7_memory 20 = .ok (.aload_n 0, 1) := by decide +kernel
theorem dX7_memory_21 : decode cX7_memory 21 = .ok (.getfield 39, 3) := by decide +kernel
theorem dX7_memory_24 : decode cX7_memory 24 = .ok (.getfield 108, 3) := by decide +kernel
theorem dX7_memory_27 : decode cX7_memory 27 = .ok (.iload_n 1, 1) := by decide +kernel
theorem dX7_memory_28 : decode cX7_memory 28 = .ok (.bipush 8, 2) := by decide +kernel
theorem dX7_memory_30 : decode cX7_memory 30 = .ok (.imul, 1) := by decide +kernel
theorem dX7_memory_31 : decode cX7_memory 31 = .ok (.iload_n 2, 1) := by decide +kernel
theorem dX7_memory_32 : decode cX7_memory 32 = .ok (.iadd, 1) := by decide +kernel
theorem dX7_memory_33 : decode cX7_memory 33 = .ok (.iaload, 1) := by decide +kernel
theorem dX7_memory_34 : decode cX7_memory 34 = .ok (.ireturn, 1) := by decide +kernel
theorem dX7_waiting_0 : decode cX7_waiting 0 = .ok (.aload_n 0, 1) := by decide +kernel
theorem dX7_waiting_1 : decode cX7_waiting 1 = .ok (.getfield 12, 3) := by decide +kernel
theorem dX7_waiting_4 : decode cX7_waiting 4 = .ok (.iload_n 1, 1) := by decide +kernel
theorem dX7_waiting_5 : decode cX7_waiting 5 = .ok (.invokevirtual 54, 3) := by decide +kernel
theorem dX7_waiting_8 : decode cX7_waiting 8 = .ok (.ifCond .ne 5, 3) := by decide +kernel
theorem dX7_waiting_11 : decode cX7_waiting 11 = .ok (.iconst (-1), 1) := by decide +kernel
theorem dX7_waiting_12 : decode cX7_waiting 12 = .ok (.ireturn, 1) := by decide +kernel
theorem dX7_waiting_13 : decode cX7_waiting 13 = .ok (.aload_n 0, 1) := by decide +kernel
theorem dX7_waiting_14 : decode cX7_waiting 14 = .ok (.getfield 39, 3) := by decide +kernel
theorem dX7_waiting_17 : decode cX7_waiting 17 = .ok (.getfield 61, 3) := by decide +kernel
theorem dX7_waiting_20 : decode cX7_waiting 20 = .ok (.getfield 111, 3) := by decide +kernel
theorem dX7_waiting_23 : decode cX7_waiting 23 = .ok (.iload_n 1, 1) := by decide +kernel
theorem dX7_waiting_24 : decode cX7_waiting 24 = .ok (.iaload, 1) := by decide +kernel
theorem dX7_waiting_25 : decode cX7_waiting 25 = .ok (.bipush 8, 2) := by decide +kernel
theorem dX7_waiting_27 : decode cX7_waiting 27 = .ok (.aload_n 0, 1) := by decide +kernel
theorem dX7_waiting_28 : decode cX7_waiting 28 = .ok (.getfield 39, 3) := by decide +kernel
theorem dX7_waiting_31 : decode cX7_waiting 31 = .ok (.getfield 113, 3) := by decide +kernel
theorem dX7_waiting_34 : decode cX7_waiting 34 = .ok (.getfield 111, 3) := by decide +kernel
theorem dX7_waiting_37 : decode cX7_waiting 37 = .ok (.iload_n 1, 1) := by decide +kernel
theorem dX7_waiting_38 : decode cX7_waiting 38 = .ok (.iaload, 1) := by decide +kernel
theorem dX7_waiting_39 : decode cX7_waiting 39 = .ok (.imul, 1) := by decide +kernel
theorem dX7_waiting_40 : decode cX7_waiting 40 = .ok (.iadd, 1) := by decide +kernel
theorem dX7_waiting_41 : decode cX7_waiting 41 = .ok (.ireturn, 1) := by decide +kernel
theorem dX7_lane_0 : decode cX7_lane 0 = .ok (.aload_n 0, 1) := by decide +kernel
theorem dX7_lane_1 : decode cX7_lane 1 = .ok (.iload_n 1, 1) := by decide +kernel
theorem dX7_lane_2 : decode cX7_lane 2 = .ok (.iload_n 2, 1) := by decide +kernel
theorem dX7_lane_3 : decode cX7_lane 3 = .ok (.iload_n 3, 1) := by decide +kernel
theorem dX7_lane_4 : decode cX7_lane 4 = .ok (.invokevirtual 116, 3) := by decide +kernel
theorem dX7_lane_7 : decode cX7_lane 7 = .ok (.ifCond .ne 5, 3) := by decide +kernel
theorem dX7_lane_10 : decode cX7_lane 10 = .ok (.iconst (-1), 1) := by decide +kernel
theorem dX7_lane_11 : decode cX7_lane 11 = .ok (.ireturn, 1) := by decide +kernel
theorem dX7_lane_12 : decode cX7_lane 12 = .ok (.aload_n 0, 1) := by decide +kernel
theorem dX7_lane_13 : decode cX7_lane 13 = .ok (.getfield 12, 3) := by decide +kernel
theorem dX7_lane_16 : decode cX7_lane 16 = .ok (.iload_n 1, 1) := by decide +kernel
theorem dX7_lane_17 : decode cX7_lane 17 = .ok (.iload_n 2, 1) := by decide +kernel
theorem dX7_lane_18 : decode cX7_lane 18 = .ok (.iload_n 3, 1) := by decide +kernel
theorem dX7_lane_19 : decode cX7_lane 19 = .ok (.invokevirtual 120, 3) := by decide +kernel
theorem dX7_lane_22 : decode cX7_lane 22 = .ok (.istore 4, 2) := by decide +kernel
theorem dX7_lane_24 : decode cX7_lane 24 = .ok (.aload_n 0, 1) := by decide +kernel
theorem dX7_lane_25 : decode cX7_lane 25 = .ok (.getfield 46, 3) := by decide +kernel
theorem dX7_lane_28 : decode cX7_lane 28 = .ok (.getfield 124, 3) := by decide +kernel
theorem dX7_lane_31 : decode cX7_lane 31 = .ok (.iload 4, 2) := by decide +kernel
theorem dX7_lane_33 : decode cX7_lane 33 = .ok (.iaload, 1) := by decide +kernel
theorem dX7_lane_34 : decode cX7_lane 34 = .ok (.istore 5, 2) := by decide +kernel
theorem dX7_lane_36 : decode cX7_lane 36 = .ok (.iload 5, 2) := by decide +kernel
theorem dX7_lane_38 : decode cX7_lane 38 = .ok (.ifCond .ne 7, 3) := by decide +kernel
theorem dX7_lane_41 : decode cX7_lane 41 = .ok (.iconst 0, 1) := by decide +kernel
theorem dX7_lane_42 : decode cX7_lane 42 = .ok (.goto 13, 3) := by decide +kernel
theorem dX7_lane_45 : decode cX7_lane 45 = .ok (.aload_n 0, 1) := by decide +kernel
theorem dX7_lane_46 : decode cX7_lane 46 = .ok (.getfield 46, 3) := by decide +kernel
theorem dX7_lane_49 : decode cX7_lane 49 = .ok (.getfield 127, 3) := by decide +kernel
theorem dX7_lane_52 : decode cX7_lane 52 = .ok (.iload 4, 2) := by decide +kernel
theorem dX7_lane_54 : decode cX7_lane 54 = .ok (.iaload, 1) := by decide +kernel
theorem dX7_lane_55 : decode cX7_lane 55 = .ok (.istore 6, 2) := by decide +kernel
theorem dX7_lane_57 : decode cX7_lane 57 = .ok (.aload_n 0, 1) := by decide +kernel
theorem dX7_lane_58 : decode cX7_lane 58 = .ok (.getfield 23, 3) := by decide +kernel
theorem dX7_lane_61 : decode cX7_lane 61 = .ok (.getfield 130, 3) := by decide +kernel
theorem dX7_lane_64 : decode cX7_lane 64 = .ok (.iload 4, 2) := by decide +kernel
theorem dX7_lane_66 : decode cX7_lane 66 = .ok (.iaload, 1) := by decide +kernel
theorem dX7_lane_67 : decode cX7_lane 67 = .ok (.bipush 8, 2) := by decide +kernel
theorem dX7_lane_69 : decode cX7_lane 69 = .ok (.iload 5, 2) := by decide +kernel
theorem dX7_lane_71 : decode cX7_lane 71 = .ok (.imul, 1) := by decide +kernel
theorem dX7_lane_72 : decode cX7_lane 72 = .ok (.iadd, 1) := by decide +kernel
theorem dX7_lane_73 : decode cX7_lane 73 = .ok (.bipush 64, 2) := by decide +kernel
theorem dX7_lane_75 : decode cX7_lane 75 = .ok (.iload 6, 2) := by decide +kernel
theorem dX7_lane_77 : decode cX7_lane 77 = .ok (.imul, 1) := by decide +kernel
theorem dX7_lane_78 : decode cX7_lane 78 = .ok (.iadd, 1) := by decide +kernel
theorem dX7_lane_79 : decode cX7_lane 79 = .ok (.ireturn, 1) := by decide +kernel
theorem dX7_output_0 : decode cX7_output 0 = .ok (.aload_n 0, 1) := by decide +kernel
theorem dX7_output_1 : decode cX7_output 1 = .ok (.iload_n 1, 1) := by decide +kernel
theorem dX7_output_2 : decode cX7_output 2 = .ok (.iload_n 2, 1) := by decide +kernel
theorem dX7_output_3 : decode cX7_output 3 = .ok (.iload_n 3, 1) := by decide +kernel
theorem dX7_output_4 : decode cX7_output 4 = .ok (.invokevirtual 116, 3) := by decide +kernel
theorem dX7_output_7 : decode cX7_output 7 = .ok (.ifCond .ne 5, 3) := by decide +kernel
theorem dX7_output_10 : decode cX7_output 10 = .ok (.iconst (-1), 1) := by decide +kernel
theorem dX7_output_11 : decode cX7_output 11 = .ok (.ireturn, 1) := by decide +kernel
theorem dX7_output_12 : decode cX7_output 12 = .ok (.aload_n 0, 1) := by decide +kernel
theorem dX7_output_13 : decode cX7_output 13 = .ok (.getfield 12, 3) := by decide +kernel
theorem dX7_output_16 : decode cX7_output 16 = .ok (.iload_n 1, 1) := by decide +kernel
theorem dX7_output_17 : decode cX7_output 17 = .ok (.iload_n 2, 1) := by decide +kernel
theorem dX7_output_18 : decode cX7_output 18 = .ok (.iload_n 3, 1) := by decide +kernel
theorem dX7_output_19 : decode cX7_output 19 = .ok (.invokevirtual 120, 3) := by decide +kernel
theorem dX7_output_22 : decode cX7_output 22 = .ok (.istore 4, 2) := by decide +kernel
theorem dX7_output_24 : decode cX7_output 24 = .ok (.aload_n 0, 1) := by decide +kernel
theorem dX7_output_25 : decode cX7_output 25 = .ok (.getfield 23, 3) := by decide +kernel
theorem dX7_output_28 : decode cX7_output 28 = .ok (.getfield 131, 3) := by decide +kernel
theorem dX7_output_31 : decode cX7_output 31 = .ok (.iload 4, 2) := by decide +kernel
theorem dX7_output_33 : decode cX7_output 33 = .ok (.iaload, 1) := by decide +kernel
theorem dX7_output_34 : decode cX7_output 34 = .ok (.aload_n 0, 1) := by decide +kernel
theorem dX7_output_35 : decode cX7_output 35 = .ok (.getfield 46, 3) := by decide +kernel
theorem dX7_output_38 : decode cX7_output 38 = .ok (.getfield 134, 3) := by decide +kernel
theorem dX7_output_41 : decode cX7_output 41 = .ok (.iload 4, 2) := by decide +kernel
theorem dX7_output_43 : decode cX7_output 43 = .ok (.baload, 1) := by decide +kernel
theorem dX7_output_44 : decode cX7_output 44 = .ok (.ifCond .eq 8, 3) := by decide +kernel
theorem dX7_output_47 : decode cX7_output 47 = .ok (.bipush 8, 2) := by decide +kernel
theorem dX7_output_49 : decode cX7_output 49 = .ok (.goto 4, 3) := by decide +kernel
theorem dX7_output_52 : decode cX7_output 52 = .ok (.iconst 0, 1) := by decide +kernel
theorem dX7_output_53 : decode cX7_output 53 = .ok (.iadd, 1) := by decide +kernel
theorem dX7_output_54 : decode cX7_output 54 = .ok (.ireturn, 1) := by decide +kernel
theorem dX7_arrival_0 : decode cX7_arrival 0 = .ok (.aload_n 0, 1) := by decide +kernel
theorem dX7_arrival_1 : decode cX7_arrival 1 = .ok (.getfield 12, 3) := by decide +kernel
theorem dX7_arrival_4 : decode cX7_arrival 4 = .ok (.iload_n 1, 1) := by decide +kernel
theorem dX7_arrival_5 : decode cX7_arrival 5 = .ok (.invokevirtual 54, 3) := by decide +kernel
theorem dX7_arrival_8 : decode cX7_arrival 8 = .ok (.ifCond .eq 14, 3) := by decide +kernel
theorem dX7_arrival_11 : decode cX7_arrival 11 = .ok (.aload_n 0, 1) := by decide +kernel
theorem dX7_arrival_12 : decode cX7_arrival 12 = .ok (.getfield 12, 3) := by decide +kernel
theorem dX7_arrival_15 : decode cX7_arrival 15 = .ok (.iload_n 2, 1) := by decide +kernel
theorem dX7_arrival_16 : decode cX7_arrival 16 = .ok (.invokevirtual 137, 3) := by decide +kernel
theorem dX7_arrival_19 : decode cX7_arrival 19 = .ok (.ifCond .ne 5, 3) := by decide +kernel
theorem dX7_arrival_22 : decode cX7_arrival 22 = .ok (.iconst (-1), 1) := by decide +kernel
theorem dX7_arrival_23 : decode cX7_arrival 23 = .ok (.ireturn, 1) := by decide +kernel
theorem dX7_arrival_24 : decode cX7_arrival 24 = .ok (.aload_n 0, 1) := by decide +kernel
theorem dX7_arrival_25 : decode cX7_arrival 25 = .ok (.getfield 12, 3) := by decide +kernel
theorem dX7_arrival_28 : decode cX7_arrival 28 = .ok (.iload_n 1, 1) := by decide +kernel
theorem dX7_arrival_29 : decode cX7_arrival 29 = .ok (.iconst 5, 1) := by decide +kernel
theorem dX7_arrival_30 : decode cX7_arrival 30 = .ok (.iload_n 2, 1) := by decide +kernel
theorem dX7_arrival_31 : decode cX7_arrival 31 = .ok (.invokevirtual 120, 3) := by decide +kernel
theorem dX7_arrival_34 : decode cX7_arrival 34 = .ok (.istore_n 3, 1) := by decide +kernel
theorem dX7_arrival_35 : decode cX7_arrival 35 = .ok (.aload_n 0, 1) := by decide +kernel
theorem dX7_arrival_36 : decode cX7_arrival 36 = .ok (.getfield 23, 3) := by decide +kernel
theorem dX7_arrival_39 : decode cX7_arrival 39 = .ok (.getfield 130, 3) := by decide +kernel
theorem dX7_arrival_42 : decode cX7_arrival 42 = .ok (.iload_n 3, 1) := by decide +kernel
theorem dX7_arrival_43 : decode cX7_arrival 43 = .ok (.iaload, 1) := by decide +kernel
theorem dX7_arrival_44 : decode cX7_arrival 44 = .ok (.bipush 8, 2) := by decide +kernel
theorem dX7_arrival_46 : decode cX7_arrival 46 = .ok (.aload_n 0, 1) := by decide +kernel
theorem dX7_arrival_47 : decode cX7_arrival 47 = .ok (.getfield 23, 3) := by decide +kernel
theorem dX7_arrival_50 : decode cX7_arrival 50 = .ok (.getfield 131, 3) := by decide +kernel
theorem dX7_arrival_53 : decode cX7_arrival 53 = .ok (.iload_n 3, 1) := by decide +kernel
theorem dX7_arrival_54 : decode cX7_arrival 54 = .ok (.iaload, 1) := by decide +kernel
theorem dX7_arrival_55 : decode cX7_arrival 55 = .ok (.imul, 1) := by decide +kernel
theorem dX7_arrival_56 : decode cX7_arrival 56 = .ok (.iadd, 1) := by decide +kernel
theorem dX7_arrival_57 : decode cX7_arrival 57 = .ok (.ireturn, 1) := by decide +kernel
theorem dX7_sent_0 : decode cX7_sent 0 = .ok (.aload_n 0, 1) := by decide +kernel
theorem dX7_sent_1 : decode cX7_sent 1 = .ok (.getfield 23, 3) := by decide +kernel
theorem dX7_sent_4 : decode cX7_sent 4 = .ok (.getfield 140, 3) := by decide +kernel
theorem dX7_sent_7 : decode cX7_sent 7 = .ok (.ireturn, 1) := by decide +kernel
theorem dX7_isWord_0 : decode cX7_isWord 0 = .ok (.iload_n 0, 1) := by decide +kernel
theorem dX7_isWord_1 : decode cX7_isWord 1 = .ok (.ifCond .lt 13, 3) := by decide +kernel
theorem dX7_isWord_4 : decode cX7_isWord 4 = .ok (.iload_n 0, 1) := by decide +kernel
theorem dX7_isWord_5 : decode cX7_isWord 5 = .ok (.bipush 8, 2) := by decide +kernel
theorem dX7_isWord_7 : decode cX7_isWord 7 = .ok (.if_icmp .ge 7, 3) := by decide +kernel
theorem dX7_isWord_10 : decode cX7_isWord 10 = .ok (.iconst 1, 1) := by decide +kernel
theorem dX7_isWord_11 : decode cX7_isWord 11 = .ok (.goto 4, 3) := by decide +kernel
theorem dX7_isWord_14 : decode cX7_isWord 14 = .ok (.iconst 0, 1) := by decide +kernel
theorem dX7_isWord_15 : decode cX7_isWord 15 = .ok (.ireturn, 1) := by decide +kernel
theorem dX7_isRouterPlace_0 : decode cX7_isRouterPlace 0 = .ok (.aload_n 0, 1) := by decide +kernel
theorem dX7_isRouterPlace_1 : decode cX7_isRouterPlace 1 = .ok (.getfield 12, 3) := by decide +kernel
theorem dX7_isRouterPlace_4 : decode cX7_isRouterPlace 4 = .ok (.iload_n 1, 1) := by decide +kernel
theorem dX7_isRouterPlace_5 : decode cX7_isRouterPlace 5 = .ok (.invokevirtual 54, 3) := by decide +kernel
theorem dX7_isRouterPlace_8 : decode cX7_isRouterPlace 8 = .ok (.ifCond .eq 27, 3) := by decide +kernel
theorem dX7_isRouterPlace_11 : decode cX7_isRouterPlace 11 = .ok (.iload_n 2, 1) := by decide +kernel
theorem dX7_isRouterPlace_12 : decode cX7_isRouterPlace 12 = .ok (.ifCond .lt 23, 3) := by decide +kernel
theorem dX7_isRouterPlace_15 : decode cX7_isRouterPlace 15 = .ok (.iload_n 2, 1) := by decide +kernel
theorem dX7_isRouterPlace_16 : decode cX7_isRouterPlace 16 = .ok (.iconst 5, 1) := by decide +kernel
theorem dX7_isRouterPlace_17 : decode cX7_isRouterPlace 17 = .ok (.if_icmp .ge 18, 3) := by decide +kernel
theorem dX7_isRouterPlace_20 : decode cX7_isRouterPlace 20 = .ok (.aload_n 0, 1) := by decide +kernel
theorem dX7_isRouterPlace_21 : decode cX7_isRouterPlace 21 = .ok (.getfield 12, 3) := by decide +kernel
theorem dX7_isRouterPlace_24 : decode cX7_isRouterPlace 24 = .ok (.iload_n 3, 1) := by decide +kernel
theorem dX7_isRouterPlace_25 : decode cX7_isRouterPlace 25 = .ok (.invokevirtual 137, 3) := by decide +kernel
theorem dX7_isRouterPlace_28 : decode cX7_isRouterPlace 28 = .ok (.ifCond .eq 7, 3) := by decide +kernel
theorem dX7_isRouterPlace_31 : decode cX7_isRouterPlace 31 = .ok (.iconst 1, 1) := by decide +kernel
theorem dX7_isRouterPlace_32 : decode cX7_isRouterPlace 32 = .ok (.goto 4, 3) := by decide +kernel
theorem dX7_isRouterPlace_35 : decode cX7_isRouterPlace 35 = .ok (.iconst 0, 1) := by decide +kernel
theorem dX7_isRouterPlace_36 : decode cX7_isRouterPlace 36 = .ok (.ireturn, 1) := by decide +kernel
theorem dX7_tick_0 : decode cX7_tick 0 = .ok (.aload_n 0, 1) := by decide +kernel
theorem dX7_tick_1 : decode cX7_tick 1 = .ok (.dup, 1) := by decide +kernel
theorem dX7_tick_2 : decode cX7_tick 2 = .ok (.getfield 96, 3) := by decide +kernel
theorem dX7_tick_5 : decode cX7_tick 5 = .ok (.iconst 1, 1) := by decide +kernel
theorem dX7_tick_6 : decode cX7_tick 6 = .ok (.iadd, 1) := by decide +kernel
theorem dX7_tick_7 : decode cX7_tick 7 = .ok (.putfield 96, 3) := by decide +kernel
theorem dX7_tick_10 : decode cX7_tick 10 = .ok (.aload_n 0, 1) := by decide +kernel
theorem dX7_tick_11 : decode cX7_tick 11 = .ok (.getfield 23, 3) := by decide +kernel
theorem dX7_tick_14 : decode cX7_tick 14 = .ok (.invokevirtual 143, 3) := by decide +kernel
theorem dX7_tick_17 : decode cX7_tick 17 = .ok (.aload_n 0, 1) := by decide +kernel
theorem dX7_tick_18 : decode cX7_tick 18 = .ok (.getfield 39, 3) := by decide +kernel
theorem dX7_tick_21 : decode cX7_tick 21 = .ok (.aload_n 0, 1) := by decide +kernel
theorem dX7_tick_22 : decode cX7_tick 22 = .ok (.getfield 96, 3) := by decide +kernel
theorem dX7_tick_25 : decode cX7_tick 25 = .ok (.invokevirtual 146, 3) := by decide +kernel
theorem dX7_tick_28 : decode cX7_tick 28 = .ok (.aload_n 0, 1) := by decide +kernel
theorem dX7_tick_29 : decode cX7_tick 29 = .ok (.getfield 39, 3) := by decide +kernel
theorem dX7_tick_32 : decode cX7_tick 32 = .ok (.invokevirtual 150, 3) := by decide +kernel
theorem dX7_tick_35 : decode cX7_tick 35 = .ok (.aload_n 0, 1) := by decide +kernel
theorem dX7_tick_36 : decode cX7_tick 36 = .ok (.getfield 46, 3) := by decide +kernel
theorem dX7_tick_39 : decode cX7_tick 39 = .ok (.invokevirtual 153, 3) := by decide +kernel
theorem dX7_tick_42 : decode cX7_tick 42 = .ok (.aload_n 0, 1) := by decide +kernel
theorem dX7_tick_43 : decode cX7_tick 43 = .ok (.getfield 46, 3) := by decide +kernel
theorem dX7_tick_46 : decode cX7_tick 46 = .ok (.invokevirtual 156, 3) := by decide +kernel
theorem dX7_tick_49 : decode cX7_tick 49 = .ok (.aload_n 0, 1) := by decide +kernel
theorem dX7_tick_50 : decode cX7_tick 50 = .ok (.getfield 46, 3) := by decide +kernel
theorem dX7_tick_53 : decode cX7_tick 53 = .ok (.invokevirtual 159, 3) := by decide +kernel
theorem dX7_tick_56 : decode cX7_tick 56 = .ok (.return_, 1) := by decide +kernel
theorem dL_cell_0 : decode cL_cell 0 = .ok (.iload_n 1, 1) := by decide +kernel
theorem dL_cell_1 : decode cL_cell 1 = .ok (.aload_n 0, 1) := by decide +kernel
theorem dL_cell_2 : decode cL_cell 2 = .ok (.arraylength, 1) := by decide +kernel
theorem dL_cell_3 : decode cL_cell 3 = .ok (.if_icmp .ge 9, 3) := by decide +kernel
theorem dL_cell_6 : decode cL_cell 6 = .ok (.aload_n 0, 1) := by decide +kernel
theorem dL_cell_7 : decode cL_cell 7 = .ok (.iload_n 1, 1) := by decide +kernel
theorem dL_cell_8 : decode cL_cell 8 = .ok (.iaload, 1) := by decide +kernel
theorem dL_cell_9 : decode cL_cell 9 = .ok (.goto 4, 3) := by decide +kernel
theorem dL_cell_12 : decode cL_cell 12 = .ok (.iconst 0, 1) := by decide +kernel
theorem dL_cell_13 : decode cL_cell 13 = .ok (.ireturn, 1) := by decide +kernel
theorem dL_law_0 : decode cL_law 0 = .ok (.new 7, 3) := by decide +kernel
theorem dL_law_3 : decode cL_law 3 = .ok (.dup, 1) := by decide +kernel
theorem dL_law_4 : decode cL_law 4 = .ok (.aload_n 0, 1) := by decide +kernel
theorem dL_law_5 : decode cL_law 5 = .ok (.iconst 0, 1) := by decide +kernel
theorem dL_law_6 : decode cL_law 6 = .ok (.invokestatic 9, 3) := by decide +kernel
theorem dL_law_9 : decode cL_law 9 = .ok (.aload_n 0, 1) := by decide +kernel
theorem dL_law_10 : decode cL_law 10 = .ok (.iconst 1, 1) := by decide +kernel
theorem dL_law_11 : decode cL_law 11 = .ok (.invokestatic 9, 3) := by decide +kernel
theorem dL_law_14 : decode cL_law 14 = .ok (.aload_n 0, 1) := by decide +kernel
theorem dL_law_15 : decode cL_law 15 = .ok (.iconst 2, 1) := by decide +kernel
theorem dL_law_16 : decode cL_law 16 = .ok (.invokestatic 9, 3) := by decide +kernel
theorem dL_law_19 : decode cL_law 19 = .ok (.aload_n 0, 1) := by decide +kernel
theorem dL_law_20 : decode cL_law 20 = .ok (.iconst 3, 1) := by decide +kernel
theorem dL_law_21 : decode cL_law 21 = .ok (.invokestatic 9, 3) := by decide +kernel
theorem dL_law_24 : decode cL_law 24 = .ok (.invokespecial 15, 3) := by decide +kernel
theorem dL_law_27 : decode cL_law 27 = .ok (.astore_n 1, 1) := by decide +kernel
theorem dL_law_28 : decode cL_law 28 = .ok (.new 18, 3) := by decide +kernel
theorem dL_law_31 : decode cL_law 31 = .ok (.dup, 1) := by decide +kernel
theorem dL_law_32 : decode cL_law 32 = .ok (.aload_n 0, 1) := by decide +kernel
theorem dL_law_33 : decode cL_law 33 = .ok (.iconst 0, 1) := by decide +kernel
theorem dL_law_34 : decode cL_law 34 = .ok (.invokestatic 9, 3) := by decide +kernel
theorem dL_law_37 : decode cL_law 37 = .ok (.aload_n 0, 1) := by decide +kernel
theorem dL_law_38 : decode cL_law 38 = .ok (.iconst 1, 1) := by decide +kernel
theorem dL_law_39 : decode cL_law 39 = .ok (.invokestatic 9, 3) := by decide +kernel
theorem dL_law_42 : decode cL_law 42 = .ok (.aload_n 0, 1) := by decide +kernel
theorem dL_law_43 : decode cL_law 43 = .ok (.iconst 2, 1) := by decide +kernel
theorem dL_law_44 : decode cL_law 44 = .ok (.invokestatic 9, 3) := by decide +kernel
theorem dL_law_47 : decode cL_law 47 = .ok (.aload_n 0, 1) := by decide +kernel
theorem dL_law_48 : decode cL_law 48 = .ok (.iconst 3, 1) := by decide +kernel
theorem dL_law_49 : decode cL_law 49 = .ok (.invokestatic 9, 3) := by decide +kernel
theorem dL_law_52 : decode cL_law 52 = .ok (.invokespecial 20, 3) := by decide +kernel
theorem dL_law_55 : decode cL_law 55 = .ok (.astore_n 2, 1) := by decide +kernel
theorem dL_law_56 : decode cL_law 56 = .ok (.iconst 4, 1) := by decide +kernel
theorem dL_law_57 : decode cL_law 57 = .ok (.istore_n 3, 1) := by decide +kernel
theorem dL_law_58 : decode cL_law 58 = .ok (.iload_n 3, 1) := by decide +kernel
theorem dL_law_59 : decode cL_law 59 = .ok (.aload_n 0, 1) := by decide +kernel
theorem dL_law_60 : decode cL_law 60 = .ok (.arraylength, 1) := by decide +kernel
theorem dL_law_61 : decode cL_law 61 = .ok (.bipush 6, 2) := by decide +kernel
theorem dL_law_63 : decode cL_law 63 = .ok (.isub, 1) := by decide +kernel
theorem dL_law_64 : decode cL_law 64 = .ok (.if_icmp .gt 493, 3) := by decide +kernel
theorem dL_law_67 : decode cL_law 67 = .ok (.aload_n 0, 1) := by decide +kernel
theorem dL_law_68 : decode cL_law 68 = .ok (.iload_n 3, 1) := by decide +kernel
theorem dL_law_69 : decode cL_law 69 = .ok (.iaload, 1) := by decide +kernel
theorem dL_law_70 : decode cL_law 70 = .ok (.bipush 15, 2) := by decide +kernel
theorem dL_law_72 : decode cL_law 72 = .ok (.iand, 1) := by decide +kernel
theorem dL_law_73 : decode cL_law 73 = .ok (.tableswitch 478 0 12 #[67, 80, 159, 208, 231, 244, 257, 290, 323, 346, 389, 432, 465], 67) := by decide +kernel
theorem dL_law_140 : decode cL_law 140 = .ok (.aload_n 1, 1) := by decide +kernel
theorem dL_law_141 : decode cL_law 141 = .ok (.invokevirtual 21, 3) := by decide +kernel
theorem dL_law_144 : decode cL_law 144 = .ok (.aload_n 2, 1) := by decide +kernel
theorem dL_law_145 : decode cL_law 145 = .ok (.invokevirtual 25, 3) := by decide +kernel
theorem dL_law_148 : decode cL_law 148 = .ok (.if_icmp .eq 403, 3) := by decide +kernel
theorem dL_law_151 : decode cL_law 151 = .ok (.iconst 0, 1) := by decide +kernel
theorem dL_law_152 : decode cL_law 152 = .ok (.ireturn, 1) := by decide +kernel
theorem dL_law_153 : decode cL_law 153 = .ok (.aload_n 1, 1) := by decide +kernel
theorem dL_law_154 : decode cL_law 154 = .ok (.aload_n 0, 1) := by decide +kernel
theorem dL_law_155 : decode cL_law 155 = .ok (.iload_n 3, 1) := by decide +kernel
theorem dL_law_156 : decode cL_law 156 = .ok (.iconst 1, 1) := by decide +kernel
theorem dL_law_157 : decode cL_law 157 = .ok (.iadd, 1) := by decide +kernel
theorem dL_law_158 : decode cL_law 158 = .ok (.iaload, 1) := by decide +kernel
theorem dL_law_159 : decode cL_law 159 = .ok (.aload_n 0, 1) := by decide +kernel
theorem dL_law_160 : decode cL_law 160 = .ok (.iload_n 3, 1) := by decide +kernel
theorem dL_law_161 : decode cL_law 161 = .ok (.iconst 2, 1) := by decide +kernel
theorem dL_law_162 : decode cL_law 162 = .ok (.iadd, 1) := by decide +kernel
theorem dL_law_163 : decode cL_law 163 = .ok (.iaload, 1) := by decide +kernel
theorem dL_law_164 : decode cL_law 164 = .ok (.aload_n 0, 1) := by decide +kernel
theorem dL_law_165 : decode cL_law 165 = .ok (.iload_n 3, 1) := by decide +kernel
theorem dL_law_166 : decode cL_law 166 = .ok (.iconst 3, 1) := by decide +kernel
theorem dL_law_167 : decode cL_law 167 = .ok (.iadd, 1) := by decide +kernel
theorem dL_law_168 : decode cL_law 168 = .ok (.iaload, 1) := by decide +kernel
theorem dL_law_169 : decode cL_law 169 = .ok (.ifCond .eq 7, 3) := by decide +kernel
theorem dL_law_172 : decode cL_law 172 = .ok (.iconst 1, 1) := by decide +kernel
theorem dL_law_173 : decode cL_law 173 = .ok (.goto 4, 3) := by decide +kernel
theorem dL_law_176 : decode cL_law 176 = .ok (.iconst 0, 1) := by decide +kernel
theorem dL_law_177 : decode cL_law 177 = .ok (.aload_n 0, 1) := by decide +kernel
theorem dL_law_178 : decode cL_law 178 = .ok (.iload_n 3, 1) := by decide +kernel
theorem dL_law_179 : decode cL_law 179 = .ok (.iconst 4, 1) := by decide +kernel
theorem dL_law_180 : decode cL_law 180 = .ok (.iadd, 1) := by decide +kernel
theorem dL_law_181 : decode cL_law 181 = .ok (.iaload, 1) := by decide +kernel
theorem dL_law_182 : decode cL_law 182 = .ok (.aload_n 0, 1) := by decide +kernel
theorem dL_law_183 : decode cL_law 183 = .ok (.iload_n 3, 1) := by decide +kernel
theorem dL_law_184 : decode cL_law 184 = .ok (.iconst 5, 1) := by decide +kernel
theorem dL_law_185 : decode cL_law 185 = .ok (.iadd, 1) := by decide +kernel
theorem dL_law_186 : decode cL_law 186 = .ok (.iaload, 1) := by decide +kernel
theorem dL_law_187 : decode cL_law 187 = .ok (.invokevirtual 26, 3) := by decide +kernel
theorem dL_law_190 : decode cL_law 190 = .ok (.aload_n 2, 1) := by decide +kernel
theorem dL_law_191 : decode cL_law 191 = .ok (.aload_n 0, 1) := by decide +kernel
theorem dL_law_192 : decode cL_law 192 = .ok (.iload_n 3, 1) := by decide +kernel
theorem dL_law_193 : decode cL_law 193 = .ok (.iconst 1, 1) := by decide +kernel
theorem dL_law_194 : decode cL_law 194 = .ok (.iadd, 1) := by decide +kernel
theorem dL_law_195 : decode cL_law 195 = .ok (.iaload, 1) := by decide +kernel
theorem dL_law_196 : decode cL_law 196 = .ok (.aload_n 0, 1) := by decide +kernel
theorem dL_law_197 : decode cL_law 197 = .ok (.iload_n 3, 1) := by decide +kernel
theorem dL_law_198 : decode cL_law 198 = .ok (.iconst 2, 1) := by decide +kernel
theorem dL_law_199 : decode cL_law 199 = .ok (.iadd, 1) := by decide +kernel
theorem dL_law_200 : decode cL_law 200 = .ok (.iaload, 1) := by decide +kernel
theorem dL_law_201 : decode cL_law 201 = .ok (.aload_n 0, 1) := by decide +kernel
theorem dL_law_202 : decode cL_law 202 = .ok (.iload_n 3, 1) := by decide +kernel
theorem dL_law_203 : decode cL_law 203 = .ok (.iconst 3, 1) := by decide +kernel
theorem dL_law_204 : decode cL_law 204 = .ok (.iadd, 1) := by decide +kernel
theorem dL_law_205 : decode cL_law 205 = .ok (.iaload, 1) := by decide +kernel
theorem dL_law_206 : decode cL_law 206 = .ok (.ifCond .eq 7, 3) := by decide +kernel
theorem dL_law_209 : decode cL_law 209 = .ok (.iconst 1, 1) := by decide +kernel
theorem dL_law_210 : decode cL_law 210 = .ok (.goto 4, 3) := by decide +kernel
theorem dL_law_213 : decode cL_law 213 = .ok (.iconst 0, 1) := by decide +kernel
theorem dL_law_214 : decode cL_law 214 = .ok (.aload_n 0, 1) := by decide +kernel
theorem dL_law_215 : decode cL_law 215 = .ok (.iload_n 3, 1) := by decide +kernel
theorem dL_law_216 : decode cL_law 216 = .ok (.iconst 4, 1) := by decide +kernel
theorem dL_law_217 : decode cL_law 217 = .ok (.iadd, 1) := by decide +kernel
theorem dL_law_218 : decode cL_law 218 = .ok (.iaload, 1) := by decide +kernel
theorem dL_law_219 : decode cL_law 219 = .ok (.aload_n 0, 1) := by decide +kernel
theorem dL_law_220 : decode cL_law 220 = .ok (.iload_n 3, 1) := by decide +kernel
theorem dL_law_221 : decode cL_law 221 = .ok (.iconst 5, 1) := by decide +kernel
theorem dL_law_222 : decode cL_law 222 = .ok (.iadd, 1) := by decide +kernel
theorem dL_law_223 : decode cL_law 223 = .ok (.iaload, 1) := by decide +kernel
theorem dL_law_224 : decode cL_law 224 = .ok (.invokevirtual 30, 3) := by decide +kernel
theorem dL_law_227 : decode cL_law 227 = .ok (.if_icmp .eq 324, 3) := by decide +kernel
theorem dL_law_230 : decode cL_law 230 = .ok (.iconst 0, 1) := by decide +kernel
theorem dL_law_231 : decode cL_law 231 = .ok (.ireturn, 1) := by decide +kernel
theorem dL_law_232 : decode cL_law 232 = .ok (.aload_n 1, 1) := by decide +kernel
theorem dL_law_233 : decode cL_law 233 = .ok (.aload_n 0, 1) := by decide +kernel
theorem dL_law_234 : decode cL_law 234 = .ok (.iload_n 3, 1) := by decide +kernel
theorem dL_law_235 : decode cL_law 235 = .ok (.iconst 1, 1) := by decide +kernel
theorem dL_law_236 : decode cL_law 236 = .ok (.iadd, 1) := by decide +kernel
theorem dL_law_237 : decode cL_law 237 = .ok (.iaload, 1) := by decide +kernel
theorem dL_law_238 : decode cL_law 238 = .ok (.aload_n 0, 1) := by decide +kernel
theorem dL_law_239 : decode cL_law 239 = .ok (.iload_n 3, 1) := by decide +kernel
theorem dL_law_240 : decode cL_law 240 = .ok (.iconst 2, 1) := by decide +kernel
theorem dL_law_241 : decode cL_law 241 = .ok (.iadd, 1) := by decide +kernel
theorem dL_law_242 : decode cL_law 242 = .ok (.iaload, 1) := by decide +kernel
theorem dL_law_243 : decode cL_law 243 = .ok (.ifCond .eq 7, 3) := by decide +kernel
theorem dL_law_246 : decode cL_law 246 = .ok (.iconst 1, 1) := by decide +kernel
theorem dL_law_247 : decode cL_law 247 = .ok (.goto 4, 3) := by decide +kernel
theorem dL_law_250 : decode cL_law 250 = .ok (.iconst 0, 1) := by decide +kernel
theorem dL_law_251 : decode cL_law 251 = .ok (.invokevirtual 31, 3) := by decide +kernel
theorem dL_law_254 : decode cL_law 254 = .ok (.aload_n 2, 1) := by decide +kernel
theorem dL_law_255 : decode cL_law 255 = .ok (.aload_n 0, 1) := by decide +kernel
theorem dL_law_256 : decode cL_law 256 = .ok (.iload_n 3, 1) := by decide +kernel
theorem dL_law_257 : decode cL_law 257 = .ok (.iconst 1, 1) := by decide +kernel
theorem dL_law_258 : decode cL_law 258 = .ok (.iadd, 1) := by decide +kernel
theorem dL_law_259 : decode cL_law 259 = .ok (.iaload, 1) := by decide +kernel
theorem dL_law_260 : decode cL_law 260 = .ok (.aload_n 0, 1) := by decide +kernel
theorem dL_law_261 : decode cL_law 261 = .ok (.iload_n 3, 1) := by decide +kernel
theorem dL_law_262 : decode cL_law 262 = .ok (.iconst 2, 1) := by decide +kernel
theorem dL_law_263 : decode cL_law 263 = .ok (.iadd, 1) := by decide +kernel
theorem dL_law_264 : decode cL_law 264 = .ok (.iaload, 1) := by decide +kernel
theorem dL_law_265 : decode cL_law 265 = .ok (.ifCond .eq 7, 3) := by decide +kernel
theorem dL_law_268 : decode cL_law 268 = .ok (.iconst 1, 1) := by decide +kernel
theorem dL_law_269 : decode cL_law 269 = .ok (.goto 4, 3) := by decide +kernel
theorem dL_law_272 : decode cL_law 272 = .ok (.iconst 0, 1) := by decide +kernel
theorem dL_law_273 : decode cL_law 273 = .ok (.invokevirtual 35, 3) := by decide +kernel
theorem dL_law_276 : decode cL_law 276 = .ok (.if_icmp .eq 275, 3) := by decide +kernel
theorem dL_law_279 : decode cL_law 279 = .ok (.iconst 0, 1) := by decide +kernel
theorem dL_law_280 : decode cL_law 280 = .ok (.ireturn, 1) := by decide +kernel
theorem dL_law_281 : decode cL_law 281 = .ok (.aload_n 1, 1) := by decide +kernel
theorem dL_law_282 : decode cL_law 282 = .ok (.aload_n 0, 1) := by decide +kernel
theorem dL_law_283 : decode cL_law 283 = .ok (.iload_n 3, 1) := by decide +kernel
theorem dL_law_284 : decode cL_law 284 = .ok (.iconst 1, 1) := by decide +kernel
theorem dL_law_285 : decode cL_law 285 = .ok (.iadd, 1) := by decide +kernel
theorem dL_law_286 : decode cL_law 286 = .ok (.iaload, 1) := by decide +kernel
theorem dL_law_287 : decode cL_law 287 = .ok (.invokevirtual 36, 3) := by decide +kernel
theorem dL_law_290 : decode cL_law 290 = .ok (.aload_n 2, 1) := by decide +kernel
theorem dL_law_291 : decode cL_law 291 = .ok (.aload_n 0, 1) := by decide +kernel
theorem dL_law_292 : decode cL_law 292 = .ok (.iload_n 3, 1) := by decide +kernel
theorem dL_law_293 : decode cL_law 293 = .ok (.iconst 1, 1) := by decide +kernel
theorem dL_law_294 : decode cL_law 294 = .ok (.iadd, 1) := by decide +kernel
theorem dL_law_295 : decode cL_law 295 = .ok (.iaload, 1) := by decide +kernel
theorem dL_law_296 : decode cL_law 296 = .ok (.invokevirtual 40, 3) := by decide +kernel
theorem dL_law_299 : decode cL_law 299 = .ok (.if_icmp .eq 252, 3) := by decide +kernel
theorem dL_law_302 : decode cL_law 302 = .ok (.iconst 0, 1) := by decide +kernel
theorem dL_law_303 : decode cL_law 303 = .ok (.ireturn, 1) := by decide +kernel
theorem dL_law_304 : decode cL_law 304 = .ok (.aload_n 1, 1) := by decide +kernel
theorem dL_law_305 : decode cL_law 305 = .ok (.invokevirtual 41, 3) := by decide +kernel
theorem dL_law_308 : decode cL_law 308 = .ok (.aload_n 2, 1) := by decide +kernel
theorem dL_law_309 : decode cL_law 309 = .ok (.invokevirtual 44, 3) := by decide +kernel
theorem dL_law_312 : decode cL_law 312 = .ok (.if_icmp .eq 239, 3) := by decide +kernel
theorem dL_law_315 : decode cL_law 315 = .ok (.iconst 0, 1) := by decide +kernel
theorem dL_law_316 : decode cL_law 316 = .ok (.ireturn, 1) := by decide +kernel
theorem dL_law_317 : decode cL_law 317 = .ok (.aload_n 1, 1) := by decide +kernel
theorem dL_law_318 : decode cL_law 318 = .ok (.invokevirtual 45, 3) := by decide +kernel
theorem dL_law_321 : decode cL_law 321 = .ok (.aload_n 2, 1) := by decide +kernel
theorem dL_law_322 : decode cL_law 322 = .ok (.invokevirtual 48, 3) := by decide +kernel
theorem dL_law_325 : decode cL_law 325 = .ok (.if_icmp .eq 226, 3) := by decide +kernel
theorem dL_law_328 : decode cL_law 328 = .ok (.iconst 0, 1) := by decide +kernel
theorem dL_law_329 : decode cL_law 329 = .ok (.ireturn, 1) := by decide +kernel
theorem dL_law_330 : decode cL_law 330 = .ok (.aload_n 1, 1) := by decide +kernel
theorem dL_law_331 : decode cL_law 331 = .ok (.aload_n 0, 1) := by decide +kernel
theorem dL_law_332 : decode cL_law 332 = .ok (.iload_n 3, 1) := by decide +kernel
theorem dL_law_333 : decode cL_law 333 = .ok (.iconst 1, 1) := by decide +kernel
theorem dL_law_334 : decode cL_law 334 = .ok (.iadd, 1) := by decide +kernel
theorem dL_law_335 : decode cL_law 335 = .ok (.iaload, 1) := by decide +kernel
theorem dL_law_336 : decode cL_law 336 = .ok (.aload_n 0, 1) := by decide +kernel
theorem dL_law_337 : decode cL_law 337 = .ok (.iload_n 3, 1) := by decide +kernel
theorem dL_law_338 : decode cL_law 338 = .ok (.iconst 2, 1) := by decide +kernel
theorem dL_law_339 : decode cL_law 339 = .ok (.iadd, 1) := by decide +kernel
theorem dL_law_340 : decode cL_law 340 = .ok (.iaload, 1) := by decide +kernel
theorem dL_law_341 : decode cL_law 341 = .ok (.invokevirtual 49, 3) := by decide +kernel
theorem dL_law_344 : decode cL_law 344 = .ok (.aload_n 2, 1) := by decide +kernel
theorem dL_law_345 : decode cL_law 345 = .ok (.aload_n 0, 1) := by decide +kernel
theorem dL_law_346 : decode cL_law 346 = .ok (.iload_n 3, 1) := by decide +kernel
theorem dL_law_347 : decode cL_law 347 = .ok (.iconst 1, 1) := by decide +kernel
theorem dL_law_348 : decode cL_law 348 = .ok (.iadd, 1) := by decide +kernel
theorem dL_law_349 : decode cL_law 349 = .ok (.iaload, 1) := by decide +kernel
theorem dL_law_350 : decode cL_law 350 = .ok (.aload_n 0, 1) := by decide +kernel
theorem dL_law_351 : decode cL_law 351 = .ok (.iload_n 3, 1) := by decide +kernel
theorem dL_law_352 : decode cL_law 352 = .ok (.iconst 2, 1) := by decide +kernel
theorem dL_law_353 : decode cL_law 353 = .ok (.iadd, 1) := by decide +kernel
theorem dL_law_354 : decode cL_law 354 = .ok (.iaload, 1) := by decide +kernel
theorem dL_law_355 : decode cL_law 355 = .ok (.invokevirtual 53, 3) := by decide +kernel
theorem dL_law_358 : decode cL_law 358 = .ok (.if_icmp .eq 193, 3) := by decide +kernel
theorem dL_law_361 : decode cL_law 361 = .ok (.iconst 0, 1) := by decide +kernel
theorem dL_law_362 : decode cL_law 362 = .ok (.ireturn, 1) := by decide +kernel
theorem dL_law_363 : decode cL_law 363 = .ok (.aload_n 1, 1) := by decide +kernel
theorem dL_law_364 : decode cL_law 364 = .ok (.aload_n 0, 1) := by decide +kernel
theorem dL_law_365 : decode cL_law 365 = .ok (.iload_n 3, 1) := by decide +kernel
theorem dL_law_366 : decode cL_law 366 = .ok (.iconst 1, 1) := by decide +kernel
theorem dL_law_367 : decode cL_law 367 = .ok (.iadd, 1) := by decide +kernel
theorem dL_law_368 : decode cL_law 368 = .ok (.iaload, 1) := by decide +kernel
theorem dL_law_369 : decode cL_law 369 = .ok (.aload_n 0, 1) := by decide +kernel
theorem dL_law_370 : decode cL_law 370 = .ok (.iload_n 3, 1) := by decide +kernel
theorem dL_law_371 : decode cL_law 371 = .ok (.iconst 2, 1) := by decide +kernel
theorem dL_law_372 : decode cL_law 372 = .ok (.iadd, 1) := by decide +kernel
theorem dL_law_373 : decode cL_law 373 = .ok (.iaload, 1) := by decide +kernel
theorem dL_law_374 : decode cL_law 374 = .ok (.invokevirtual 54, 3) := by decide +kernel
theorem dL_law_377 : decode cL_law 377 = .ok (.aload_n 2, 1) := by decide +kernel
theorem dL_law_378 : decode cL_law 378 = .ok (.aload_n 0, 1) := by decide +kernel
theorem dL_law_379 : decode cL_law 379 = .ok (.iload_n 3, 1) := by decide +kernel
theorem dL_law_380 : decode cL_law 380 = .ok (.iconst 1, 1) := by decide +kernel
theorem dL_law_381 : decode cL_law 381 = .ok (.iadd, 1) := by decide +kernel
theorem dL_law_382 : decode cL_law 382 = .ok (.iaload, 1) := by decide +kernel
theorem dL_law_383 : decode cL_law 383 = .ok (.aload_n 0, 1) := by decide +kernel
theorem dL_law_384 : decode cL_law 384 = .ok (.iload_n 3, 1) := by decide +kernel
theorem dL_law_385 : decode cL_law 385 = .ok (.iconst 2, 1) := by decide +kernel
theorem dL_law_386 : decode cL_law 386 = .ok (.iadd, 1) := by decide +kernel
theorem dL_law_387 : decode cL_law 387 = .ok (.iaload, 1) := by decide +kernel
theorem dL_law_388 : decode cL_law 388 = .ok (.invokevirtual 57, 3) := by decide +kernel
theorem dL_law_391 : decode cL_law 391 = .ok (.if_icmp .eq 160, 3) := by decide +kernel
theorem dL_law_394 : decode cL_law 394 = .ok (.iconst 0, 1) := by decide +kernel
theorem dL_law_395 : decode cL_law 395 = .ok (.ireturn, 1) := by decide +kernel
theorem dL_law_396 : decode cL_law 396 = .ok (.aload_n 1, 1) := by decide +kernel
theorem dL_law_397 : decode cL_law 397 = .ok (.aload_n 0, 1) := by decide +kernel
theorem dL_law_398 : decode cL_law 398 = .ok (.iload_n 3, 1) := by decide +kernel
theorem dL_law_399 : decode cL_law 399 = .ok (.iconst 1, 1) := by decide +kernel
theorem dL_law_400 : decode cL_law 400 = .ok (.iadd, 1) := by decide +kernel
theorem dL_law_401 : decode cL_law 401 = .ok (.iaload, 1) := by decide +kernel
theorem dL_law_402 : decode cL_law 402 = .ok (.invokevirtual 58, 3) := by decide +kernel
theorem dL_law_405 : decode cL_law 405 = .ok (.aload_n 2, 1) := by decide +kernel
theorem dL_law_406 : decode cL_law 406 = .ok (.aload_n 0, 1) := by decide +kernel
theorem dL_law_407 : decode cL_law 407 = .ok (.iload_n 3, 1) := by decide +kernel
theorem dL_law_408 : decode cL_law 408 = .ok (.iconst 1, 1) := by decide +kernel
theorem dL_law_409 : decode cL_law 409 = .ok (.iadd, 1) := by decide +kernel
theorem dL_law_410 : decode cL_law 410 = .ok (.iaload, 1) := by decide +kernel
theorem dL_law_411 : decode cL_law 411 = .ok (.invokevirtual 61, 3) := by decide +kernel
theorem dL_law_414 : decode cL_law 414 = .ok (.if_icmp .eq 137, 3) := by decide +kernel
theorem dL_law_417 : decode cL_law 417 = .ok (.iconst 0, 1) := by decide +kernel
theorem dL_law_418 : decode cL_law 418 = .ok (.ireturn, 1) := by decide +kernel
theorem dL_law_419 : decode cL_law 419 = .ok (.aload_n 1, 1) := by decide +kernel
theorem dL_law_420 : decode cL_law 420 = .ok (.aload_n 0, 1) := by decide +kernel
theorem dL_law_421 : decode cL_law 421 = .ok (.iload_n 3, 1) := by decide +kernel
theorem dL_law_422 : decode cL_law 422 = .ok (.iconst 1, 1) := by decide +kernel
theorem dL_law_423 : decode cL_law 423 = .ok (.iadd, 1) := by decide +kernel
theorem dL_law_424 : decode cL_law 424 = .ok (.iaload, 1) := by decide +kernel
theorem dL_law_425 : decode cL_law 425 = .ok (.aload_n 0, 1) := by decide +kernel
theorem dL_law_426 : decode cL_law 426 = .ok (.iload_n 3, 1) := by decide +kernel
theorem dL_law_427 : decode cL_law 427 = .ok (.iconst 2, 1) := by decide +kernel
theorem dL_law_428 : decode cL_law 428 = .ok (.iadd, 1) := by decide +kernel
theorem dL_law_429 : decode cL_law 429 = .ok (.iaload, 1) := by decide +kernel
theorem dL_law_430 : decode cL_law 430 = .ok (.aload_n 0, 1) := by decide +kernel
theorem dL_law_431 : decode cL_law 431 = .ok (.iload_n 3, 1) := by decide +kernel
theorem dL_law_432 : decode cL_law 432 = .ok (.iconst 3, 1) := by decide +kernel
theorem dL_law_433 : decode cL_law 433 = .ok (.iadd, 1) := by decide +kernel
theorem dL_law_434 : decode cL_law 434 = .ok (.iaload, 1) := by decide +kernel
theorem dL_law_435 : decode cL_law 435 = .ok (.invokevirtual 62, 3) := by decide +kernel
theorem dL_law_438 : decode cL_law 438 = .ok (.aload_n 2, 1) := by decide +kernel
theorem dL_law_439 : decode cL_law 439 = .ok (.aload_n 0, 1) := by decide +kernel
theorem dL_law_440 : decode cL_law 440 = .ok (.iload_n 3, 1) := by decide +kernel
theorem dL_law_441 : decode cL_law 441 = .ok (.iconst 1, 1) := by decide +kernel
theorem dL_law_442 : decode cL_law 442 = .ok (.iadd, 1) := by decide +kernel
theorem dL_law_443 : decode cL_law 443 = .ok (.iaload, 1) := by decide +kernel
theorem dL_law_444 : decode cL_law 444 = .ok (.aload_n 0, 1) := by decide +kernel
theorem dL_law_445 : decode cL_law 445 = .ok (.iload_n 3, 1) := by decide +kernel
theorem dL_law_446 : decode cL_law 446 = .ok (.iconst 2, 1) := by decide +kernel
theorem dL_law_447 : decode cL_law 447 = .ok (.iadd, 1) := by decide +kernel
theorem dL_law_448 : decode cL_law 448 = .ok (.iaload, 1) := by decide +kernel
theorem dL_law_449 : decode cL_law 449 = .ok (.aload_n 0, 1) := by decide +kernel
theorem dL_law_450 : decode cL_law 450 = .ok (.iload_n 3, 1) := by decide +kernel
theorem dL_law_451 : decode cL_law 451 = .ok (.iconst 3, 1) := by decide +kernel
theorem dL_law_452 : decode cL_law 452 = .ok (.iadd, 1) := by decide +kernel
theorem dL_law_453 : decode cL_law 453 = .ok (.iaload, 1) := by decide +kernel
theorem dL_law_454 : decode cL_law 454 = .ok (.invokevirtual 66, 3) := by decide +kernel
theorem dL_law_457 : decode cL_law 457 = .ok (.if_icmp .eq 94, 3) := by decide +kernel
theorem dL_law_460 : decode cL_law 460 = .ok (.iconst 0, 1) := by decide +kernel
theorem dL_law_461 : decode cL_law 461 = .ok (.ireturn, 1) := by decide +kernel
theorem dL_law_462 : decode cL_law 462 = .ok (.aload_n 1, 1) := by decide +kernel
theorem dL_law_463 : decode cL_law 463 = .ok (.aload_n 0, 1) := by decide +kernel
theorem dL_law_464 : decode cL_law 464 = .ok (.iload_n 3, 1) := by decide +kernel
theorem dL_law_465 : decode cL_law 465 = .ok (.iconst 1, 1) := by decide +kernel
theorem dL_law_466 : decode cL_law 466 = .ok (.iadd, 1) := by decide +kernel
theorem dL_law_467 : decode cL_law 467 = .ok (.iaload, 1) := by decide +kernel
theorem dL_law_468 : decode cL_law 468 = .ok (.aload_n 0, 1) := by decide +kernel
theorem dL_law_469 : decode cL_law 469 = .ok (.iload_n 3, 1) := by decide +kernel
theorem dL_law_470 : decode cL_law 470 = .ok (.iconst 2, 1) := by decide +kernel
theorem dL_law_471 : decode cL_law 471 = .ok (.iadd, 1) := by decide +kernel
theorem dL_law_472 : decode cL_law 472 = .ok (.iaload, 1) := by decide +kernel
theorem dL_law_473 : decode cL_law 473 = .ok (.aload_n 0, 1) := by decide +kernel
theorem dL_law_474 : decode cL_law 474 = .ok (.iload_n 3, 1) := by decide +kernel
theorem dL_law_475 : decode cL_law 475 = .ok (.iconst 3, 1) := by decide +kernel
theorem dL_law_476 : decode cL_law 476 = .ok (.iadd, 1) := by decide +kernel
theorem dL_law_477 : decode cL_law 477 = .ok (.iaload, 1) := by decide +kernel
theorem dL_law_478 : decode cL_law 478 = .ok (.invokevirtual 67, 3) := by decide +kernel
theorem dL_law_481 : decode cL_law 481 = .ok (.aload_n 2, 1) := by decide +kernel
theorem dL_law_482 : decode cL_law 482 = .ok (.aload_n 0, 1) := by decide +kernel
theorem dL_law_483 : decode cL_law 483 = .ok (.iload_n 3, 1) := by decide +kernel
theorem dL_law_484 : decode cL_law 484 = .ok (.iconst 1, 1) := by decide +kernel
theorem dL_law_485 : decode cL_law 485 = .ok (.iadd, 1) := by decide +kernel
theorem dL_law_486 : decode cL_law 486 = .ok (.iaload, 1) := by decide +kernel
theorem dL_law_487 : decode cL_law 487 = .ok (.aload_n 0, 1) := by decide +kernel
theorem dL_law_488 : decode cL_law 488 = .ok (.iload_n 3, 1) := by decide +kernel
theorem dL_law_489 : decode cL_law 489 = .ok (.iconst 2, 1) := by decide +kernel
theorem dL_law_490 : decode cL_law 490 = .ok (.iadd, 1) := by decide +kernel
theorem dL_law_491 : decode cL_law 491 = .ok (.iaload, 1) := by decide +kernel
theorem dL_law_492 : decode cL_law 492 = .ok (.aload_n 0, 1) := by decide +kernel
theorem dL_law_493 : decode cL_law 493 = .ok (.iload_n 3, 1) := by decide +kernel
theorem dL_law_494 : decode cL_law 494 = .ok (.iconst 3, 1) := by decide +kernel
theorem dL_law_495 : decode cL_law 495 = .ok (.iadd, 1) := by decide +kernel
theorem dL_law_496 : decode cL_law 496 = .ok (.iaload, 1) := by decide +kernel
theorem dL_law_497 : decode cL_law 497 = .ok (.invokevirtual 70, 3) := by decide +kernel
theorem dL_law_500 : decode cL_law 500 = .ok (.if_icmp .eq 51, 3) := by decide +kernel
theorem dL_law_503 : decode cL_law 503 = .ok (.iconst 0, 1) := by decide +kernel
theorem dL_law_504 : decode cL_law 504 = .ok (.ireturn, 1) := by decide +kernel
theorem dL_law_505 : decode cL_law 505 = .ok (.aload_n 1, 1) := by decide +kernel
theorem dL_law_506 : decode cL_law 506 = .ok (.aload_n 0, 1) := by decide +kernel
theorem dL_law_507 : decode cL_law 507 = .ok (.iload_n 3, 1) := by decide +kernel
theorem dL_law_508 : decode cL_law 508 = .ok (.iconst 1, 1) := by decide +kernel
theorem dL_law_509 : decode cL_law 509 = .ok (.iadd, 1) := by decide +kernel
theorem dL_law_510 : decode cL_law 510 = .ok (.iaload, 1) := by decide +kernel
theorem dL_law_511 : decode cL_law 511 = .ok (.aload_n 0, 1) := by decide +kernel
theorem dL_law_512 : decode cL_law 512 = .ok (.iload_n 3, 1) := by decide +kernel
theorem dL_law_513 : decode cL_law 513 = .ok (.iconst 2, 1) := by decide +kernel
theorem dL_law_514 : decode cL_law 514 = .ok (.iadd, 1) := by decide +kernel
theorem dL_law_515 : decode cL_law 515 = .ok (.iaload, 1) := by decide +kernel
theorem dL_law_516 : decode cL_law 516 = .ok (.invokevirtual 71, 3) := by decide +kernel
theorem dL_law_519 : decode cL_law 519 = .ok (.aload_n 2, 1) := by decide +kernel
theorem dL_law_520 : decode cL_law 520 = .ok (.aload_n 0, 1) := by decide +kernel
theorem dL_law_521 : decode cL_law 521 = .ok (.iload_n 3, 1) := by decide +kernel
theorem dL_law_522 : decode cL_law 522 = .ok (.iconst 1, 1) := by decide +kernel
theorem dL_law_523 : decode cL_law 523 = .ok (.iadd, 1) := by decide +kernel
theorem dL_law_524 : decode cL_law 524 = .ok (.iaload, 1) := by decide +kernel
theorem dL_law_525 : decode cL_law 525 = .ok (.aload_n 0, 1) := by decide +kernel
theorem dL_law_526 : decode cL_law 526 = .ok (.iload_n 3, 1) := by decide +kernel
theorem dL_law_527 : decode cL_law 527 = .ok (.iconst 2, 1) := by decide +kernel
theorem dL_law_528 : decode cL_law 528 = .ok (.iadd, 1) := by decide +kernel
theorem dL_law_529 : decode cL_law 529 = .ok (.iaload, 1) := by decide +kernel
theorem dL_law_530 : decode cL_law 530 = .ok (.invokevirtual 74, 3) := by decide +kernel
theorem dL_law_533 : decode cL_law 533 = .ok (.if_icmp .eq 18, 3) := by decide +kernel
theorem dL_law_536 : decode cL_law 536 = .ok (.iconst 0, 1) := by decide +kernel
theorem dL_law_537 : decode cL_law 537 = .ok (.ireturn, 1) := by decide +kernel
theorem dL_law_538 : decode cL_law 538 = .ok (.aload_n 1, 1) := by decide +kernel
theorem dL_law_539 : decode cL_law 539 = .ok (.invokevirtual 75, 3) := by decide +kernel
theorem dL_law_542 : decode cL_law 542 = .ok (.aload_n 2, 1) := by decide +kernel
theorem dL_law_543 : decode cL_law 543 = .ok (.invokevirtual 78, 3) := by decide +kernel
theorem dL_law_546 : decode cL_law 546 = .ok (.if_icmp .eq 5, 3) := by decide +kernel
theorem dL_law_549 : decode cL_law 549 = .ok (.iconst 0, 1) := by decide +kernel
theorem dL_law_550 : decode cL_law 550 = .ok (.ireturn, 1) := by decide +kernel
theorem dL_law_551 : decode cL_law 551 = .ok (.iinc 3 6, 3) := by decide +kernel
theorem dL_law_554 : decode cL_law 554 = .ok (.goto (-496), 3) := by decide +kernel
theorem dL_law_557 : decode cL_law 557 = .ok (.iconst 1, 1) := by decide +kernel
theorem dL_law_558 : decode cL_law 558 = .ok (.ireturn, 1) := by decide +kernel
end
section
theorem dX8_init_0 : decode cX8_init 0 = .ok (.aload_n 0, 1) := by decide +kernel
theorem dX8_init_1 : decode cX8_init 1 = .ok (.invokespecial 1, 3) := by decide +kernel
theorem dX8_init_4 : decode cX8_init 4 = .ok (.aload_n 0, 1) := by decide +kernel
theorem dX8_init_5 : decode cX8_init 5 = .ok (.sipush 400, 3) := by decide +kernel
theorem dX8_init_8 : decode cX8_init 8 = .ok (.newarray .int, 2) := by decide +kernel
theorem dX8_init_10 : decode cX8_init 10 = .ok (.putfield 7, 3) := by decide +kernel
theorem dX8_init_13 : decode cX8_init 13 = .ok (.aload_n 0, 1) := by decide +kernel
theorem dX8_init_14 : decode cX8_init 14 = .ok (.sipush 400, 3) := by decide +kernel
theorem dX8_init_17 : decode cX8_init 17 = .ok (.newarray .int, 2) := by decide +kernel
theorem dX8_init_19 : decode cX8_init 19 = .ok (.putfield 13, 3) := by decide +kernel
theorem dX8_init_22 : decode cX8_init 22 = .ok (.aload_n 0, 1) := by decide +kernel
theorem dX8_init_23 : decode cX8_init 23 = .ok (.sipush 400, 3) := by decide +kernel
theorem dX8_init_26 : decode cX8_init 26 = .ok (.newarray .boolean, 2) := by decide +kernel
theorem dX8_init_28 : decode cX8_init 28 = .ok (.putfield 16, 3) := by decide +kernel
theorem dX8_init_31 : decode cX8_init 31 = .ok (.aload_n 0, 1) := by decide +kernel
theorem dX8_init_32 : decode cX8_init 32 = .ok (.sipush 400, 3) := by decide +kernel
theorem dX8_init_35 : decode cX8_init 35 = .ok (.newarray .int, 2) := by decide +kernel
theorem dX8_init_37 : decode cX8_init 37 = .ok (.putfield 20, 3) := by decide +kernel
theorem dX8_init_40 : decode cX8_init 40 = .ok (.aload_n 0, 1) := by decide +kernel
theorem dX8_init_41 : decode cX8_init 41 = .ok (.sipush 400, 3) := by decide +kernel
theorem dX8_init_44 : decode cX8_init 44 = .ok (.newarray .int, 2) := by decide +kernel
theorem dX8_init_46 : decode cX8_init 46 = .ok (.putfield 23, 3) := by decide +kernel
theorem dX8_init_49 : decode cX8_init 49 = .ok (.aload_n 0, 1) := by decide +kernel
theorem dX8_init_50 : decode cX8_init 50 = .ok (.sipush 400, 3) := by decide +kernel
theorem dX8_init_53 : decode cX8_init 53 = .ok (.newarray .int, 2) := by decide +kernel
theorem dX8_init_55 : decode cX8_init 55 = .ok (.putfield 26, 3) := by decide +kernel
theorem dX8_init_58 : decode cX8_init 58 = .ok (.aload_n 0, 1) := by decide +kernel
theorem dX8_init_59 : decode cX8_init 59 = .ok (.sipush 400, 3) := by decide +kernel
theorem dX8_init_62 : decode cX8_init 62 = .ok (.newarray .int, 2) := by decide +kernel
theorem dX8_init_64 : decode cX8_init 64 = .ok (.putfield 29, 3) := by decide +kernel
theorem dX8_init_67 : decode cX8_init 67 = .ok (.aload_n 0, 1) := by decide +kernel
theorem dX8_init_68 : decode cX8_init 68 = .ok (.sipush 400, 3) := by decide +kernel
theorem dX8_init_71 : decode cX8_init 71 = .ok (.newarray .int, 2) := by decide +kernel
theorem dX8_init_73 : decode cX8_init 73 = .ok (.putfield 32, 3) := by decide +kernel
theorem dX8_init_76 : decode cX8_init 76 = .ok (.aload_n 0, 1) := by decide +kernel
theorem dX8_init_77 : decode cX8_init 77 = .ok (.bipush 72, 2) := by decide +kernel
theorem dX8_init_79 : decode cX8_init 79 = .ok (.newarray .int, 2) := by decide +kernel
theorem dX8_init_81 : decode cX8_init 81 = .ok (.putfield 35, 3) := by decide +kernel
theorem dX8_init_84 : decode cX8_init 84 = .ok (.aload_n 0, 1) := by decide +kernel
theorem dX8_init_85 : decode cX8_init 85 = .ok (.bipush 9, 2) := by decide +kernel
theorem dX8_init_87 : decode cX8_init 87 = .ok (.newarray .boolean, 2) := by decide +kernel
theorem dX8_init_89 : decode cX8_init 89 = .ok (.putfield 38, 3) := by decide +kernel
theorem dX8_init_92 : decode cX8_init 92 = .ok (.aload_n 0, 1) := by decide +kernel
theorem dX8_init_93 : decode cX8_init 93 = .ok (.bipush 9, 2) := by decide +kernel
theorem dX8_init_95 : decode cX8_init 95 = .ok (.newarray .int, 2) := by decide +kernel
theorem dX8_init_97 : decode cX8_init 97 = .ok (.putfield 41, 3) := by decide +kernel
theorem dX8_init_100 : decode cX8_init 100 = .ok (.aload_n 0, 1) := by decide +kernel
theorem dX8_init_101 : decode cX8_init 101 = .ok (.bipush 36, 2) := by decide +kernel
theorem dX8_init_103 : decode cX8_init 103 = .ok (.newarray .int, 2) := by decide +kernel
theorem dX8_init_105 : decode cX8_init 105 = .ok (.putfield 44, 3) := by decide +kernel
theorem dX8_init_108 : decode cX8_init 108 = .ok (.aload_n 0, 1) := by decide +kernel
theorem dX8_init_109 : decode cX8_init 109 = .ok (.bipush 9, 2) := by decide +kernel
theorem dX8_init_111 : decode cX8_init 111 = .ok (.newarray .int, 2) := by decide +kernel
theorem dX8_init_113 : decode cX8_init 113 = .ok (.putfield 47, 3) := by decide +kernel
theorem dX8_init_116 : decode cX8_init 116 = .ok (.aload_n 0, 1) := by decide +kernel
theorem dX8_init_117 : decode cX8_init 117 = .ok (.bipush 9, 2) := by decide +kernel
theorem dX8_init_119 : decode cX8_init 119 = .ok (.newarray .int, 2) := by decide +kernel
theorem dX8_init_121 : decode cX8_init 121 = .ok (.putfield 50, 3) := by decide +kernel
theorem dX8_init_124 : decode cX8_init 124 = .ok (.aload_n 0, 1) := by decide +kernel
theorem dX8_init_125 : decode cX8_init 125 = .ok (.bipush 18, 2) := by decide +kernel
theorem dX8_init_127 : decode cX8_init 127 = .ok (.newarray .int, 2) := by decide +kernel
theorem dX8_init_129 : decode cX8_init 129 = .ok (.putfield 53, 3) := by decide +kernel
theorem dX8_init_132 : decode cX8_init 132 = .ok (.aload_n 0, 1) := by decide +kernel
theorem dX8_init_133 : decode cX8_init 133 = .ok (.bipush 9, 2) := by decide +kernel
theorem dX8_init_135 : decode cX8_init 135 = .ok (.newarray .int, 2) := by decide +kernel
theorem dX8_init_137 : decode cX8_init 137 = .ok (.putfield 56, 3) := by decide +kernel
theorem dX8_init_140 : decode cX8_init 140 = .ok (.aload_n 0, 1) := by decide +kernel
theorem dX8_init_141 : decode cX8_init 141 = .ok (.sipush 216, 3) := by decide +kernel
theorem dX8_init_144 : decode cX8_init 144 = .ok (.newarray .int, 2) := by decide +kernel
theorem dX8_init_146 : decode cX8_init 146 = .ok (.putfield 59, 3) := by decide +kernel
theorem dX8_init_149 : decode cX8_init 149 = .ok (.aload_n 0, 1) := by decide +kernel
theorem dX8_init_150 : decode cX8_init 150 = .ok (.sipush 864, 3) := by decide +kernel
theorem dX8_init_153 : decode cX8_init 153 = .ok (.newarray .int, 2) := by decide +kernel
theorem dX8_init_155 : decode cX8_init 155 = .ok (.putfield 62, 3) := by decide +kernel
theorem dX8_init_158 : decode cX8_init 158 = .ok (.aload_n 0, 1) := by decide +kernel
theorem dX8_init_159 : decode cX8_init 159 = .ok (.sipush 216, 3) := by decide +kernel
theorem dX8_init_162 : decode cX8_init 162 = .ok (.newarray .int, 2) := by decide +kernel
theorem dX8_init_164 : decode cX8_init 164 = .ok (.putfield 65, 3) := by decide +kernel
theorem dX8_init_167 : decode cX8_init 167 = .ok (.aload_n 0, 1) := by decide +kernel
theorem dX8_init_168 : decode cX8_init 168 = .ok (.sipush 216, 3) := by decide +kernel
theorem dX8_init_171 : decode cX8_init 171 = .ok (.newarray .int, 2) := by decide +kernel
theorem dX8_init_173 : decode cX8_init 173 = .ok (.putfield 68, 3) := by decide +kernel
theorem dX8_init_176 : decode cX8_init 176 = .ok (.aload_n 0, 1) := by decide +kernel
theorem dX8_init_177 : decode cX8_init 177 = .ok (.sipush 216, 3) := by decide +kernel
theorem dX8_init_180 : decode cX8_init 180 = .ok (.newarray .int, 2) := by decide +kernel
theorem dX8_init_182 : decode cX8_init 182 = .ok (.putfield 71, 3) := by decide +kernel
theorem dX8_init_185 : decode cX8_init 185 = .ok (.aload_n 0, 1) := by decide +kernel
theorem dX8_init_186 : decode cX8_init 186 = .ok (.sipush 180, 3) := by decide +kernel
theorem dX8_init_189 : decode cX8_init 189 = .ok (.newarray .int, 2) := by decide +kernel
theorem dX8_init_191 : decode cX8_init 191 = .ok (.putfield 74, 3) := by decide +kernel
theorem dX8_init_194 : decode cX8_init 194 = .ok (.aload_n 0, 1) := by decide +kernel
theorem dX8_init_195 : decode cX8_init 195 = .ok (.sipush 180, 3) := by decide +kernel
theorem dX8_init_198 : decode cX8_init 198 = .ok (.newarray .int, 2) := by decide +kernel
theorem dX8_init_200 : decode cX8_init 200 = .ok (.putfield 77, 3) := by decide +kernel
theorem dX8_init_203 : decode cX8_init 203 = .ok (.aload_n 0, 1) := by decide +kernel
theorem dX8_init_204 : decode cX8_init 204 = .ok (.sipush 180, 3) := by decide +kernel
theorem dX8_init_207 : decode cX8_init 207 = .ok (.newarray .boolean, 2) := by decide +kernel
theorem dX8_init_209 : decode cX8_init 209 = .ok (.putfield 80, 3) := by decide +kernel
theorem dX8_init_212 : decode cX8_init 212 = .ok (.aload_n 0, 1) := by decide +kernel
theorem dX8_init_213 : decode cX8_init 213 = .ok (.sipush 180, 3) := by decide +kernel
theorem dX8_init_216 : decode cX8_init 216 = .ok (.newarray .int, 2) := by decide +kernel
theorem dX8_init_218 : decode cX8_init 218 = .ok (.putfield 83, 3) := by decide +kernel
theorem dX8_init_221 : decode cX8_init 221 = .ok (.aload_n 0, 1) := by decide +kernel
theorem dX8_init_222 : decode cX8_init 222 = .ok (.bipush 45, 2) := by decide +kernel
theorem dX8_init_224 : decode cX8_init 224 = .ok (.newarray .int, 2) := by decide +kernel
theorem dX8_init_226 : decode cX8_init 226 = .ok (.putfield 86, 3) := by decide +kernel
theorem dX8_init_229 : decode cX8_init 229 = .ok (.aload_n 0, 1) := by decide +kernel
theorem dX8_init_230 : decode cX8_init 230 = .ok (.bipush 45, 2) := by decide +kernel
theorem dX8_init_232 : decode cX8_init 232 = .ok (.newarray .int, 2) := by decide +kernel
theorem dX8_init_234 : decode cX8_init 234 = .ok (.putfield 89, 3) := by decide +kernel
theorem dX8_init_237 : decode cX8_init 237 = .ok (.aload_n 0, 1) := by decide +kernel
theorem dX8_init_238 : decode cX8_init 238 = .ok (.iconst 5, 1) := by decide +kernel
theorem dX8_init_239 : decode cX8_init 239 = .ok (.newarray .int, 2) := by decide +kernel
theorem dX8_init_241 : decode cX8_init 241 = .ok (.putfield 92, 3) := by decide +kernel
theorem dX8_init_244 : decode cX8_init 244 = .ok (.aload_n 0, 1) := by decide +kernel
theorem dX8_init_245 : decode cX8_init 245 = .ok (.iload_n 1, 1) := by decide +kernel
theorem dX8_init_246 : decode cX8_init 246 = .ok (.iconst 1, 1) := by decide +kernel
theorem dX8_init_247 : decode cX8_init 247 = .ok (.if_icmp .ge 7, 3) := by decide +kernel
theorem dX8_init_250 : decode cX8_init 250 = .ok (.iconst 1, 1) := by decide +kernel
theorem dX8_init_251 : decode cX8_init 251 = .ok (.goto 13, 3) := by decide +kernel
theorem dX8_init_254 : decode cX8_init 254 = .ok (.iload_n 1, 1) := by decide +kernel
theorem dX8_init_255 : decode cX8_init 255 = .ok (.iconst 3, 1) := by decide +kernel
theorem dX8_init_256 : decode cX8_init 256 = .ok (.if_icmp .le 7, 3) := by decide +kernel
theorem dX8_init_259 : decode cX8_init 259 = .ok (.iconst 3, 1) := by decide +kernel
theorem dX8_init_260 : decode cX8_init 260 = .ok (.goto 4, 3) := by decide +kernel
theorem dX8_init_263 : decode cX8_init 263 = .ok (.iload_n 1, 1) := by decide +kernel
theorem dX8_init_264 : decode cX8_init 264 = .ok (.putfield 95, 3) := by decide +kernel
theorem dX8_init_267 : decode cX8_init 267 = .ok (.aload_n 0, 1) := by decide +kernel
theorem dX8_init_268 : decode cX8_init 268 = .ok (.iload_n 2, 1) := by decide +kernel
theorem dX8_init_269 : decode cX8_init 269 = .ok (.iconst 1, 1) := by decide +kernel
theorem dX8_init_270 : decode cX8_init 270 = .ok (.if_icmp .ge 7, 3) := by decide +kernel
theorem dX8_init_273 : decode cX8_init 273 = .ok (.iconst 1, 1) := by decide +kernel
theorem dX8_init_274 : decode cX8_init 274 = .ok (.goto 13, 3) := by decide +kernel
theorem dX8_init_277 : decode cX8_init 277 = .ok (.iload_n 2, 1) := by decide +kernel
theorem dX8_init_278 : decode cX8_init 278 = .ok (.iconst 3, 1) := by decide +kernel
theorem dX8_init_279 : decode cX8_init 279 = .ok (.if_icmp .le 7, 3) := by decide +kernel
theorem dX8_init_282 : decode cX8_init 282 = .ok (.iconst 3, 1) := by decide +kernel
theorem dX8_init_283 : decode cX8_init 283 = .ok (.goto 4, 3) := by decide +kernel
theorem dX8_init_286 : decode cX8_init 286 = .ok (.iload_n 2, 1) := by decide +kernel
theorem dX8_init_287 : decode cX8_init 287 = .ok (.putfield 99, 3) := by decide +kernel
theorem dX8_init_290 : decode cX8_init 290 = .ok (.aload_n 0, 1) := by decide +kernel
theorem dX8_init_291 : decode cX8_init 291 = .ok (.iload_n 3, 1) := by decide +kernel
theorem dX8_init_292 : decode cX8_init 292 = .ok (.iconst 1, 1) := by decide +kernel
theorem dX8_init_293 : decode cX8_init 293 = .ok (.if_icmp .ge 7, 3) := by decide +kernel
theorem dX8_init_296 : decode cX8_init 296 = .ok (.iconst 1, 1) := by decide +kernel
theorem dX8_init_297 : decode cX8_init 297 = .ok (.goto 13, 3) := by decide +kernel
theorem dX8_init_300 : decode cX8_init 300 = .ok (.iload_n 3, 1) := by decide +kernel
theorem dX8_init_301 : decode cX8_init 301 = .ok (.iconst 4, 1) := by decide +kernel
theorem dX8_init_302 : decode cX8_init 302 = .ok (.if_icmp .le 7, 3) := by decide +kernel
theorem dX8_init_305 : decode cX8_init 305 = .ok (.iconst 4, 1) := by decide +kernel
theorem dX8_init_306 : decode cX8_init 306 = .ok (.goto 4, 3) := by decide +kernel
theorem dX8_init_309 : decode cX8_init 309 = .ok (.iload_n 3, 1) := by decide +kernel
theorem dX8_init_310 : decode cX8_init 310 = .ok (.putfield 102, 3) := by decide +kernel
theorem dX8_init_313 : decode cX8_init 313 = .ok (.aload_n 0, 1) := by decide +kernel
theorem dX8_init_314 : decode cX8_init 314 = .ok (.iload 4, 2) := by decide +kernel
theorem dX8_init_316 : decode cX8_init 316 = .ok (.iconst 1, 1) := by decide +kernel
theorem dX8_init_317 : decode cX8_init 317 = .ok (.if_icmp .ge 7, 3) := by decide +kernel
theorem dX8_init_320 : decode cX8_init 320 = .ok (.iconst 1, 1) := by decide +kernel
theorem dX8_init_321 : decode cX8_init 321 = .ok (.goto 15, 3) := by decide +kernel
theorem dX8_init_324 : decode cX8_init 324 = .ok (.iload 4, 2) := by decide +kernel
theorem dX8_init_326 : decode cX8_init 326 = .ok (.iconst 2, 1) := by decide +kernel
theorem dX8_init_327 : decode cX8_init 327 = .ok (.if_icmp .le 7, 3) := by decide +kernel
theorem dX8_init_330 : decode cX8_init 330 = .ok (.iconst 2, 1) := by decide +kernel
theorem dX8_init_331 : decode cX8_init 331 = .ok (.goto 5, 3) := by decide +kernel
theorem dX8_init_334 : decode cX8_init 334 = .ok (.iload 4, 2) := by decide +kernel
theorem dX8_init_336 : decode cX8_init 336 = .ok (.putfield 105, 3) := by decide +kernel
theorem dX8_init_339 : decode cX8_init 339 = .ok (.aload_n 0, 1) := by decide +kernel
theorem dX8_init_340 : decode cX8_init 340 = .ok (.iconst 2, 1) := by decide +kernel
theorem dX8_init_341 : decode cX8_init 341 = .ok (.aload_n 0, 1) := by decide +kernel
theorem dX8_init_342 : decode cX8_init 342 = .ok (.getfield 105, 3) := by decide +kernel
theorem dX8_init_345 : decode cX8_init 345 = .ok (.imul, 1) := by decide +kernel
theorem dX8_init_346 : decode cX8_init 346 = .ok (.putfield 108, 3) := by decide +kernel
theorem dX8_init_349 : decode cX8_init 349 = .ok (.iconst 0, 1) := by decide +kernel
theorem dX8_init_350 : decode cX8_init 350 = .ok (.istore 5, 2) := by decide +kernel
theorem dX8_init_352 : decode cX8_init 352 = .ok (.iload 5, 2) := by decide +kernel
theorem dX8_init_354 : decode cX8_init 354 = .ok (.sipush 216, 3) := by decide +kernel
theorem dX8_init_357 : decode cX8_init 357 = .ok (.if_icmp .ge 28, 3) := by decide +kernel
theorem dX8_init_360 : decode cX8_init 360 = .ok (.aload_n 0, 1) := by decide +kernel
theorem dX8_init_361 : decode cX8_init 361 = .ok (.getfield 65, 3) := by decide +kernel
theorem dX8_init_364 : decode cX8_init 364 = .ok (.iload 5, 2) := by decide +kernel
theorem dX8_init_366 : decode cX8_init 366 = .ok (.iconst (-1), 1) := by decide +kernel
theorem dX8_init_367 : decode cX8_init 367 = .ok (.iastore, 1) := by decide +kernel
theorem dX8_init_368 : decode cX8_init 368 = .ok (.aload_n 0, 1) := by decide +kernel
theorem dX8_init_369 : decode cX8_init 369 = .ok (.getfield 68, 3) := by decide +kernel
theorem dX8_init_372 : decode cX8_init 372 = .ok (.iload 5, 2) := by decide +kernel
theorem dX8_init_374 : decode cX8_init 374 = .ok (.aload_n 0, 1) := by decide +kernel
theorem dX8_init_375 : decode cX8_init 375 = .ok (.getfield 102, 3) := by decide +kernel
theorem dX8_init_378 : decode cX8_init 378 = .ok (.iastore, 1) := by decide +kernel
theorem dX8_init_379 : decode cX8_init 379 = .ok (.iinc 5 1, 3) := by decide +kernel
theorem dX8_init_382 : decode cX8_init 382 = .ok (.goto (-30), 3) := by decide +kernel
theorem dX8_init_385 : decode cX8_init 385 = .ok (.return_, 1) := by decide +kernel
theorem dX8_nodes_0 : decode cX8_nodes 0 = .ok (.aload_n 0, 1) := by decide +kernel
theorem dX8_nodes_1 : decode cX8_nodes 1 = .ok (.getfield 95, 3) := by decide +kernel
theorem dX8_nodes_4 : decode cX8_nodes 4 = .ok (.aload_n 0, 1) := by decide +kernel
theorem dX8_nodes_5 : decode cX8_nodes 5 = .ok (.getfield 99, 3) := by decide +kernel
theorem dX8_nodes_8 : decode cX8_nodes 8 = .ok (.imul, 1) := by decide +kernel
theorem dX8_nodes_9 : decode cX8_nodes 9 = .ok (.ireturn, 1) := by decide +kernel
theorem dX8_isNode_0 : decode cX8_isNode 0 = .ok (.iload_n 1, 1) := by decide +kernel
theorem dX8_isNode_1 : decode cX8_isNode 1 = .ok (.ifCond .lt 20, 3) := by decide +kernel
theorem dX8_isNode_4 : decode cX8_isNode 4 = .ok (.iload_n 1, 1) := by decide +kernel
theorem dX8_isNode_5 : decode cX8_isNode 5 = .ok (.aload_n 0, 1) := by decide +kernel
theorem dX8_isNode_6 : decode cX8_isNode 6 = .ok (.getfield 95, 3) := by decide +kernel
theorem dX8_isNode_9 : decode cX8_isNode 9 = .ok (.aload_n 0, 1) := by decide +kernel
theorem dX8_isNode_10 : decode cX8_isNode 10 = .ok (.getfield 99, 3) := by decide +kernel
theorem dX8_isNode_13 : decode cX8_isNode 13 = .ok (.imul, 1) := by decide +kernel
theorem dX8_isNode_14 : decode cX8_isNode 14 = .ok (.if_icmp .ge 7, 3) := by decide +kernel
theorem dX8_isNode_17 : decode cX8_isNode 17 = .ok (.iconst 1, 1) := by decide +kernel
theorem dX8_isNode_18 : decode cX8_isNode 18 = .ok (.goto 4, 3) := by decide +kernel
theorem dX8_isNode_21 : decode cX8_isNode 21 = .ok (.iconst 0, 1) := by decide +kernel
theorem dX8_isNode_22 : decode cX8_isNode 22 = .ok (.ireturn, 1) := by decide +kernel
theorem dX8_isPlace_0 : decode cX8_isPlace 0 = .ok (.aload_n 0, 1) := by decide +kernel
theorem dX8_isPlace_1 : decode cX8_isPlace 1 = .ok (.iload_n 1, 1) := by decide +kernel
theorem dX8_isPlace_2 : decode cX8_isPlace 2 = .ok (.invokevirtual 111, 3) := by decide +kernel
theorem dX8_isPlace_5 : decode cX8_isPlace 5 = .ok (.ifCond .eq 28, 3) := by decide +kernel
theorem dX8_isPlace_8 : decode cX8_isPlace 8 = .ok (.iload_n 2, 1) := by decide +kernel
theorem dX8_isPlace_9 : decode cX8_isPlace 9 = .ok (.ifCond .lt 24, 3) := by decide +kernel
theorem dX8_isPlace_12 : decode cX8_isPlace 12 = .ok (.iload_n 2, 1) := by decide +kernel
theorem dX8_isPlace_13 : decode cX8_isPlace 13 = .ok (.iconst 4, 1) := by decide +kernel
theorem dX8_isPlace_14 : decode cX8_isPlace 14 = .ok (.if_icmp .gt 19, 3) := by decide +kernel
theorem dX8_isPlace_17 : decode cX8_isPlace 17 = .ok (.iload_n 3, 1) := by decide +kernel
theorem dX8_isPlace_18 : decode cX8_isPlace 18 = .ok (.ifCond .lt 15, 3) := by decide +kernel
theorem dX8_isPlace_21 : decode cX8_isPlace 21 = .ok (.iload_n 3, 1) := by decide +kernel
theorem dX8_isPlace_22 : decode cX8_isPlace 22 = .ok (.aload_n 0, 1) := by decide +kernel
theorem dX8_isPlace_23 : decode cX8_isPlace 23 = .ok (.getfield 108, 3) := by decide +kernel
theorem dX8_isPlace_26 : decode cX8_isPlace 26 = .ok (.if_icmp .ge 7, 3) := by decide +kernel
theorem dX8_isPlace_29 : decode cX8_isPlace 29 = .ok (.iconst 1, 1) := by decide +kernel
theorem dX8_isPlace_30 : decode cX8_isPlace 30 = .ok (.goto 4, 3) := by decide +kernel
theorem dX8_isPlace_33 : decode cX8_isPlace 33 = .ok (.iconst 0, 1) := by decide +kernel
theorem dX8_isPlace_34 : decode cX8_isPlace 34 = .ok (.ireturn, 1) := by decide +kernel
theorem dX8_length_0 : decode cX8_length 0 = .ok (.aload_n 0, 1) := by decide +kernel
theorem dX8_length_1 : decode cX8_length 1 = .ok (.getfield 16, 3) := by decide +kernel
theorem dX8_length_4 : decode cX8_length 4 = .ok (.iload_n 1, 1) := by decide +kernel
theorem dX8_length_5 : decode cX8_length 5 = .ok (.iconst 2, 1) := by decide +kernel
theorem dX8_length_6 : decode cX8_length 6 = .ok (.idiv, 1) := by decide +kernel
theorem dX8_length_7 : decode cX8_length 7 = .ok (.baload, 1) := by decide +kernel
theorem dX8_length_8 : decode cX8_length 8 = .ok (.istore_n 2, 1) := by decide +kernel
theorem dX8_length_9 : decode cX8_length 9 = .ok (.iload_n 1, 1) := by decide +kernel
theorem dX8_length_10 : decode cX8_length 10 = .ok (.iconst 2, 1) := by decide +kernel
theorem dX8_length_11 : decode cX8_length 11 = .ok (.irem, 1) := by decide +kernel
theorem dX8_length_12 : decode cX8_length 12 = .ok (.ifCond .ne 15, 3) := by decide +kernel
theorem dX8_length_15 : decode cX8_length 15 = .ok (.iload_n 2, 1) := by decide +kernel
theorem dX8_length_16 : decode cX8_length 16 = .ok (.ifCond .eq 7, 3) := by decide +kernel
theorem dX8_length_19 : decode cX8_length 19 = .ok (.iconst 3, 1) := by decide +kernel
theorem dX8_length_20 : decode cX8_length 20 = .ok (.goto 16, 3) := by decide +kernel
theorem dX8_length_23 : decode cX8_length 23 = .ok (.iconst 2, 1) := by decide +kernel
theorem dX8_length_24 : decode cX8_length 24 = .ok (.goto 12, 3) := by decide +kernel
theorem dX8_length_27 : decode cX8_length 27 = .ok (.iload_n 2, 1) := by decide +kernel
theorem dX8_length_28 : decode cX8_length 28 = .ok (.ifCond .eq 7, 3) := by decide +kernel
theorem dX8_length_31 : decode cX8_length 31 = .ok (.iconst 1, 1) := by decide +kernel
theorem dX8_length_32 : decode cX8_length 32 = .ok (.goto 4, 3) := by decide +kernel
theorem dX8_length_35 : decode cX8_length 35 = .ok (.iconst 2, 1) := by decide +kernel
theorem dX8_length_36 : decode cX8_length 36 = .ok (.ireturn, 1) := by decide +kernel
theorem dX8_target_0 : decode cX8_target 0 = .ok (.iload_n 1, 1) := by decide +kernel
theorem dX8_target_1 : decode cX8_target 1 = .ok (.iconst 2, 1) := by decide +kernel
theorem dX8_target_2 : decode cX8_target 2 = .ok (.irem, 1) := by decide +kernel
theorem dX8_target_3 : decode cX8_target 3 = .ok (.ifCond .ne 14, 3) := by decide +kernel
theorem dX8_target_6 : decode cX8_target 6 = .ok (.aload_n 0, 1) := by decide +kernel
theorem dX8_target_7 : decode cX8_target 7 = .ok (.getfield 13, 3) := by decide +kernel
theorem dX8_target_10 : decode cX8_target 10 = .ok (.iload_n 1, 1) := by decide +kernel
theorem dX8_target_11 : decode cX8_target 11 = .ok (.iconst 2, 1) := by decide +kernel
theorem dX8_target_12 : decode cX8_target 12 = .ok (.idiv, 1) := by decide +kernel
theorem dX8_target_13 : decode cX8_target 13 = .ok (.iaload, 1) := by decide +kernel
theorem dX8_target_14 : decode cX8_target 14 = .ok (.goto 11, 3) := by decide +kernel
theorem dX8_target_17 : decode cX8_target 17 = .ok (.aload_n 0, 1) := by decide +kernel
theorem dX8_target_18 : decode cX8_target 18 = .ok (.getfield 7, 3) := by decide +kernel
theorem dX8_target_21 : decode cX8_target 21 = .ok (.iload_n 1, 1) := by decide +kernel
theorem dX8_target_22 : decode cX8_target 22 = .ok (.iconst 2, 1) := by decide +kernel
theorem dX8_target_23 : decode cX8_target 23 = .ok (.idiv, 1) := by decide +kernel
theorem dX8_target_24 : decode cX8_target 24 = .ok (.iaload, 1) := by decide +kernel
theorem dX8_target_25 : decode cX8_target 25 = .ok (.ireturn, 1) := by decide +kernel
theorem dX8_channelOf_0 : decode cX8_channelOf 0 = .ok (.aload_n 0, 1) := by decide +kernel
theorem dX8_channelOf_1 : decode cX8_channelOf 1 = .ok (.getfield 13, 3) := by decide +kernel
theorem dX8_channelOf_4 : decode cX8_channelOf 4 = .ok (.iload_n 1, 1) := by decide +kernel
theorem dX8_channelOf_5 : decode cX8_channelOf 5 = .ok (.iconst 2, 1) := by decide +kernel
theorem dX8_channelOf_6 : decode cX8_channelOf 6 = .ok (.idiv, 1) := by decide +kernel
theorem dX8_channelOf_7 : decode cX8_channelOf 7 = .ok (.iaload, 1) := by decide +kernel
theorem dX8_channelOf_8 : decode cX8_channelOf 8 = .ok (.aload_n 0, 1) := by decide +kernel
theorem dX8_channelOf_9 : decode cX8_channelOf 9 = .ok (.getfield 7, 3) := by decide +kernel
theorem dX8_channelOf_12 : decode cX8_channelOf 12 = .ok (.iload_n 1, 1) := by decide +kernel
theorem dX8_channelOf_13 : decode cX8_channelOf 13 = .ok (.iconst 2, 1) := by decide +kernel
theorem dX8_channelOf_14 : decode cX8_channelOf 14 = .ok (.idiv, 1) := by decide +kernel
theorem dX8_channelOf_15 : decode cX8_channelOf 15 = .ok (.iaload, 1) := by decide +kernel
theorem dX8_channelOf_16 : decode cX8_channelOf 16 = .ok (.iadd, 1) := by decide +kernel
theorem dX8_channelOf_17 : decode cX8_channelOf 17 = .ok (.aload_n 0, 1) := by decide +kernel
theorem dX8_channelOf_18 : decode cX8_channelOf 18 = .ok (.getfield 105, 3) := by decide +kernel
theorem dX8_channelOf_21 : decode cX8_channelOf 21 = .ok (.irem, 1) := by decide +kernel
theorem dX8_channelOf_22 : decode cX8_channelOf 22 = .ok (.iload_n 1, 1) := by decide +kernel
theorem dX8_channelOf_23 : decode cX8_channelOf 23 = .ok (.iconst 2, 1) := by decide +kernel
theorem dX8_channelOf_24 : decode cX8_channelOf 24 = .ok (.irem, 1) := by decide +kernel
theorem dX8_channelOf_25 : decode cX8_channelOf 25 = .ok (.aload_n 0, 1) := by decide +kernel
theorem dX8_channelOf_26 : decode cX8_channelOf 26 = .ok (.getfield 105, 3) := by decide +kernel
theorem dX8_channelOf_29 : decode cX8_channelOf 29 = .ok (.imul, 1) := by decide +kernel
theorem dX8_channelOf_30 : decode cX8_channelOf 30 = .ok (.iadd, 1) := by decide +kernel
theorem dX8_channelOf_31 : decode cX8_channelOf 31 = .ok (.ireturn, 1) := by decide +kernel
theorem dX8_isLast_0 : decode cX8_isLast 0 = .ok (.iload_n 1, 1) := by decide +kernel
theorem dX8_isLast_1 : decode cX8_isLast 1 = .ok (.iconst 4, 1) := by decide +kernel
theorem dX8_isLast_2 : decode cX8_isLast 2 = .ok (.irem, 1) := by decide +kernel
theorem dX8_isLast_3 : decode cX8_isLast 3 = .ok (.aload_n 0, 1) := by decide +kernel
theorem dX8_isLast_4 : decode cX8_isLast 4 = .ok (.iload_n 1, 1) := by decide +kernel
theorem dX8_isLast_5 : decode cX8_isLast 5 = .ok (.iconst 4, 1) := by decide +kernel
theorem dX8_isLast_6 : decode cX8_isLast 6 = .ok (.idiv, 1) := by decide +kernel
theorem dX8_isLast_7 : decode cX8_isLast 7 = .ok (.invokevirtual 115, 3) := by decide +kernel
theorem dX8_isLast_10 : decode cX8_isLast 10 = .ok (.iconst 1, 1) := by decide +kernel
theorem dX8_isLast_11 : decode cX8_isLast 11 = .ok (.isub, 1) := by decide +kernel
theorem dX8_isLast_12 : decode cX8_isLast 12 = .ok (.if_icmp .ne 7, 3) := by decide +kernel
theorem dX8_isLast_15 : decode cX8_isLast 15 = .ok (.iconst 1, 1) := by decide +kernel
theorem dX8_isLast_16 : decode cX8_isLast 16 = .ok (.goto 4, 3) := by decide +kernel
theorem dX8_isLast_19 : decode cX8_isLast 19 = .ok (.iconst 0, 1) := by decide +kernel
theorem dX8_isLast_20 : decode cX8_isLast 20 = .ok (.ireturn, 1) := by decide +kernel
theorem dX8_request_0 : decode cX8_request 0 = .ok (.aload_n 0, 1) := by decide +kernel
theorem dX8_request_1 : decode cX8_request 1 = .ok (.iload_n 1, 1) := by decide +kernel
theorem dX8_request_2 : decode cX8_request 2 = .ok (.invokevirtual 111, 3) := by decide +kernel
theorem dX8_request_5 : decode cX8_request 5 = .ok (.ifCond .eq 23, 3) := by decide +kernel
theorem dX8_request_8 : decode cX8_request 8 = .ok (.aload_n 0, 1) := by decide +kernel
theorem dX8_request_9 : decode cX8_request 9 = .ok (.iload_n 2, 1) := by decide +kernel
theorem dX8_request_10 : decode cX8_request 10 = .ok (.invokevirtual 111, 3) := by decide +kernel
theorem dX8_request_13 : decode cX8_request 13 = .ok (.ifCond .eq 15, 3) := by decide +kernel
theorem dX8_request_16 : decode cX8_request 16 = .ok (.iload 4, 2) := by decide +kernel
theorem dX8_request_18 : decode cX8_request 18 = .ok (.ifCond .lt 10, 3) := by decide +kernel
theorem dX8_request_21 : decode cX8_request 21 = .ok (.iload 4, 2) := by decide +kernel
theorem dX8_request_23 : decode cX8_request 23 = .ok (.bipush 7, 2) := by decide +kernel
theorem dX8_request_25 : decode cX8_request 25 = .ok (.if_icmp .le 5, 3) := by decide +kernel
theorem dX8_request_28 : decode cX8_request 28 = .ok (.iconst (-1), 1) := by decide +kernel
theorem dX8_request_29 : decode cX8_request 29 = .ok (.ireturn, 1) := by decide +kernel
theorem dX8_request_30 : decode cX8_request 30 = .ok (.aload_n 0, 1) := by decide +kernel
theorem dX8_request_31 : decode cX8_request 31 = .ok (.getfield 41, 3) := by decide +kernel
theorem dX8_request_34 : decode cX8_request 34 = .ok (.iload_n 1, 1) := by decide +kernel
theorem dX8_request_35 : decode cX8_request 35 = .ok (.iaload, 1) := by decide +kernel
theorem dX8_request_36 : decode cX8_request 36 = .ok (.iconst 4, 1) := by decide +kernel
theorem dX8_request_37 : decode cX8_request 37 = .ok (.if_icmp .eq 13, 3) := by decide +kernel
theorem dX8_request_40 : decode cX8_request 40 = .ok (.aload_n 0, 1) := by decide +kernel
theorem dX8_request_41 : decode cX8_request 41 = .ok (.getfield 119, 3) := by decide +kernel
theorem dX8_request_44 : decode cX8_request 44 = .ok (.sipush 400, 3) := by decide +kernel
theorem dX8_request_47 : decode cX8_request 47 = .ok (.if_icmp .ne 6, 3) := by decide +kernel
theorem dX8_request_50 : decode cX8_request 50 = .ok (.bipush (-2), 2) := by decide +kernel
theorem dX8_request_52 : decode cX8_request 52 = .ok (.ireturn, 1) := by decide +kernel
theorem dX8_request_53 : decode cX8_request 53 = .ok (.aload_n 0, 1) := by decide +kernel
theorem dX8_request_54 : decode cX8_request 54 = .ok (.getfield 7, 3) := by decide +kernel
theorem dX8_request_57 : decode cX8_request 57 = .ok (.aload_n 0, 1) := by decide +kernel
theorem dX8_request_58 : decode cX8_request 58 = .ok (.getfield 119, 3) := by decide +kernel
theorem dX8_request_61 : decode cX8_request 61 = .ok (.iload_n 1, 1) := by decide +kernel
theorem dX8_request_62 : decode cX8_request 62 = .ok (.iastore, 1) := by decide +kernel
theorem dX8_request_63 : decode cX8_request 63 = .ok (.aload_n 0, 1) := by decide +kernel
theorem dX8_request_64 : decode cX8_request 64 = .ok (.getfield 13, 3) := by decide +kernel
theorem dX8_request_67 : decode cX8_request 67 = .ok (.aload_n 0, 1) := by decide +kernel
theorem dX8_request_68 : decode cX8_request 68 = .ok (.getfield 119, 3) := by decide +kernel
theorem dX8_request_71 : decode cX8_request 71 = .ok (.iload_n 2, 1) := by decide +kernel
theorem dX8_request_72 : decode cX8_request 72 = .ok (.iastore, 1) := by decide +kernel
theorem dX8_request_73 : decode cX8_request 73 = .ok (.aload_n 0, 1) := by decide +kernel
theorem dX8_request_74 : decode cX8_request 74 = .ok (.getfield 16, 3) := by decide +kernel
theorem dX8_request_77 : decode cX8_request 77 = .ok (.aload_n 0, 1) := by decide +kernel
theorem dX8_request_78 : decode cX8_request 78 = .ok (.getfield 119, 3) := by decide +kernel
theorem dX8_request_81 : decode cX8_request 81 = .ok (.iload_n 3, 1) := by decide +kernel
theorem dX8_request_82 : decode cX8_request 82 = .ok (.bastore, 1) := by decide +kernel
theorem dX8_request_83 : decode cX8_request 83 = .ok (.aload_n 0, 1) := by decide +kernel
theorem dX8_request_84 : decode cX8_request 84 = .ok (.getfield 20, 3) := by decide +kernel
theorem dX8_request_87 : decode cX8_request 87 = .ok (.aload_n 0, 1) := by decide +kernel
theorem dX8_request_88 : decode cX8_request 88 = .ok (.getfield 119, 3) := by decide +kernel
theorem dX8_request_91 : decode cX8_request 91 = .ok (.iload 4, 2) := by decide +kernel
theorem dX8_request_93 : decode cX8_request 93 = .ok (.iastore, 1) := by decide +kernel
theorem dX8_request_94 : decode cX8_request 94 = .ok (.aload_n 0, 1) := by decide +kernel
theorem dX8_request_95 : decode cX8_request 95 = .ok (.getfield 23, 3) := by decide +kernel
theorem dX8_request_98 : decode cX8_request 98 = .ok (.aload_n 0, 1) := by decide +kernel
theorem dX8_request_99 : decode cX8_request 99 = .ok (.getfield 119, 3) := by decide +kernel
theorem dX8_request_102 : decode cX8_request 102 = .ok (.iload 5, 2) := by decide +kernel
theorem dX8_request_104 : decode cX8_request 104 = .ok (.iastore, 1) := by decide +kernel
theorem dX8_request_105 : decode cX8_request 105 = .ok (.aload_n 0, 1) := by decide +kernel
theorem dX8_request_106 : decode cX8_request 106 = .ok (.getfield 44, 3) := by decide +kernel
theorem dX8_request_109 : decode cX8_request 109 = .ok (.iconst 4, 1) := by decide +kernel
theorem dX8_request_110 : decode cX8_request 110 = .ok (.iload_n 1, 1) := by decide +kernel
theorem dX8_request_111 : decode cX8_request 111 = .ok (.imul, 1) := by decide +kernel
theorem dX8_request_112 : decode cX8_request 112 = .ok (.aload_n 0, 1) := by decide +kernel
theorem dX8_request_113 : decode cX8_request 113 = .ok (.getfield 41, 3) := by decide +kernel
theorem dX8_request_116 : decode cX8_request 116 = .ok (.iload_n 1, 1) := by decide +kernel
theorem dX8_request_117 : decode cX8_request 117 = .ok (.iaload, 1) := by decide +kernel
theorem dX8_request_118 : decode cX8_request 118 = .ok (.iadd, 1) := by decide +kernel
theorem dX8_request_119 : decode cX8_request 119 = .ok (.iconst 2, 1) := by decide +kernel
theorem dX8_request_120 : decode cX8_request 120 = .ok (.aload_n 0, 1) := by decide +kernel
theorem dX8_request_121 : decode cX8_request 121 = .ok (.getfield 119, 3) := by decide +kernel
theorem dX8_request_124 : decode cX8_request 124 = .ok (.imul, 1) := by decide +kernel
theorem dX8_request_125 : decode cX8_request 125 = .ok (.iastore, 1) := by decide +kernel
theorem dX8_request_126 : decode cX8_request 126 = .ok (.aload_n 0, 1) := by decide +kernel
theorem dX8_request_127 : decode cX8_request 127 = .ok (.getfield 41, 3) := by decide +kernel
theorem dX8_request_130 : decode cX8_request 130 = .ok (.iload_n 1, 1) := by decide +kernel
theorem dX8_request_131 : decode cX8_request 131 = .ok (.dup2, 1) := by decide +kernel
theorem dX8_request_132 : decode cX8_request 132 = .ok (.iaload, 1) := by decide +kernel
theorem dX8_request_133 : decode cX8_request 133 = .ok (.iconst 1, 1) := by decide +kernel
theorem dX8_request_134 : decode cX8_request 134 = .ok (.iadd, 1) := by decide +kernel
theorem dX8_request_135 : decode cX8_request 135 = .ok (.iastore, 1) := by decide +kernel
theorem dX8_request_136 : decode cX8_request 136 = .ok (.aload_n 0, 1) := by decide +kernel
theorem dX8_request_137 : decode cX8_request 137 = .ok (.dup, 1) := by decide +kernel
theorem dX8_request_138 : decode cX8_request 138 = .ok (.getfield 119, 3) := by decide +kernel
theorem dX8_request_141 : decode cX8_request 141 = .ok (.iconst 1, 1) := by decide +kernel
theorem dX8_request_142 : decode cX8_request 142 = .ok (.iadd, 1) := by decide +kernel
theorem dX8_request_143 : decode cX8_request 143 = .ok (.putfield 119, 3) := by decide +kernel
theorem dX8_request_146 : decode cX8_request 146 = .ok (.aload_n 0, 1) := by decide +kernel
theorem dX8_request_147 : decode cX8_request 147 = .ok (.getfield 119, 3) := by decide +kernel
theorem dX8_request_150 : decode cX8_request 150 = .ok (.iconst 1, 1) := by decide +kernel
theorem dX8_request_151 : decode cX8_request 151 = .ok (.isub, 1) := by decide +kernel
theorem dX8_request_152 : decode cX8_request 152 = .ok (.ireturn, 1) := by decide +kernel
theorem dX8_hold_0 : decode cX8_hold 0 = .ok (.aload_n 0, 1) := by decide +kernel
theorem dX8_hold_1 : decode cX8_hold 1 = .ok (.iload_n 1, 1) := by decide +kernel
theorem dX8_hold_2 : decode cX8_hold 2 = .ok (.invokevirtual 111, 3) := by decide +kernel
theorem dX8_hold_5 : decode cX8_hold 5 = .ok (.ifCond .ne 5, 3) := by decide +kernel
theorem dX8_hold_8 : decode cX8_hold 8 = .ok (.iconst 0, 1) := by decide +kernel
theorem dX8_hold_9 : decode cX8_hold 9 = .ok (.ireturn, 1) := by decide +kernel
theorem dX8_hold_10 : decode cX8_hold 10 = .ok (.aload_n 0, 1) := by decide +kernel
theorem dX8_hold_11 : decode cX8_hold 11 = .ok (.getfield 38, 3) := by decide +kernel
theorem dX8_hold_14 : decode cX8_hold 14 = .ok (.iload_n 1, 1) := by decide +kernel
theorem dX8_hold_15 : decode cX8_hold 15 = .ok (.iload_n 2, 1) := by decide +kernel
theorem dX8_hold_16 : decode cX8_hold 16 = .ok (.bastore, 1) := by decide +kernel
theorem dX8_hold_17 : decode cX8_hold 17 = .ok (.iconst 1, 1) := by decide +kernel
theorem dX8_hold_18 : decode cX8_hold 18 = .ok (.ireturn, 1) := by decide +kernel
theorem dX8_take_0 : decode cX8_take 0 = .ok (.aload_n 0, 1) := by decide +kernel
theorem dX8_take_1 : decode cX8_take 1 = .ok (.getfield 62, 3) := by decide +kernel
theorem dX8_take_4 : decode cX8_take 4 = .ok (.iconst 4, 1) := by decide +kernel
theorem dX8_take_5 : decode cX8_take 5 = .ok (.iload_n 1, 1) := by decide +kernel
theorem dX8_take_6 : decode cX8_take 6 = .ok (.imul, 1) := by decide +kernel
theorem dX8_take_7 : decode cX8_take 7 = .ok (.iaload, 1) := by decide +kernel
theorem dX8_take_8 : decode cX8_take 8 = .ok (.istore_n 2, 1) := by decide +kernel
theorem dX8_take_9 : decode cX8_take 9 = .ok (.aload_n 0, 1) := by decide +kernel
theorem dX8_take_10 : decode cX8_take 10 = .ok (.getfield 59, 3) := by decide +kernel
theorem dX8_take_13 : decode cX8_take 13 = .ok (.iload_n 1, 1) := by decide +kernel
theorem dX8_take_14 : decode cX8_take 14 = .ok (.dup2, 1) := by decide +kernel
theorem dX8_take_15 : decode cX8_take 15 = .ok (.iaload, 1) := by decide +kernel
theorem dX8_take_16 : decode cX8_take 16 = .ok (.iconst 1, 1) := by decide +kernel
theorem dX8_take_17 : decode cX8_take 17 = .ok (.isub, 1) := by decide +kernel
theorem dX8_take_18 : decode cX8_take 18 = .ok (.iastore, 1) := by decide +kernel
theorem dX8_take_19 : decode cX8_take 19 = .ok (.iconst 0, 1) := by decide +kernel
theorem dX8_take_20 : decode cX8_take 20 = .ok (.istore_n 3, 1) := by decide +kernel
theorem dX8_take_21 : decode cX8_take 21 = .ok (.iload_n 3, 1) := by decide +kernel
theorem dX8_take_22 : decode cX8_take 22 = .ok (.aload_n 0, 1) := by decide +kernel
theorem dX8_take_23 : decode cX8_take 23 = .ok (.getfield 59, 3) := by decide +kernel
theorem dX8_take_26 : decode cX8_take 26 = .ok (.iload_n 1, 1) := by decide +kernel
theorem dX8_take_27 : decode cX8_take 27 = .ok (.iaload, 1) := by decide +kernel
theorem dX8_take_28 : decode cX8_take 28 = .ok (.if_icmp .ge 31, 3) := by decide +kernel
theorem dX8_take_31 : decode cX8_take 31 = .ok (.aload_n 0, 1) := by decide +kernel
theorem dX8_take_32 : decode cX8_take 32 = .ok (.getfield 62, 3) := by decide +kernel
theorem dX8_take_35 : decode cX8_take 35 = .ok (.iconst 4, 1) := by decide +kernel
theorem dX8_take_36 : decode cX8_take 36 = .ok (.iload_n 1, 1) := by decide +kernel
theorem dX8_take_37 : decode cX8_take 37 = .ok (.imul, 1) := by decide +kernel
theorem dX8_take_38 : decode cX8_take 38 = .ok (.iload_n 3, 1) := by decide +kernel
theorem dX8_take_39 : decode cX8_take 39 = .ok (.iadd, 1) := by decide +kernel
theorem dX8_take_40 : decode cX8_take 40 = .ok (.aload_n 0, 1) := by decide +kernel
theorem dX8_take_41 : decode cX8_take 41 = .ok (.getfield 62, 3) := by decide +kernel
theorem dX8_take_44 : decode cX8_take 44 = .ok (.iconst 4, 1) := by decide +kernel
theorem dX8_take_45 : decode cX8_take 45 = .ok (.iload_n 1, 1) := by decide +kernel
theorem dX8_take_46 : decode cX8_take 46 = .ok (.imul, 1) := by decide +kernel
theorem dX8_take_47 : decode cX8_take 47 = .ok (.iload_n 3, 1) := by decide +kernel
theorem dX8_take_48 : decode cX8_take 48 = .ok (.iadd, 1) := by decide +kernel
theorem dX8_take_49 : decode cX8_take 49 = .ok (.iconst 1, 1) := by decide +kernel
theorem dX8_take_50 : decode cX8_take 50 = .ok (.iadd, 1) := by decide +kernel
theorem dX8_take_51 : decode cX8_take 51 = .ok (.iaload, 1) := by decide +kernel
theorem dX8_take_52 : decode cX8_take 52 = .ok (.iastore, 1) := by decide +kernel
theorem dX8_take_53 : decode cX8_take 53 = .ok (.iinc 3 1, 3) := by decide +kernel
theorem dX8_take_56 : decode cX8_take 56 = .ok (.goto (-35), 3) := by decide +kernel
theorem dX8_take_59 : decode cX8_take 59 = .ok (.aload_n 0, 1) := by decide +kernel
theorem dX8_take_60 : decode cX8_take 60 = .ok (.getfield 71, 3) := by decide +kernel
theorem dX8_take_63 : decode cX8_take 63 = .ok (.iload_n 1, 1) := by decide +kernel
theorem dX8_take_64 : decode cX8_take 64 = .ok (.dup2, 1) := by decide +kernel
theorem dX8_take_65 : decode cX8_take 65 = .ok (.iaload, 1) := by decide +kernel
theorem dX8_take_66 : decode cX8_take 66 = .ok (.iconst 1, 1) := by decide +kernel
theorem dX8_take_67 : decode cX8_take 67 = .ok (.iadd, 1) := by decide +kernel
theorem dX8_take_68 : decode cX8_take 68 = .ok (.iastore, 1) := by decide +kernel
theorem dX8_take_69 : decode cX8_take 69 = .ok (.iload_n 2, 1) := by decide +kernel
theorem dX8_take_70 : decode cX8_take 70 = .ok (.ireturn, 1) := by decide +kernel
theorem dX8_send_0 : decode cX8_send 0 = .ok (.aload_n 0, 1) := by decide +kernel
theorem dX8_send_1 : decode cX8_send 1 = .ok (.getfield 65, 3) := by decide +kernel
theorem dX8_send_4 : decode cX8_send 4 = .ok (.iload_n 1, 1) := by decide +kernel
theorem dX8_send_5 : decode cX8_send 5 = .ok (.iload_n 2, 1) := by decide +kernel
theorem dX8_send_6 : decode cX8_send 6 = .ok (.iastore, 1) := by decide +kernel
theorem dX8_send_7 : decode cX8_send 7 = .ok (.aload_n 0, 1) := by decide +kernel
theorem dX8_send_8 : decode cX8_send 8 = .ok (.getfield 68, 3) := by decide +kernel
theorem dX8_send_11 : decode cX8_send 11 = .ok (.iload_n 1, 1) := by decide +kernel
theorem dX8_send_12 : decode cX8_send 12 = .ok (.dup2, 1) := by decide +kernel
theorem dX8_send_13 : decode cX8_send 13 = .ok (.iaload, 1) := by decide +kernel
theorem dX8_send_14 : decode cX8_send 14 = .ok (.iconst 1, 1) := by decide +kernel
theorem dX8_send_15 : decode cX8_send 15 = .ok (.isub, 1) := by decide +kernel
theorem dX8_send_16 : decode cX8_send 16 = .ok (.iastore, 1) := by decide +kernel
theorem dX8_send_17 : decode cX8_send 17 = .ok (.aload_n 0, 1) := by decide +kernel
theorem dX8_send_18 : decode cX8_send 18 = .ok (.dup, 1) := by decide +kernel
theorem dX8_send_19 : decode cX8_send 19 = .ok (.getfield 122, 3) := by decide +kernel
theorem dX8_send_22 : decode cX8_send 22 = .ok (.iconst 1, 1) := by decide +kernel
theorem dX8_send_23 : decode cX8_send 23 = .ok (.iadd, 1) := by decide +kernel
theorem dX8_send_24 : decode cX8_send 24 = .ok (.putfield 122, 3) := by decide +kernel
theorem dX8_send_27 : decode cX8_send 27 = .ok (.return_, 1) := by decide +kernel
theorem dX8_arrive_0 : decode cX8_arrive 0 = .ok (.iconst 0, 1) := by decide +kernel
theorem dX8_arrive_1 : decode cX8_arrive 1 = .ok (.istore_n 1, 1) := by decide +kernel
theorem dX8_arrive_2 : decode cX8_arrive 2 = .ok (.iload_n 1, 1) := by decide +kernel
theorem dX8_arrive_3 : decode cX8_arrive 3 = .ok (.sipush 216, 3) := by decide +kernel
theorem dX8_arrive_6 : decode cX8_arrive 6 = .ok (.if_icmp .ge 82, 3) := by decide +kernel
theorem dX8_arrive_9 : decode cX8_arrive 9 = .ok (.aload_n 0, 1) := by decide +kernel
theorem dX8_arrive_10 : decode cX8_arrive 10 = .ok (.getfield 65, 3) := by decide +kernel
theorem dX8_arrive_13 : decode cX8_arrive 13 = .ok (.iload_n 1, 1) := by decide +kernel
theorem dX8_arrive_14 : decode cX8_arrive 14 = .ok (.iaload, 1) := by decide +kernel
theorem dX8_arrive_15 : decode cX8_arrive 15 = .ok (.ifCond .lt 41, 3) := by decide +kernel
theorem dX8_arrive_18 : decode cX8_arrive 18 = .ok (.aload_n 0, 1) := by decide +kernel
theorem dX8_arrive_19 : decode cX8_arrive 19 = .ok (.getfield 62, 3) := by decide +kernel
theorem dX8_arrive_22 : decode cX8_arrive 22 = .ok (.iconst 4, 1) := by decide +kernel
theorem dX8_arrive_23 : decode cX8_arrive 23 = .ok (.iload_n 1, 1) := by decide +kernel
theorem dX8_arrive_24 : decode cX8_arrive 24 = .ok (.imul, 1) := by decide +kernel
theorem dX8_arrive_25 : decode cX8_arrive 25 = .ok (.aload_n 0, 1) := by decide +kernel
theorem dX8_arrive_26 : decode cX8_arrive 26 = .ok (.getfield 59, 3) := by decide +kernel
theorem dX8_arrive_29 : decode cX8_arrive 29 = .ok (.iload_n 1, 1) := by decide +kernel
theorem dX8_arrive_30 : decode cX8_arrive 30 = .ok (.iaload, 1) := by decide +kernel
theorem dX8_arrive_31 : decode cX8_arrive 31 = .ok (.iadd, 1) := by decide +kernel
theorem dX8_arrive_32 : decode cX8_arrive 32 = .ok (.aload_n 0, 1) := by decide +kernel
theorem dX8_arrive_33 : decode cX8_arrive 33 = .ok (.getfield 65, 3) := by decide +kernel
theorem dX8_arrive_36 : decode cX8_arrive 36 = .ok (.iload_n 1, 1) := by decide +kernel
theorem dX8_arrive_37 : decode cX8_arrive 37 = .ok (.iaload, 1) := by decide +kernel
theorem dX8_arrive_38 : decode cX8_arrive 38 = .ok (.iastore, 1) := by decide +kernel
theorem dX8_arrive_39 : decode cX8_arrive 39 = .ok (.aload_n 0, 1) := by decide +kernel
theorem dX8_arrive_40 : decode cX8_arrive 40 = .ok (.getfield 59, 3) := by decide +kernel
theorem dX8_arrive_43 : decode cX8_arrive 43 = .ok (.iload_n 1, 1) := by decide +kernel
theorem dX8_arrive_44 : decode cX8_arrive 44 = .ok (.dup2, 1) := by decide +kernel
theorem dX8_arrive_45 : decode cX8_arrive 45 = .ok (.iaload, 1) := by decide +kernel
theorem dX8_arrive_46 : decode cX8_arrive 46 = .ok (.iconst 1, 1) := by decide +kernel
theorem dX8_arrive_47 : decode cX8_arrive 47 = .ok (.iadd, 1) := by decide +kernel
theorem dX8_arrive_48 : decode cX8_arrive 48 = .ok (.iastore, 1) := by decide +kernel
theorem dX8_arrive_49 : decode cX8_arrive 49 = .ok (.aload_n 0, 1) := by decide +kernel
theorem dX8_arrive_50 : decode cX8_arrive 50 = .ok (.getfield 65, 3) := by decide +kernel
theorem dX8_arrive_53 : decode cX8_arrive 53 = .ok (.iload_n 1, 1) := by decide +kernel
theorem dX8_arrive_54 : decode cX8_arrive 54 = .ok (.iconst (-1), 1) := by decide +kernel
theorem dX8_arrive_55 : decode cX8_arrive 55 = .ok (.iastore, 1) := by decide +kernel
theorem dX8_arrive_56 : decode cX8_arrive 56 = .ok (.aload_n 0, 1) := by decide +kernel
theorem dX8_arrive_57 : decode cX8_arrive 57 = .ok (.getfield 68, 3) := by decide +kernel
theorem dX8_arrive_60 : decode cX8_arrive 60 = .ok (.iload_n 1, 1) := by decide +kernel
theorem dX8_arrive_61 : decode cX8_arrive 61 = .ok (.aload_n 0, 1) := by decide +kernel
theorem dX8_arrive_62 : decode cX8_arrive 62 = .ok (.getfield 68, 3) := by decide +kernel
theorem dX8_arrive_65 : decode cX8_arrive 65 = .ok (.iload_n 1, 1) := by decide +kernel
theorem dX8_arrive_66 : decode cX8_arrive 66 = .ok (.iaload, 1) := by decide +kernel
theorem dX8_arrive_67 : decode cX8_arrive 67 = .ok (.aload_n 0, 1) := by decide +kernel
theorem dX8_arrive_68 : decode cX8_arrive 68 = .ok (.getfield 71, 3) := by decide +kernel
theorem dX8_arrive_71 : decode cX8_arrive 71 = .ok (.iload_n 1, 1) := by decide +kernel
theorem dX8_arrive_72 : decode cX8_arrive 72 = .ok (.iaload, 1) := by decide +kernel
theorem dX8_arrive_73 : decode cX8_arrive 73 = .ok (.iadd, 1) := by decide +kernel
theorem dX8_arrive_74 : decode cX8_arrive 74 = .ok (.iastore, 1) := by decide +kernel
theorem dX8_arrive_75 : decode cX8_arrive 75 = .ok (.aload_n 0, 1) := by decide +kernel
theorem dX8_arrive_76 : decode cX8_arrive 76 = .ok (.getfield 71, 3) := by decide +kernel
theorem dX8_arrive_79 : decode cX8_arrive 79 = .ok (.iload_n 1, 1) := by decide +kernel
theorem dX8_arrive_80 : decode cX8_arrive 80 = .ok (.iconst 0, 1) := by decide +kernel
theorem dX8_arrive_81 : decode cX8_arrive 81 = .ok (.iastore, 1) := by decide +kernel
theorem dX8_arrive_82 : decode cX8_arrive 82 = .ok (.iinc 1 1, 3) := by decide +kernel
theorem dX8_arrive_85 : decode cX8_arrive 85 = .ok (.goto (-83), 3) := by decide +kernel
theorem dX8_arrive_88 : decode cX8_arrive 88 = .ok (.return_, 1) := by decide +kernel
theorem dX8_beyond_0 : decode cX8_beyond 0 = .ok (.iload_n 2, 1) := by decide +kernel
theorem dX8_beyond_1 : decode cX8_beyond 1 = .ok (.ifCond .ne 13, 3) := by decide +kernel
theorem dX8_beyond_4 : decode cX8_beyond 4 = .ok (.sipush 180, 3) := by decide +kernel
theorem dX8_beyond_7 : decode cX8_beyond 7 = .ok (.iconst 4, 1) := by decide +kernel
theorem dX8_beyond_8 : decode cX8_beyond 8 = .ok (.iload_n 1, 1) := by decide +kernel
theorem dX8_beyond_9 : decode cX8_beyond 9 = .ok (.imul, 1) := by decide +kernel
theorem dX8_beyond_10 : decode cX8_beyond 10 = .ok (.iadd, 1) := by decide +kernel
theorem dX8_beyond_11 : decode cX8_beyond 11 = .ok (.iload_n 3, 1) := by decide +kernel
theorem dX8_beyond_12 : decode cX8_beyond 12 = .ok (.iadd, 1) := by decide +kernel
theorem dX8_beyond_13 : decode cX8_beyond 13 = .ok (.ireturn, 1) := by decide +kernel
theorem dX8_beyond_14 : decode cX8_beyond 14 = .ok (.iload_n 2, 1) := by decide +kernel
theorem dX8_beyond_15 : decode cX8_beyond 15 = .ok (.iconst 1, 1) := by decide +kernel
theorem dX8_beyond_16 : decode cX8_beyond 16 = .ok (.if_icmp .ne 9, 3) := by decide +kernel
theorem dX8_beyond_19 : decode cX8_beyond 19 = .ok (.iload_n 1, 1) := by decide +kernel
theorem dX8_beyond_20 : decode cX8_beyond 20 = .ok (.iconst 1, 1) := by decide +kernel
theorem dX8_beyond_21 : decode cX8_beyond 21 = .ok (.iadd, 1) := by decide +kernel
theorem dX8_beyond_22 : decode cX8_beyond 22 = .ok (.goto 34, 3) := by decide +kernel
theorem dX8_beyond_25 : decode cX8_beyond 25 = .ok (.iload_n 2, 1) := by decide +kernel
theorem dX8_beyond_26 : decode cX8_beyond 26 = .ok (.iconst 2, 1) := by decide +kernel
theorem dX8_beyond_27 : decode cX8_beyond 27 = .ok (.if_icmp .ne 9, 3) := by decide +kernel
theorem dX8_beyond_30 : decode cX8_beyond 30 = .ok (.iload_n 1, 1) := by decide +kernel
theorem dX8_beyond_31 : decode cX8_beyond 31 = .ok (.iconst 1, 1) := by decide +kernel
theorem dX8_beyond_32 : decode cX8_beyond 32 = .ok (.isub, 1) := by decide +kernel
theorem dX8_beyond_33 : decode cX8_beyond 33 = .ok (.goto 23, 3) := by decide +kernel
theorem dX8_beyond_36 : decode cX8_beyond 36 = .ok (.iload_n 2, 1) := by decide +kernel
theorem dX8_beyond_37 : decode cX8_beyond 37 = .ok (.iconst 3, 1) := by decide +kernel
theorem dX8_beyond_38 : decode cX8_beyond 38 = .ok (.if_icmp .ne 12, 3) := by decide +kernel
theorem dX8_beyond_41 : decode cX8_beyond 41 = .ok (.iload_n 1, 1) := by decide +kernel
theorem dX8_beyond_42 : decode cX8_beyond 42 = .ok (.aload_n 0, 1) := by decide +kernel
theorem dX8_beyond_43 : decode cX8_beyond 43 = .ok (.getfield 95, 3) := by decide +kernel
theorem dX8_beyond_46 : decode cX8_beyond 46 = .ok (.iadd, 1) := by decide +kernel
theorem dX8_beyond_47 : decode cX8_beyond 47 = .ok (.goto 9, 3) := by decide +kernel
theorem dX8_beyond_50 : decode cX8_beyond 50 = .ok (.iload_n 1, 1) := by decide +kernel
theorem dX8_beyond_51 : decode cX8_beyond 51 = .ok (.aload_n 0, 1) := by decide +kernel
theorem dX8_beyond_52 : decode cX8_beyond 52 = .ok (.getfield 95, 3) := by decide +kernel
theorem dX8_beyond_55 : decode cX8_beyond 55 = .ok (.isub, 1) := by decide +kernel
theorem dX8_beyond_56 : decode cX8_beyond 56 = .ok (.istore 4, 2) := by decide +kernel
theorem dX8_beyond_58 : decode cX8_beyond 58 = .ok (.iload_n 2, 1) := by decide +kernel
theorem dX8_beyond_59 : decode cX8_beyond 59 = .ok (.iconst 1, 1) := by decide +kernel
theorem dX8_beyond_60 : decode cX8_beyond 60 = .ok (.if_icmp .ne 7, 3) := by decide +kernel
theorem dX8_beyond_63 : decode cX8_beyond 63 = .ok (.iconst 2, 1) := by decide +kernel
theorem dX8_beyond_64 : decode cX8_beyond 64 = .ok (.goto 22, 3) := by decide +kernel
theorem dX8_beyond_67 : decode cX8_beyond 67 = .ok (.iload_n 2, 1) := by decide +kernel
theorem dX8_beyond_68 : decode cX8_beyond 68 = .ok (.iconst 2, 1) := by decide +kernel
theorem dX8_beyond_69 : decode cX8_beyond 69 = .ok (.if_icmp .ne 7, 3) := by decide +kernel
theorem dX8_beyond_72 : decode cX8_beyond 72 = .ok (.iconst 1, 1) := by decide +kernel
theorem dX8_beyond_73 : decode cX8_beyond 73 = .ok (.goto 13, 3) := by decide +kernel
theorem dX8_beyond_76 : decode cX8_beyond 76 = .ok (.iload_n 2, 1) := by decide +kernel
theorem dX8_beyond_77 : decode cX8_beyond 77 = .ok (.iconst 3, 1) := by decide +kernel
theorem dX8_beyond_78 : decode cX8_beyond 78 = .ok (.if_icmp .ne 7, 3) := by decide +kernel
theorem dX8_beyond_81 : decode cX8_beyond 81 = .ok (.iconst 4, 1) := by decide +kernel
theorem dX8_beyond_82 : decode cX8_beyond 82 = .ok (.goto 4, 3) := by decide +kernel
theorem dX8_beyond_85 : decode cX8_beyond 85 = .ok (.iconst 3, 1) := by decide +kernel
theorem dX8_beyond_86 : decode cX8_beyond 86 = .ok (.istore 5, 2) := by decide +kernel
theorem dX8_beyond_88 : decode cX8_beyond 88 = .ok (.iconst 4, 1) := by decide +kernel
theorem dX8_beyond_89 : decode cX8_beyond 89 = .ok (.iconst 5, 1) := by decide +kernel
theorem dX8_beyond_90 : decode cX8_beyond 90 = .ok (.iload 4, 2) := by decide +kernel
theorem dX8_beyond_92 : decode cX8_beyond 92 = .ok (.imul, 1) := by decide +kernel
theorem dX8_beyond_93 : decode cX8_beyond 93 = .ok (.iload 5, 2) := by decide +kernel
theorem dX8_beyond_95 : decode cX8_beyond 95 = .ok (.iadd, 1) := by decide +kernel
theorem dX8_beyond_96 : decode cX8_beyond 96 = .ok (.imul, 1) := by decide +kernel
theorem dX8_beyond_97 : decode cX8_beyond 97 = .ok (.iload_n 3, 1) := by decide +kernel
theorem dX8_beyond_98 : decode cX8_beyond 98 = .ok (.iadd, 1) := by decide +kernel
theorem dX8_beyond_99 : decode cX8_beyond 99 = .ok (.ireturn, 1) := by decide +kernel
theorem dX8_takeAt_0 : decode cX8_takeAt 0 = .ok (.sipush 180, 3) := by decide +kernel
theorem dX8_takeAt_3 : decode cX8_takeAt 3 = .ok (.iconst 4, 1) := by decide +kernel
theorem dX8_takeAt_4 : decode cX8_takeAt 4 = .ok (.iload_n 1, 1) := by decide +kernel
theorem dX8_takeAt_5 : decode cX8_takeAt 5 = .ok (.imul, 1) := by decide +kernel
theorem dX8_takeAt_6 : decode cX8_takeAt 6 = .ok (.iadd, 1) := by decide +kernel
theorem dX8_takeAt_7 : decode cX8_takeAt 7 = .ok (.iload_n 2, 1) := by decide +kernel
theorem dX8_takeAt_8 : decode cX8_takeAt 8 = .ok (.iadd, 1) := by decide +kernel
theorem dX8_takeAt_9 : decode cX8_takeAt 9 = .ok (.istore_n 3, 1) := by decide +kernel
theorem dX8_takeAt_10 : decode cX8_takeAt 10 = .ok (.aload_n 0, 1) := by decide +kernel
theorem dX8_takeAt_11 : decode cX8_takeAt 11 = .ok (.getfield 59, 3) := by decide +kernel
theorem dX8_takeAt_14 : decode cX8_takeAt 14 = .ok (.iload_n 3, 1) := by decide +kernel
theorem dX8_takeAt_15 : decode cX8_takeAt 15 = .ok (.iaload, 1) := by decide +kernel
theorem dX8_takeAt_16 : decode cX8_takeAt 16 = .ok (.ifCond .ne 4, 3) := by decide +kernel
theorem dX8_takeAt_19 : decode cX8_takeAt 19 = .ok (.return_, 1) := by decide +kernel
theorem dX8_takeAt_20 : decode cX8_takeAt 20 = .ok (.aload_n 0, 1) := by decide +kernel
theorem dX8_takeAt_21 : decode cX8_takeAt 21 = .ok (.getfield 62, 3) := by decide +kernel
theorem dX8_takeAt_24 : decode cX8_takeAt 24 = .ok (.iconst 4, 1) := by decide +kernel
theorem dX8_takeAt_25 : decode cX8_takeAt 25 = .ok (.iload_n 3, 1) := by decide +kernel
theorem dX8_takeAt_26 : decode cX8_takeAt 26 = .ok (.imul, 1) := by decide +kernel
theorem dX8_takeAt_27 : decode cX8_takeAt 27 = .ok (.iaload, 1) := by decide +kernel
theorem dX8_takeAt_28 : decode cX8_takeAt 28 = .ok (.istore 4, 2) := by decide +kernel
theorem dX8_takeAt_30 : decode cX8_takeAt 30 = .ok (.iload 4, 2) := by decide +kernel
theorem dX8_takeAt_32 : decode cX8_takeAt 32 = .ok (.iconst 4, 1) := by decide +kernel
theorem dX8_takeAt_33 : decode cX8_takeAt 33 = .ok (.idiv, 1) := by decide +kernel
theorem dX8_takeAt_34 : decode cX8_takeAt 34 = .ok (.istore 5, 2) := by decide +kernel
theorem dX8_takeAt_36 : decode cX8_takeAt 36 = .ok (.aload_n 0, 1) := by decide +kernel
theorem dX8_takeAt_37 : decode cX8_takeAt 37 = .ok (.iload 4, 2) := by decide +kernel
theorem dX8_takeAt_39 : decode cX8_takeAt 39 = .ok (.invokevirtual 125, 3) := by decide +kernel
theorem dX8_takeAt_42 : decode cX8_takeAt 42 = .ok (.istore 6, 2) := by decide +kernel
theorem dX8_takeAt_44 : decode cX8_takeAt 44 = .ok (.iload 6, 2) := by decide +kernel
theorem dX8_takeAt_46 : decode cX8_takeAt 46 = .ok (.ifCond .eq 30, 3) := by decide +kernel
theorem dX8_takeAt_49 : decode cX8_takeAt 49 = .ok (.iload 5, 2) := by decide +kernel
theorem dX8_takeAt_51 : decode cX8_takeAt 51 = .ok (.iconst 2, 1) := by decide +kernel
theorem dX8_takeAt_52 : decode cX8_takeAt 52 = .ok (.irem, 1) := by decide +kernel
theorem dX8_takeAt_53 : decode cX8_takeAt 53 = .ok (.ifCond .ne 23, 3) := by decide +kernel
theorem dX8_takeAt_56 : decode cX8_takeAt 56 = .ok (.aload_n 0, 1) := by decide +kernel
theorem dX8_takeAt_57 : decode cX8_takeAt 57 = .ok (.getfield 38, 3) := by decide +kernel
theorem dX8_takeAt_60 : decode cX8_takeAt 60 = .ok (.iload_n 1, 1) := by decide +kernel
theorem dX8_takeAt_61 : decode cX8_takeAt 61 = .ok (.baload, 1) := by decide +kernel
theorem dX8_takeAt_62 : decode cX8_takeAt 62 = .ok (.ifCond .ne 13, 3) := by decide +kernel
theorem dX8_takeAt_65 : decode cX8_takeAt 65 = .ok (.aload_n 0, 1) := by decide +kernel
theorem dX8_takeAt_66 : decode cX8_takeAt 66 = .ok (.getfield 50, 3) := by decide +kernel
theorem dX8_takeAt_69 : decode cX8_takeAt 69 = .ok (.iload_n 1, 1) := by decide +kernel
theorem dX8_takeAt_70 : decode cX8_takeAt 70 = .ok (.iaload, 1) := by decide +kernel
theorem dX8_takeAt_71 : decode cX8_takeAt 71 = .ok (.iconst 2, 1) := by decide +kernel
theorem dX8_takeAt_72 : decode cX8_takeAt 72 = .ok (.if_icmp .ne 4, 3) := by decide +kernel
theorem dX8_takeAt_75 : decode cX8_takeAt 75 = .ok (.return_, 1) := by decide +kernel
theorem dX8_takeAt_76 : decode cX8_takeAt 76 = .ok (.aload_n 0, 1) := by decide +kernel
theorem dX8_takeAt_77 : decode cX8_takeAt 77 = .ok (.iload_n 3, 1) := by decide +kernel
theorem dX8_takeAt_78 : decode cX8_takeAt 78 = .ok (.invokevirtual 128, 3) := by decide +kernel
theorem dX8_takeAt_81 : decode cX8_takeAt 81 = .ok (.istore 7, 2) := by decide +kernel
theorem dX8_takeAt_83 : decode cX8_takeAt 83 = .ok (.iload 5, 2) := by decide +kernel
theorem dX8_takeAt_85 : decode cX8_takeAt 85 = .ok (.iconst 2, 1) := by decide +kernel
theorem dX8_takeAt_86 : decode cX8_takeAt 86 = .ok (.idiv, 1) := by decide +kernel
theorem dX8_takeAt_87 : decode cX8_takeAt 87 = .ok (.istore 8, 2) := by decide +kernel
theorem dX8_takeAt_89 : decode cX8_takeAt 89 = .ok (.iload 6, 2) := by decide +kernel
theorem dX8_takeAt_91 : decode cX8_takeAt 91 = .ok (.ifCond .eq 48, 3) := by decide +kernel
theorem dX8_takeAt_94 : decode cX8_takeAt 94 = .ok (.iload 5, 2) := by decide +kernel
theorem dX8_takeAt_96 : decode cX8_takeAt 96 = .ok (.iconst 2, 1) := by decide +kernel
theorem dX8_takeAt_97 : decode cX8_takeAt 97 = .ok (.irem, 1) := by decide +kernel
theorem dX8_takeAt_98 : decode cX8_takeAt 98 = .ok (.iconst 1, 1) := by decide +kernel
theorem dX8_takeAt_99 : decode cX8_takeAt 99 = .ok (.if_icmp .ne 40, 3) := by decide +kernel
theorem dX8_takeAt_102 : decode cX8_takeAt 102 = .ok (.aload_n 0, 1) := by decide +kernel
theorem dX8_takeAt_103 : decode cX8_takeAt 103 = .ok (.getfield 29, 3) := by decide +kernel
theorem dX8_takeAt_106 : decode cX8_takeAt 106 = .ok (.aload_n 0, 1) := by decide +kernel
theorem dX8_takeAt_107 : decode cX8_takeAt 107 = .ok (.getfield 131, 3) := by decide +kernel
theorem dX8_takeAt_110 : decode cX8_takeAt 110 = .ok (.iload 8, 2) := by decide +kernel
theorem dX8_takeAt_112 : decode cX8_takeAt 112 = .ok (.iastore, 1) := by decide +kernel
theorem dX8_takeAt_113 : decode cX8_takeAt 113 = .ok (.aload_n 0, 1) := by decide +kernel
theorem dX8_takeAt_114 : decode cX8_takeAt 114 = .ok (.getfield 32, 3) := by decide +kernel
theorem dX8_takeAt_117 : decode cX8_takeAt 117 = .ok (.aload_n 0, 1) := by decide +kernel
theorem dX8_takeAt_118 : decode cX8_takeAt 118 = .ok (.getfield 131, 3) := by decide +kernel
theorem dX8_takeAt_121 : decode cX8_takeAt 121 = .ok (.aload_n 0, 1) := by decide +kernel
theorem dX8_takeAt_122 : decode cX8_takeAt 122 = .ok (.getfield 134, 3) := by decide +kernel
theorem dX8_takeAt_125 : decode cX8_takeAt 125 = .ok (.iastore, 1) := by decide +kernel
theorem dX8_takeAt_126 : decode cX8_takeAt 126 = .ok (.aload_n 0, 1) := by decide +kernel
theorem dX8_takeAt_127 : decode cX8_takeAt 127 = .ok (.dup, 1) := by decide +kernel
theorem dX8_takeAt_128 : decode cX8_takeAt 128 = .ok (.getfield 131, 3) := by decide +kernel
theorem dX8_takeAt_131 : decode cX8_takeAt 131 = .ok (.iconst 1, 1) := by decide +kernel
theorem dX8_takeAt_132 : decode cX8_takeAt 132 = .ok (.iadd, 1) := by decide +kernel
theorem dX8_takeAt_133 : decode cX8_takeAt 133 = .ok (.putfield 131, 3) := by decide +kernel
theorem dX8_takeAt_136 : decode cX8_takeAt 136 = .ok (.goto 99, 3) := by decide +kernel
theorem dX8_takeAt_139 : decode cX8_takeAt 139 = .ok (.iload 6, 2) := by decide +kernel
theorem dX8_takeAt_141 : decode cX8_takeAt 141 = .ok (.ifCond .eq 94, 3) := by decide +kernel
theorem dX8_takeAt_144 : decode cX8_takeAt 144 = .ok (.bipush 8, 2) := by decide +kernel
theorem dX8_takeAt_146 : decode cX8_takeAt 146 = .ok (.iload_n 1, 1) := by decide +kernel
theorem dX8_takeAt_147 : decode cX8_takeAt 147 = .ok (.imul, 1) := by decide +kernel
theorem dX8_takeAt_148 : decode cX8_takeAt 148 = .ok (.aload_n 0, 1) := by decide +kernel
theorem dX8_takeAt_149 : decode cX8_takeAt 149 = .ok (.getfield 20, 3) := by decide +kernel
theorem dX8_takeAt_152 : decode cX8_takeAt 152 = .ok (.iload 8, 2) := by decide +kernel
theorem dX8_takeAt_154 : decode cX8_takeAt 154 = .ok (.iaload, 1) := by decide +kernel
theorem dX8_takeAt_155 : decode cX8_takeAt 155 = .ok (.iadd, 1) := by decide +kernel
theorem dX8_takeAt_156 : decode cX8_takeAt 156 = .ok (.istore 9, 2) := by decide +kernel
theorem dX8_takeAt_158 : decode cX8_takeAt 158 = .ok (.aload_n 0, 1) := by decide +kernel
theorem dX8_takeAt_159 : decode cX8_takeAt 159 = .ok (.getfield 26, 3) := by decide +kernel
theorem dX8_takeAt_162 : decode cX8_takeAt 162 = .ok (.iload 8, 2) := by decide +kernel
theorem dX8_takeAt_164 : decode cX8_takeAt 164 = .ok (.aload_n 0, 1) := by decide +kernel
theorem dX8_takeAt_165 : decode cX8_takeAt 165 = .ok (.getfield 35, 3) := by decide +kernel
theorem dX8_takeAt_168 : decode cX8_takeAt 168 = .ok (.iload 9, 2) := by decide +kernel
theorem dX8_takeAt_170 : decode cX8_takeAt 170 = .ok (.iaload, 1) := by decide +kernel
theorem dX8_takeAt_171 : decode cX8_takeAt 171 = .ok (.iastore, 1) := by decide +kernel
theorem dX8_takeAt_172 : decode cX8_takeAt 172 = .ok (.aload_n 0, 1) := by decide +kernel
theorem dX8_takeAt_173 : decode cX8_takeAt 173 = .ok (.getfield 35, 3) := by decide +kernel
theorem dX8_takeAt_176 : decode cX8_takeAt 176 = .ok (.iload 9, 2) := by decide +kernel
theorem dX8_takeAt_178 : decode cX8_takeAt 178 = .ok (.aload_n 0, 1) := by decide +kernel
theorem dX8_takeAt_179 : decode cX8_takeAt 179 = .ok (.getfield 16, 3) := by decide +kernel
theorem dX8_takeAt_182 : decode cX8_takeAt 182 = .ok (.iload 8, 2) := by decide +kernel
theorem dX8_takeAt_184 : decode cX8_takeAt 184 = .ok (.baload, 1) := by decide +kernel
theorem dX8_takeAt_185 : decode cX8_takeAt 185 = .ok (.ifCond .eq 13, 3) := by decide +kernel
theorem dX8_takeAt_188 : decode cX8_takeAt 188 = .ok (.aload_n 0, 1) := by decide +kernel
theorem dX8_takeAt_189 : decode cX8_takeAt 189 = .ok (.getfield 23, 3) := by decide +kernel
theorem dX8_takeAt_192 : decode cX8_takeAt 192 = .ok (.iload 8, 2) := by decide +kernel
theorem dX8_takeAt_194 : decode cX8_takeAt 194 = .ok (.iaload, 1) := by decide +kernel
theorem dX8_takeAt_195 : decode cX8_takeAt 195 = .ok (.goto 10, 3) := by decide +kernel
theorem dX8_takeAt_198 : decode cX8_takeAt 198 = .ok (.aload_n 0, 1) := by decide +kernel
theorem dX8_takeAt_199 : decode cX8_takeAt 199 = .ok (.getfield 35, 3) := by decide +kernel
theorem dX8_takeAt_202 : decode cX8_takeAt 202 = .ok (.iload 9, 2) := by decide +kernel
theorem dX8_takeAt_204 : decode cX8_takeAt 204 = .ok (.iaload, 1) := by decide +kernel
theorem dX8_takeAt_205 : decode cX8_takeAt 205 = .ok (.iastore, 1) := by decide +kernel
theorem dX8_takeAt_206 : decode cX8_takeAt 206 = .ok (.aload_n 0, 1) := by decide +kernel
theorem dX8_takeAt_207 : decode cX8_takeAt 207 = .ok (.getfield 53, 3) := by decide +kernel
theorem dX8_takeAt_210 : decode cX8_takeAt 210 = .ok (.iconst 2, 1) := by decide +kernel
theorem dX8_takeAt_211 : decode cX8_takeAt 211 = .ok (.iload_n 1, 1) := by decide +kernel
theorem dX8_takeAt_212 : decode cX8_takeAt 212 = .ok (.imul, 1) := by decide +kernel
theorem dX8_takeAt_213 : decode cX8_takeAt 213 = .ok (.aload_n 0, 1) := by decide +kernel
theorem dX8_takeAt_214 : decode cX8_takeAt 214 = .ok (.getfield 50, 3) := by decide +kernel
theorem dX8_takeAt_217 : decode cX8_takeAt 217 = .ok (.iload_n 1, 1) := by decide +kernel
theorem dX8_takeAt_218 : decode cX8_takeAt 218 = .ok (.iaload, 1) := by decide +kernel
theorem dX8_takeAt_219 : decode cX8_takeAt 219 = .ok (.iadd, 1) := by decide +kernel
theorem dX8_takeAt_220 : decode cX8_takeAt 220 = .ok (.iload 5, 2) := by decide +kernel
theorem dX8_takeAt_222 : decode cX8_takeAt 222 = .ok (.iconst 1, 1) := by decide +kernel
theorem dX8_takeAt_223 : decode cX8_takeAt 223 = .ok (.iadd, 1) := by decide +kernel
theorem dX8_takeAt_224 : decode cX8_takeAt 224 = .ok (.iastore, 1) := by decide +kernel
theorem dX8_takeAt_225 : decode cX8_takeAt 225 = .ok (.aload_n 0, 1) := by decide +kernel
theorem dX8_takeAt_226 : decode cX8_takeAt 226 = .ok (.getfield 50, 3) := by decide +kernel
theorem dX8_takeAt_229 : decode cX8_takeAt 229 = .ok (.iload_n 1, 1) := by decide +kernel
theorem dX8_takeAt_230 : decode cX8_takeAt 230 = .ok (.dup2, 1) := by decide +kernel
theorem dX8_takeAt_231 : decode cX8_takeAt 231 = .ok (.iaload, 1) := by decide +kernel
theorem dX8_takeAt_232 : decode cX8_takeAt 232 = .ok (.iconst 1, 1) := by decide +kernel
theorem dX8_takeAt_233 : decode cX8_takeAt 233 = .ok (.iadd, 1) := by decide +kernel
theorem dX8_takeAt_234 : decode cX8_takeAt 234 = .ok (.iastore, 1) := by decide +kernel
theorem dX8_takeAt_235 : decode cX8_takeAt 235 = .ok (.return_, 1) := by decide +kernel
theorem dX8_sendAt_0 : decode cX8_sendAt 0 = .ok (.aload_n 0, 1) := by decide +kernel
theorem dX8_sendAt_1 : decode cX8_sendAt 1 = .ok (.getfield 50, 3) := by decide +kernel
theorem dX8_sendAt_4 : decode cX8_sendAt 4 = .ok (.iload_n 1, 1) := by decide +kernel
theorem dX8_sendAt_5 : decode cX8_sendAt 5 = .ok (.iaload, 1) := by decide +kernel
theorem dX8_sendAt_6 : decode cX8_sendAt 6 = .ok (.ifCond .le 107, 3) := by decide +kernel
theorem dX8_sendAt_9 : decode cX8_sendAt 9 = .ok (.aload_n 0, 1) := by decide +kernel
theorem dX8_sendAt_10 : decode cX8_sendAt 10 = .ok (.getfield 53, 3) := by decide +kernel
theorem dX8_sendAt_13 : decode cX8_sendAt 13 = .ok (.iconst 2, 1) := by decide +kernel
theorem dX8_sendAt_14 : decode cX8_sendAt 14 = .ok (.iload_n 1, 1) := by decide +kernel
theorem dX8_sendAt_15 : decode cX8_sendAt 15 = .ok (.imul, 1) := by decide +kernel
theorem dX8_sendAt_16 : decode cX8_sendAt 16 = .ok (.iaload, 1) := by decide +kernel
theorem dX8_sendAt_17 : decode cX8_sendAt 17 = .ok (.istore_n 2, 1) := by decide +kernel
theorem dX8_sendAt_18 : decode cX8_sendAt 18 = .ok (.bipush 20, 2) := by decide +kernel
theorem dX8_sendAt_20 : decode cX8_sendAt 20 = .ok (.iload_n 1, 1) := by decide +kernel
theorem dX8_sendAt_21 : decode cX8_sendAt 21 = .ok (.imul, 1) := by decide +kernel
theorem dX8_sendAt_22 : decode cX8_sendAt 22 = .ok (.aload_n 0, 1) := by decide +kernel
theorem dX8_sendAt_23 : decode cX8_sendAt 23 = .ok (.iload_n 2, 1) := by decide +kernel
theorem dX8_sendAt_24 : decode cX8_sendAt 24 = .ok (.invokevirtual 137, 3) := by decide +kernel
theorem dX8_sendAt_27 : decode cX8_sendAt 27 = .ok (.iadd, 1) := by decide +kernel
theorem dX8_sendAt_28 : decode cX8_sendAt 28 = .ok (.istore_n 3, 1) := by decide +kernel
theorem dX8_sendAt_29 : decode cX8_sendAt 29 = .ok (.aload_n 0, 1) := by decide +kernel
theorem dX8_sendAt_30 : decode cX8_sendAt 30 = .ok (.getfield 68, 3) := by decide +kernel
theorem dX8_sendAt_33 : decode cX8_sendAt 33 = .ok (.iload_n 3, 1) := by decide +kernel
theorem dX8_sendAt_34 : decode cX8_sendAt 34 = .ok (.iaload, 1) := by decide +kernel
theorem dX8_sendAt_35 : decode cX8_sendAt 35 = .ok (.ifCond .le 78, 3) := by decide +kernel
theorem dX8_sendAt_38 : decode cX8_sendAt 38 = .ok (.aload_n 0, 1) := by decide +kernel
theorem dX8_sendAt_39 : decode cX8_sendAt 39 = .ok (.iload_n 3, 1) := by decide +kernel
theorem dX8_sendAt_40 : decode cX8_sendAt 40 = .ok (.iconst 4, 1) := by decide +kernel
theorem dX8_sendAt_41 : decode cX8_sendAt 41 = .ok (.iload_n 2, 1) := by decide +kernel
theorem dX8_sendAt_42 : decode cX8_sendAt 42 = .ok (.imul, 1) := by decide +kernel
theorem dX8_sendAt_43 : decode cX8_sendAt 43 = .ok (.aload_n 0, 1) := by decide +kernel
theorem dX8_sendAt_44 : decode cX8_sendAt 44 = .ok (.getfield 56, 3) := by decide +kernel
theorem dX8_sendAt_47 : decode cX8_sendAt 47 = .ok (.iload_n 1, 1) := by decide +kernel
theorem dX8_sendAt_48 : decode cX8_sendAt 48 = .ok (.iaload, 1) := by decide +kernel
theorem dX8_sendAt_49 : decode cX8_sendAt 49 = .ok (.iadd, 1) := by decide +kernel
theorem dX8_sendAt_50 : decode cX8_sendAt 50 = .ok (.invokevirtual 140, 3) := by decide +kernel
theorem dX8_sendAt_53 : decode cX8_sendAt 53 = .ok (.aload_n 0, 1) := by decide +kernel
theorem dX8_sendAt_54 : decode cX8_sendAt 54 = .ok (.getfield 56, 3) := by decide +kernel
theorem dX8_sendAt_57 : decode cX8_sendAt 57 = .ok (.iload_n 1, 1) := by decide +kernel
theorem dX8_sendAt_58 : decode cX8_sendAt 58 = .ok (.dup2, 1) := by decide +kernel
theorem dX8_sendAt_59 : decode cX8_sendAt 59 = .ok (.iaload, 1) := by decide +kernel
theorem dX8_sendAt_60 : decode cX8_sendAt 60 = .ok (.iconst 1, 1) := by decide +kernel
theorem dX8_sendAt_61 : decode cX8_sendAt 61 = .ok (.iadd, 1) := by decide +kernel
theorem dX8_sendAt_62 : decode cX8_sendAt 62 = .ok (.iastore, 1) := by decide +kernel
theorem dX8_sendAt_63 : decode cX8_sendAt 63 = .ok (.aload_n 0, 1) := by decide +kernel
theorem dX8_sendAt_64 : decode cX8_sendAt 64 = .ok (.getfield 56, 3) := by decide +kernel
theorem dX8_sendAt_67 : decode cX8_sendAt 67 = .ok (.iload_n 1, 1) := by decide +kernel
theorem dX8_sendAt_68 : decode cX8_sendAt 68 = .ok (.iaload, 1) := by decide +kernel
theorem dX8_sendAt_69 : decode cX8_sendAt 69 = .ok (.aload_n 0, 1) := by decide +kernel
theorem dX8_sendAt_70 : decode cX8_sendAt 70 = .ok (.iload_n 2, 1) := by decide +kernel
theorem dX8_sendAt_71 : decode cX8_sendAt 71 = .ok (.invokevirtual 115, 3) := by decide +kernel
theorem dX8_sendAt_74 : decode cX8_sendAt 74 = .ok (.if_icmp .ne 38, 3) := by decide +kernel
theorem dX8_sendAt_77 : decode cX8_sendAt 77 = .ok (.aload_n 0, 1) := by decide +kernel
theorem dX8_sendAt_78 : decode cX8_sendAt 78 = .ok (.getfield 56, 3) := by decide +kernel
theorem dX8_sendAt_81 : decode cX8_sendAt 81 = .ok (.iload_n 1, 1) := by decide +kernel
theorem dX8_sendAt_82 : decode cX8_sendAt 82 = .ok (.iconst 0, 1) := by decide +kernel
theorem dX8_sendAt_83 : decode cX8_sendAt 83 = .ok (.iastore, 1) := by decide +kernel
theorem dX8_sendAt_84 : decode cX8_sendAt 84 = .ok (.aload_n 0, 1) := by decide +kernel
theorem dX8_sendAt_85 : decode cX8_sendAt 85 = .ok (.getfield 50, 3) := by decide +kernel
theorem dX8_sendAt_88 : decode cX8_sendAt 88 = .ok (.iload_n 1, 1) := by decide +kernel
theorem dX8_sendAt_89 : decode cX8_sendAt 89 = .ok (.dup2, 1) := by decide +kernel
theorem dX8_sendAt_90 : decode cX8_sendAt 90 = .ok (.iaload, 1) := by decide +kernel
theorem dX8_sendAt_91 : decode cX8_sendAt 91 = .ok (.iconst 1, 1) := by decide +kernel
theorem dX8_sendAt_92 : decode cX8_sendAt 92 = .ok (.isub, 1) := by decide +kernel
theorem dX8_sendAt_93 : decode cX8_sendAt 93 = .ok (.iastore, 1) := by decide +kernel
theorem dX8_sendAt_94 : decode cX8_sendAt 94 = .ok (.aload_n 0, 1) := by decide +kernel
theorem dX8_sendAt_95 : decode cX8_sendAt 95 = .ok (.getfield 53, 3) := by decide +kernel
theorem dX8_sendAt_98 : decode cX8_sendAt 98 = .ok (.iconst 2, 1) := by decide +kernel
theorem dX8_sendAt_99 : decode cX8_sendAt 99 = .ok (.iload_n 1, 1) := by decide +kernel
theorem dX8_sendAt_100 : decode cX8_sendAt 100 = .ok (.imul, 1) := by decide +kernel
theorem dX8_sendAt_101 : decode cX8_sendAt 101 = .ok (.aload_n 0, 1) := by decide +kernel
theorem dX8_sendAt_102 : decode cX8_sendAt 102 = .ok (.getfield 53, 3) := by decide +kernel
theorem dX8_sendAt_105 : decode cX8_sendAt 105 = .ok (.iconst 2, 1) := by decide +kernel
theorem dX8_sendAt_106 : decode cX8_sendAt 106 = .ok (.iload_n 1, 1) := by decide +kernel
theorem dX8_sendAt_107 : decode cX8_sendAt 107 = .ok (.imul, 1) := by decide +kernel
theorem dX8_sendAt_108 : decode cX8_sendAt 108 = .ok (.iconst 1, 1) := by decide +kernel
theorem dX8_sendAt_109 : decode cX8_sendAt 109 = .ok (.iadd, 1) := by decide +kernel
theorem dX8_sendAt_110 : decode cX8_sendAt 110 = .ok (.iaload, 1) := by decide +kernel
theorem dX8_sendAt_111 : decode cX8_sendAt 111 = .ok (.iastore, 1) := by decide +kernel
theorem dX8_sendAt_112 : decode cX8_sendAt 112 = .ok (.return_, 1) := by decide +kernel
theorem dX8_sendAt_113 : decode cX8_sendAt 113 = .ok (.aload_n 0, 1) := by decide +kernel
theorem dX8_sendAt_114 : decode cX8_sendAt 114 = .ok (.getfield 41, 3) := by decide +kernel
theorem dX8_sendAt_117 : decode cX8_sendAt 117 = .ok (.iload_n 1, 1) := by decide +kernel
theorem dX8_sendAt_118 : decode cX8_sendAt 118 = .ok (.iaload, 1) := by decide +kernel
theorem dX8_sendAt_119 : decode cX8_sendAt 119 = .ok (.ifCond .le 132, 3) := by decide +kernel
theorem dX8_sendAt_122 : decode cX8_sendAt 122 = .ok (.aload_n 0, 1) := by decide +kernel
theorem dX8_sendAt_123 : decode cX8_sendAt 123 = .ok (.getfield 44, 3) := by decide +kernel
theorem dX8_sendAt_126 : decode cX8_sendAt 126 = .ok (.iconst 4, 1) := by decide +kernel
theorem dX8_sendAt_127 : decode cX8_sendAt 127 = .ok (.iload_n 1, 1) := by decide +kernel
theorem dX8_sendAt_128 : decode cX8_sendAt 128 = .ok (.imul, 1) := by decide +kernel
theorem dX8_sendAt_129 : decode cX8_sendAt 129 = .ok (.iaload, 1) := by decide +kernel
theorem dX8_sendAt_130 : decode cX8_sendAt 130 = .ok (.istore_n 2, 1) := by decide +kernel
theorem dX8_sendAt_131 : decode cX8_sendAt 131 = .ok (.bipush 20, 2) := by decide +kernel
theorem dX8_sendAt_133 : decode cX8_sendAt 133 = .ok (.iload_n 1, 1) := by decide +kernel
theorem dX8_sendAt_134 : decode cX8_sendAt 134 = .ok (.imul, 1) := by decide +kernel
theorem dX8_sendAt_135 : decode cX8_sendAt 135 = .ok (.aload_n 0, 1) := by decide +kernel
theorem dX8_sendAt_136 : decode cX8_sendAt 136 = .ok (.iload_n 2, 1) := by decide +kernel
theorem dX8_sendAt_137 : decode cX8_sendAt 137 = .ok (.invokevirtual 137, 3) := by decide +kernel
theorem dX8_sendAt_140 : decode cX8_sendAt 140 = .ok (.iadd, 1) := by decide +kernel
end
section
theorem dX8_sendAt_141 : decode cX8_sendAt 141 = .ok (.istore_n 3, 1) := by decide +kernel
theorem dX8_sendAt_142 : decode cX8_sendAt 142 = .ok (.aload_n 0, 1) := by decide +kernel
theorem dX8_sendAt_143 : decode cX8_sendAt 143 = .ok (.getfield 68, 3) := by decide +kernel
theorem dX8_sendAt_146 : decode cX8_sendAt 146 = .ok (.iload_n 3, 1) := by decide +kernel
theorem dX8_sendAt_147 : decode cX8_sendAt 147 = .ok (.iaload, 1) := by decide +kernel
theorem dX8_sendAt_148 : decode cX8_sendAt 148 = .ok (.ifCond .le 103, 3) := by decide +kernel
theorem dX8_sendAt_151 : decode cX8_sendAt 151 = .ok (.aload_n 0, 1) := by decide +kernel
theorem dX8_sendAt_152 : decode cX8_sendAt 152 = .ok (.iload_n 3, 1) := by decide +kernel
theorem dX8_sendAt_153 : decode cX8_sendAt 153 = .ok (.iconst 4, 1) := by decide +kernel
theorem dX8_sendAt_154 : decode cX8_sendAt 154 = .ok (.iload_n 2, 1) := by decide +kernel
theorem dX8_sendAt_155 : decode cX8_sendAt 155 = .ok (.imul, 1) := by decide +kernel
theorem dX8_sendAt_156 : decode cX8_sendAt 156 = .ok (.aload_n 0, 1) := by decide +kernel
theorem dX8_sendAt_157 : decode cX8_sendAt 157 = .ok (.getfield 47, 3) := by decide +kernel
theorem dX8_sendAt_160 : decode cX8_sendAt 160 = .ok (.iload_n 1, 1) := by decide +kernel
theorem dX8_sendAt_161 : decode cX8_sendAt 161 = .ok (.iaload, 1) := by decide +kernel
theorem dX8_sendAt_162 : decode cX8_sendAt 162 = .ok (.iadd, 1) := by decide +kernel
theorem dX8_sendAt_163 : decode cX8_sendAt 163 = .ok (.invokevirtual 140, 3) := by decide +kernel
theorem dX8_sendAt_166 : decode cX8_sendAt 166 = .ok (.aload_n 0, 1) := by decide +kernel
theorem dX8_sendAt_167 : decode cX8_sendAt 167 = .ok (.getfield 47, 3) := by decide +kernel
theorem dX8_sendAt_170 : decode cX8_sendAt 170 = .ok (.iload_n 1, 1) := by decide +kernel
theorem dX8_sendAt_171 : decode cX8_sendAt 171 = .ok (.dup2, 1) := by decide +kernel
theorem dX8_sendAt_172 : decode cX8_sendAt 172 = .ok (.iaload, 1) := by decide +kernel
theorem dX8_sendAt_173 : decode cX8_sendAt 173 = .ok (.iconst 1, 1) := by decide +kernel
theorem dX8_sendAt_174 : decode cX8_sendAt 174 = .ok (.iadd, 1) := by decide +kernel
theorem dX8_sendAt_175 : decode cX8_sendAt 175 = .ok (.iastore, 1) := by decide +kernel
theorem dX8_sendAt_176 : decode cX8_sendAt 176 = .ok (.aload_n 0, 1) := by decide +kernel
theorem dX8_sendAt_177 : decode cX8_sendAt 177 = .ok (.getfield 47, 3) := by decide +kernel
theorem dX8_sendAt_180 : decode cX8_sendAt 180 = .ok (.iload_n 1, 1) := by decide +kernel
theorem dX8_sendAt_181 : decode cX8_sendAt 181 = .ok (.iaload, 1) := by decide +kernel
theorem dX8_sendAt_182 : decode cX8_sendAt 182 = .ok (.aload_n 0, 1) := by decide +kernel
theorem dX8_sendAt_183 : decode cX8_sendAt 183 = .ok (.iload_n 2, 1) := by decide +kernel
theorem dX8_sendAt_184 : decode cX8_sendAt 184 = .ok (.invokevirtual 115, 3) := by decide +kernel
theorem dX8_sendAt_187 : decode cX8_sendAt 187 = .ok (.if_icmp .ne 64, 3) := by decide +kernel
theorem dX8_sendAt_190 : decode cX8_sendAt 190 = .ok (.aload_n 0, 1) := by decide +kernel
theorem dX8_sendAt_191 : decode cX8_sendAt 191 = .ok (.getfield 47, 3) := by decide +kernel
theorem dX8_sendAt_194 : decode cX8_sendAt 194 = .ok (.iload_n 1, 1) := by decide +kernel
theorem dX8_sendAt_195 : decode cX8_sendAt 195 = .ok (.iconst 0, 1) := by decide +kernel
theorem dX8_sendAt_196 : decode cX8_sendAt 196 = .ok (.iastore, 1) := by decide +kernel
theorem dX8_sendAt_197 : decode cX8_sendAt 197 = .ok (.aload_n 0, 1) := by decide +kernel
theorem dX8_sendAt_198 : decode cX8_sendAt 198 = .ok (.getfield 41, 3) := by decide +kernel
theorem dX8_sendAt_201 : decode cX8_sendAt 201 = .ok (.iload_n 1, 1) := by decide +kernel
theorem dX8_sendAt_202 : decode cX8_sendAt 202 = .ok (.dup2, 1) := by decide +kernel
theorem dX8_sendAt_203 : decode cX8_sendAt 203 = .ok (.iaload, 1) := by decide +kernel
theorem dX8_sendAt_204 : decode cX8_sendAt 204 = .ok (.iconst 1, 1) := by decide +kernel
theorem dX8_sendAt_205 : decode cX8_sendAt 205 = .ok (.isub, 1) := by decide +kernel
theorem dX8_sendAt_206 : decode cX8_sendAt 206 = .ok (.iastore, 1) := by decide +kernel
theorem dX8_sendAt_207 : decode cX8_sendAt 207 = .ok (.iconst 0, 1) := by decide +kernel
theorem dX8_sendAt_208 : decode cX8_sendAt 208 = .ok (.istore 4, 2) := by decide +kernel
theorem dX8_sendAt_210 : decode cX8_sendAt 210 = .ok (.iload 4, 2) := by decide +kernel
theorem dX8_sendAt_212 : decode cX8_sendAt 212 = .ok (.aload_n 0, 1) := by decide +kernel
theorem dX8_sendAt_213 : decode cX8_sendAt 213 = .ok (.getfield 41, 3) := by decide +kernel
theorem dX8_sendAt_216 : decode cX8_sendAt 216 = .ok (.iload_n 1, 1) := by decide +kernel
theorem dX8_sendAt_217 : decode cX8_sendAt 217 = .ok (.iaload, 1) := by decide +kernel
theorem dX8_sendAt_218 : decode cX8_sendAt 218 = .ok (.if_icmp .ge 33, 3) := by decide +kernel
theorem dX8_sendAt_221 : decode cX8_sendAt 221 = .ok (.aload_n 0, 1) := by decide +kernel
theorem dX8_sendAt_222 : decode cX8_sendAt 222 = .ok (.getfield 44, 3) := by decide +kernel
theorem dX8_sendAt_225 : decode cX8_sendAt 225 = .ok (.iconst 4, 1) := by decide +kernel
theorem dX8_sendAt_226 : decode cX8_sendAt 226 = .ok (.iload_n 1, 1) := by decide +kernel
theorem dX8_sendAt_227 : decode cX8_sendAt 227 = .ok (.imul, 1) := by decide +kernel
theorem dX8_sendAt_228 : decode cX8_sendAt 228 = .ok (.iload 4, 2) := by decide +kernel
theorem dX8_sendAt_230 : decode cX8_sendAt 230 = .ok (.iadd, 1) := by decide +kernel
theorem dX8_sendAt_231 : decode cX8_sendAt 231 = .ok (.aload_n 0, 1) := by decide +kernel
theorem dX8_sendAt_232 : decode cX8_sendAt 232 = .ok (.getfield 44, 3) := by decide +kernel
theorem dX8_sendAt_235 : decode cX8_sendAt 235 = .ok (.iconst 4, 1) := by decide +kernel
theorem dX8_sendAt_236 : decode cX8_sendAt 236 = .ok (.iload_n 1, 1) := by decide +kernel
theorem dX8_sendAt_237 : decode cX8_sendAt 237 = .ok (.imul, 1) := by decide +kernel
theorem dX8_sendAt_238 : decode cX8_sendAt 238 = .ok (.iload 4, 2) := by decide +kernel
theorem dX8_sendAt_240 : decode cX8_sendAt 240 = .ok (.iadd, 1) := by decide +kernel
theorem dX8_sendAt_241 : decode cX8_sendAt 241 = .ok (.iconst 1, 1) := by decide +kernel
theorem dX8_sendAt_242 : decode cX8_sendAt 242 = .ok (.iadd, 1) := by decide +kernel
theorem dX8_sendAt_243 : decode cX8_sendAt 243 = .ok (.iaload, 1) := by decide +kernel
theorem dX8_sendAt_244 : decode cX8_sendAt 244 = .ok (.iastore, 1) := by decide +kernel
theorem dX8_sendAt_245 : decode cX8_sendAt 245 = .ok (.iinc 4 1, 3) := by decide +kernel
theorem dX8_sendAt_248 : decode cX8_sendAt 248 = .ok (.goto (-38), 3) := by decide +kernel
theorem dX8_sendAt_251 : decode cX8_sendAt 251 = .ok (.return_, 1) := by decide +kernel
theorem dX8_ready_0 : decode cX8_ready 0 = .ok (.iconst 4, 1) := by decide +kernel
theorem dX8_ready_1 : decode cX8_ready 1 = .ok (.iconst 5, 1) := by decide +kernel
theorem dX8_ready_2 : decode cX8_ready 2 = .ok (.iload_n 1, 1) := by decide +kernel
theorem dX8_ready_3 : decode cX8_ready 3 = .ok (.imul, 1) := by decide +kernel
theorem dX8_ready_4 : decode cX8_ready 4 = .ok (.iload_n 2, 1) := by decide +kernel
theorem dX8_ready_5 : decode cX8_ready 5 = .ok (.iadd, 1) := by decide +kernel
theorem dX8_ready_6 : decode cX8_ready 6 = .ok (.imul, 1) := by decide +kernel
theorem dX8_ready_7 : decode cX8_ready 7 = .ok (.iload_n 3, 1) := by decide +kernel
theorem dX8_ready_8 : decode cX8_ready 8 = .ok (.iadd, 1) := by decide +kernel
theorem dX8_ready_9 : decode cX8_ready 9 = .ok (.istore 4, 2) := by decide +kernel
theorem dX8_ready_11 : decode cX8_ready 11 = .ok (.aload_n 0, 1) := by decide +kernel
theorem dX8_ready_12 : decode cX8_ready 12 = .ok (.getfield 59, 3) := by decide +kernel
theorem dX8_ready_15 : decode cX8_ready 15 = .ok (.iload 4, 2) := by decide +kernel
theorem dX8_ready_17 : decode cX8_ready 17 = .ok (.iaload, 1) := by decide +kernel
theorem dX8_ready_18 : decode cX8_ready 18 = .ok (.ifCond .le 39, 3) := by decide +kernel
theorem dX8_ready_21 : decode cX8_ready 21 = .ok (.aload_n 0, 1) := by decide +kernel
theorem dX8_ready_22 : decode cX8_ready 22 = .ok (.getfield 74, 3) := by decide +kernel
theorem dX8_ready_25 : decode cX8_ready 25 = .ok (.iload 4, 2) := by decide +kernel
theorem dX8_ready_27 : decode cX8_ready 27 = .ok (.iaload, 1) := by decide +kernel
theorem dX8_ready_28 : decode cX8_ready 28 = .ok (.iconst 2, 1) := by decide +kernel
theorem dX8_ready_29 : decode cX8_ready 29 = .ok (.if_icmp .ne 28, 3) := by decide +kernel
theorem dX8_ready_32 : decode cX8_ready 32 = .ok (.aload_n 0, 1) := by decide +kernel
theorem dX8_ready_33 : decode cX8_ready 33 = .ok (.getfield 68, 3) := by decide +kernel
theorem dX8_ready_36 : decode cX8_ready 36 = .ok (.aload_n 0, 1) := by decide +kernel
theorem dX8_ready_37 : decode cX8_ready 37 = .ok (.iload_n 1, 1) := by decide +kernel
theorem dX8_ready_38 : decode cX8_ready 38 = .ok (.aload_n 0, 1) := by decide +kernel
theorem dX8_ready_39 : decode cX8_ready 39 = .ok (.getfield 77, 3) := by decide +kernel
theorem dX8_ready_42 : decode cX8_ready 42 = .ok (.iload 4, 2) := by decide +kernel
theorem dX8_ready_44 : decode cX8_ready 44 = .ok (.iaload, 1) := by decide +kernel
theorem dX8_ready_45 : decode cX8_ready 45 = .ok (.iload_n 3, 1) := by decide +kernel
theorem dX8_ready_46 : decode cX8_ready 46 = .ok (.invokevirtual 144, 3) := by decide +kernel
theorem dX8_ready_49 : decode cX8_ready 49 = .ok (.iaload, 1) := by decide +kernel
theorem dX8_ready_50 : decode cX8_ready 50 = .ok (.ifCond .le 7, 3) := by decide +kernel
theorem dX8_ready_53 : decode cX8_ready 53 = .ok (.iconst 1, 1) := by decide +kernel
theorem dX8_ready_54 : decode cX8_ready 54 = .ok (.goto 4, 3) := by decide +kernel
theorem dX8_ready_57 : decode cX8_ready 57 = .ok (.iconst 0, 1) := by decide +kernel
theorem dX8_ready_58 : decode cX8_ready 58 = .ok (.ireturn, 1) := by decide +kernel
theorem dX8_name_0 : decode cX8_name 0 = .ok (.aload_n 0, 1) := by decide +kernel
theorem dX8_name_1 : decode cX8_name 1 = .ok (.getfield 86, 3) := by decide +kernel
theorem dX8_name_4 : decode cX8_name 4 = .ok (.iconst 5, 1) := by decide +kernel
theorem dX8_name_5 : decode cX8_name 5 = .ok (.iload_n 1, 1) := by decide +kernel
theorem dX8_name_6 : decode cX8_name 6 = .ok (.imul, 1) := by decide +kernel
theorem dX8_name_7 : decode cX8_name 7 = .ok (.iload_n 2, 1) := by decide +kernel
theorem dX8_name_8 : decode cX8_name 8 = .ok (.iadd, 1) := by decide +kernel
theorem dX8_name_9 : decode cX8_name 9 = .ok (.iaload, 1) := by decide +kernel
theorem dX8_name_10 : decode cX8_name 10 = .ok (.istore_n 3, 1) := by decide +kernel
theorem dX8_name_11 : decode cX8_name 11 = .ok (.iconst 0, 1) := by decide +kernel
theorem dX8_name_12 : decode cX8_name 12 = .ok (.istore 4, 2) := by decide +kernel
theorem dX8_name_14 : decode cX8_name 14 = .ok (.iload 4, 2) := by decide +kernel
theorem dX8_name_16 : decode cX8_name 16 = .ok (.aload_n 0, 1) := by decide +kernel
theorem dX8_name_17 : decode cX8_name 17 = .ok (.getfield 108, 3) := by decide +kernel
theorem dX8_name_20 : decode cX8_name 20 = .ok (.if_icmp .ge 34, 3) := by decide +kernel
theorem dX8_name_23 : decode cX8_name 23 = .ok (.iload_n 3, 1) := by decide +kernel
theorem dX8_name_24 : decode cX8_name 24 = .ok (.iload 4, 2) := by decide +kernel
theorem dX8_name_26 : decode cX8_name 26 = .ok (.iadd, 1) := by decide +kernel
theorem dX8_name_27 : decode cX8_name 27 = .ok (.aload_n 0, 1) := by decide +kernel
theorem dX8_name_28 : decode cX8_name 28 = .ok (.getfield 108, 3) := by decide +kernel
theorem dX8_name_31 : decode cX8_name 31 = .ok (.irem, 1) := by decide +kernel
theorem dX8_name_32 : decode cX8_name 32 = .ok (.istore 5, 2) := by decide +kernel
theorem dX8_name_34 : decode cX8_name 34 = .ok (.aload_n 0, 1) := by decide +kernel
theorem dX8_name_35 : decode cX8_name 35 = .ok (.iload_n 1, 1) := by decide +kernel
theorem dX8_name_36 : decode cX8_name 36 = .ok (.iload_n 2, 1) := by decide +kernel
theorem dX8_name_37 : decode cX8_name 37 = .ok (.iload 5, 2) := by decide +kernel
theorem dX8_name_39 : decode cX8_name 39 = .ok (.invokevirtual 148, 3) := by decide +kernel
theorem dX8_name_42 : decode cX8_name 42 = .ok (.ifCond .eq 6, 3) := by decide +kernel
theorem dX8_name_45 : decode cX8_name 45 = .ok (.iload 5, 2) := by decide +kernel
theorem dX8_name_47 : decode cX8_name 47 = .ok (.ireturn, 1) := by decide +kernel
theorem dX8_name_48 : decode cX8_name 48 = .ok (.iinc 4 1, 3) := by decide +kernel
theorem dX8_name_51 : decode cX8_name 51 = .ok (.goto (-37), 3) := by decide +kernel
theorem dX8_name_54 : decode cX8_name 54 = .ok (.iconst (-1), 1) := by decide +kernel
theorem dX8_name_55 : decode cX8_name 55 = .ok (.ireturn, 1) := by decide +kernel
theorem dX8_moveTo_0 : decode cX8_moveTo 0 = .ok (.aload_n 0, 1) := by decide +kernel
theorem dX8_moveTo_1 : decode cX8_moveTo 1 = .ok (.getfield 89, 3) := by decide +kernel
theorem dX8_moveTo_4 : decode cX8_moveTo 4 = .ok (.iconst 5, 1) := by decide +kernel
theorem dX8_moveTo_5 : decode cX8_moveTo 5 = .ok (.iload_n 1, 1) := by decide +kernel
theorem dX8_moveTo_6 : decode cX8_moveTo 6 = .ok (.imul, 1) := by decide +kernel
theorem dX8_moveTo_7 : decode cX8_moveTo 7 = .ok (.iload_n 2, 1) := by decide +kernel
theorem dX8_moveTo_8 : decode cX8_moveTo 8 = .ok (.iadd, 1) := by decide +kernel
theorem dX8_moveTo_9 : decode cX8_moveTo 9 = .ok (.iaload, 1) := by decide +kernel
theorem dX8_moveTo_10 : decode cX8_moveTo 10 = .ok (.istore_n 3, 1) := by decide +kernel
theorem dX8_moveTo_11 : decode cX8_moveTo 11 = .ok (.iconst 0, 1) := by decide +kernel
theorem dX8_moveTo_12 : decode cX8_moveTo 12 = .ok (.istore 4, 2) := by decide +kernel
theorem dX8_moveTo_14 : decode cX8_moveTo 14 = .ok (.iload 4, 2) := by decide +kernel
theorem dX8_moveTo_16 : decode cX8_moveTo 16 = .ok (.iconst 5, 1) := by decide +kernel
theorem dX8_moveTo_17 : decode cX8_moveTo 17 = .ok (.if_icmp .ge 147, 3) := by decide +kernel
theorem dX8_moveTo_20 : decode cX8_moveTo 20 = .ok (.iload_n 3, 1) := by decide +kernel
theorem dX8_moveTo_21 : decode cX8_moveTo 21 = .ok (.iload 4, 2) := by decide +kernel
theorem dX8_moveTo_23 : decode cX8_moveTo 23 = .ok (.iadd, 1) := by decide +kernel
theorem dX8_moveTo_24 : decode cX8_moveTo 24 = .ok (.iconst 5, 1) := by decide +kernel
theorem dX8_moveTo_25 : decode cX8_moveTo 25 = .ok (.irem, 1) := by decide +kernel
theorem dX8_moveTo_26 : decode cX8_moveTo 26 = .ok (.istore 5, 2) := by decide +kernel
theorem dX8_moveTo_28 : decode cX8_moveTo 28 = .ok (.aload_n 0, 1) := by decide +kernel
theorem dX8_moveTo_29 : decode cX8_moveTo 29 = .ok (.getfield 92, 3) := by decide +kernel
theorem dX8_moveTo_32 : decode cX8_moveTo 32 = .ok (.iload 5, 2) := by decide +kernel
theorem dX8_moveTo_34 : decode cX8_moveTo 34 = .ok (.iaload, 1) := by decide +kernel
theorem dX8_moveTo_35 : decode cX8_moveTo 35 = .ok (.istore 6, 2) := by decide +kernel
theorem dX8_moveTo_37 : decode cX8_moveTo 37 = .ok (.iconst 4, 1) := by decide +kernel
theorem dX8_moveTo_38 : decode cX8_moveTo 38 = .ok (.iconst 5, 1) := by decide +kernel
theorem dX8_moveTo_39 : decode cX8_moveTo 39 = .ok (.iload_n 1, 1) := by decide +kernel
theorem dX8_moveTo_40 : decode cX8_moveTo 40 = .ok (.imul, 1) := by decide +kernel
theorem dX8_moveTo_41 : decode cX8_moveTo 41 = .ok (.iload 5, 2) := by decide +kernel
theorem dX8_moveTo_43 : decode cX8_moveTo 43 = .ok (.iadd, 1) := by decide +kernel
theorem dX8_moveTo_44 : decode cX8_moveTo 44 = .ok (.imul, 1) := by decide +kernel
theorem dX8_moveTo_45 : decode cX8_moveTo 45 = .ok (.iload 6, 2) := by decide +kernel
theorem dX8_moveTo_47 : decode cX8_moveTo 47 = .ok (.iadd, 1) := by decide +kernel
theorem dX8_moveTo_48 : decode cX8_moveTo 48 = .ok (.istore 7, 2) := by decide +kernel
theorem dX8_moveTo_50 : decode cX8_moveTo 50 = .ok (.iload 6, 2) := by decide +kernel
theorem dX8_moveTo_52 : decode cX8_moveTo 52 = .ok (.ifCond .lt 106, 3) := by decide +kernel
theorem dX8_moveTo_55 : decode cX8_moveTo 55 = .ok (.aload_n 0, 1) := by decide +kernel
theorem dX8_moveTo_56 : decode cX8_moveTo 56 = .ok (.getfield 77, 3) := by decide +kernel
theorem dX8_moveTo_59 : decode cX8_moveTo 59 = .ok (.iload 7, 2) := by decide +kernel
theorem dX8_moveTo_61 : decode cX8_moveTo 61 = .ok (.iaload, 1) := by decide +kernel
theorem dX8_moveTo_62 : decode cX8_moveTo 62 = .ok (.iload_n 2, 1) := by decide +kernel
theorem dX8_moveTo_63 : decode cX8_moveTo 63 = .ok (.if_icmp .ne 95, 3) := by decide +kernel
theorem dX8_moveTo_66 : decode cX8_moveTo 66 = .ok (.aload_n 0, 1) := by decide +kernel
theorem dX8_moveTo_67 : decode cX8_moveTo 67 = .ok (.iload 7, 2) := by decide +kernel
theorem dX8_moveTo_69 : decode cX8_moveTo 69 = .ok (.invokevirtual 128, 3) := by decide +kernel
theorem dX8_moveTo_72 : decode cX8_moveTo 72 = .ok (.istore 8, 2) := by decide +kernel
theorem dX8_moveTo_74 : decode cX8_moveTo 74 = .ok (.aload_n 0, 1) := by decide +kernel
theorem dX8_moveTo_75 : decode cX8_moveTo 75 = .ok (.aload_n 0, 1) := by decide +kernel
theorem dX8_moveTo_76 : decode cX8_moveTo 76 = .ok (.iload_n 1, 1) := by decide +kernel
theorem dX8_moveTo_77 : decode cX8_moveTo 77 = .ok (.iload_n 2, 1) := by decide +kernel
theorem dX8_moveTo_78 : decode cX8_moveTo 78 = .ok (.iload 6, 2) := by decide +kernel
theorem dX8_moveTo_80 : decode cX8_moveTo 80 = .ok (.invokevirtual 144, 3) := by decide +kernel
theorem dX8_moveTo_83 : decode cX8_moveTo 83 = .ok (.iload 8, 2) := by decide +kernel
theorem dX8_moveTo_85 : decode cX8_moveTo 85 = .ok (.invokevirtual 140, 3) := by decide +kernel
theorem dX8_moveTo_88 : decode cX8_moveTo 88 = .ok (.aload_n 0, 1) := by decide +kernel
theorem dX8_moveTo_89 : decode cX8_moveTo 89 = .ok (.getfield 89, 3) := by decide +kernel
theorem dX8_moveTo_92 : decode cX8_moveTo 92 = .ok (.iconst 5, 1) := by decide +kernel
theorem dX8_moveTo_93 : decode cX8_moveTo 93 = .ok (.iload_n 1, 1) := by decide +kernel
theorem dX8_moveTo_94 : decode cX8_moveTo 94 = .ok (.imul, 1) := by decide +kernel
theorem dX8_moveTo_95 : decode cX8_moveTo 95 = .ok (.iload_n 2, 1) := by decide +kernel
theorem dX8_moveTo_96 : decode cX8_moveTo 96 = .ok (.iadd, 1) := by decide +kernel
theorem dX8_moveTo_97 : decode cX8_moveTo 97 = .ok (.iload 5, 2) := by decide +kernel
theorem dX8_moveTo_99 : decode cX8_moveTo 99 = .ok (.iconst 1, 1) := by decide +kernel
theorem dX8_moveTo_100 : decode cX8_moveTo 100 = .ok (.iadd, 1) := by decide +kernel
theorem dX8_moveTo_101 : decode cX8_moveTo 101 = .ok (.iconst 5, 1) := by decide +kernel
theorem dX8_moveTo_102 : decode cX8_moveTo 102 = .ok (.irem, 1) := by decide +kernel
theorem dX8_moveTo_103 : decode cX8_moveTo 103 = .ok (.iastore, 1) := by decide +kernel
theorem dX8_moveTo_104 : decode cX8_moveTo 104 = .ok (.aload_n 0, 1) := by decide +kernel
theorem dX8_moveTo_105 : decode cX8_moveTo 105 = .ok (.getfield 86, 3) := by decide +kernel
theorem dX8_moveTo_108 : decode cX8_moveTo 108 = .ok (.iconst 5, 1) := by decide +kernel
theorem dX8_moveTo_109 : decode cX8_moveTo 109 = .ok (.iload_n 1, 1) := by decide +kernel
theorem dX8_moveTo_110 : decode cX8_moveTo 110 = .ok (.imul, 1) := by decide +kernel
theorem dX8_moveTo_111 : decode cX8_moveTo 111 = .ok (.iload 5, 2) := by decide +kernel
theorem dX8_moveTo_113 : decode cX8_moveTo 113 = .ok (.iadd, 1) := by decide +kernel
theorem dX8_moveTo_114 : decode cX8_moveTo 114 = .ok (.iload 6, 2) := by decide +kernel
theorem dX8_moveTo_116 : decode cX8_moveTo 116 = .ok (.iconst 1, 1) := by decide +kernel
theorem dX8_moveTo_117 : decode cX8_moveTo 117 = .ok (.iadd, 1) := by decide +kernel
theorem dX8_moveTo_118 : decode cX8_moveTo 118 = .ok (.aload_n 0, 1) := by decide +kernel
theorem dX8_moveTo_119 : decode cX8_moveTo 119 = .ok (.getfield 108, 3) := by decide +kernel
theorem dX8_moveTo_122 : decode cX8_moveTo 122 = .ok (.irem, 1) := by decide +kernel
theorem dX8_moveTo_123 : decode cX8_moveTo 123 = .ok (.iastore, 1) := by decide +kernel
theorem dX8_moveTo_124 : decode cX8_moveTo 124 = .ok (.aload_n 0, 1) := by decide +kernel
theorem dX8_moveTo_125 : decode cX8_moveTo 125 = .ok (.iload 8, 2) := by decide +kernel
theorem dX8_moveTo_127 : decode cX8_moveTo 127 = .ok (.invokevirtual 125, 3) := by decide +kernel
theorem dX8_moveTo_130 : decode cX8_moveTo 130 = .ok (.ifCond .eq 27, 3) := by decide +kernel
theorem dX8_moveTo_133 : decode cX8_moveTo 133 = .ok (.aload_n 0, 1) := by decide +kernel
theorem dX8_moveTo_134 : decode cX8_moveTo 134 = .ok (.getfield 80, 3) := by decide +kernel
theorem dX8_moveTo_137 : decode cX8_moveTo 137 = .ok (.iconst 4, 1) := by decide +kernel
theorem dX8_moveTo_138 : decode cX8_moveTo 138 = .ok (.iconst 5, 1) := by decide +kernel
theorem dX8_moveTo_139 : decode cX8_moveTo 139 = .ok (.iload_n 1, 1) := by decide +kernel
theorem dX8_moveTo_140 : decode cX8_moveTo 140 = .ok (.imul, 1) := by decide +kernel
theorem dX8_moveTo_141 : decode cX8_moveTo 141 = .ok (.iload_n 2, 1) := by decide +kernel
theorem dX8_moveTo_142 : decode cX8_moveTo 142 = .ok (.iadd, 1) := by decide +kernel
theorem dX8_moveTo_143 : decode cX8_moveTo 143 = .ok (.imul, 1) := by decide +kernel
theorem dX8_moveTo_144 : decode cX8_moveTo 144 = .ok (.iload 6, 2) := by decide +kernel
theorem dX8_moveTo_146 : decode cX8_moveTo 146 = .ok (.iadd, 1) := by decide +kernel
theorem dX8_moveTo_147 : decode cX8_moveTo 147 = .ok (.iconst 0, 1) := by decide +kernel
theorem dX8_moveTo_148 : decode cX8_moveTo 148 = .ok (.bastore, 1) := by decide +kernel
theorem dX8_moveTo_149 : decode cX8_moveTo 149 = .ok (.aload_n 0, 1) := by decide +kernel
theorem dX8_moveTo_150 : decode cX8_moveTo 150 = .ok (.getfield 74, 3) := by decide +kernel
theorem dX8_moveTo_153 : decode cX8_moveTo 153 = .ok (.iload 7, 2) := by decide +kernel
theorem dX8_moveTo_155 : decode cX8_moveTo 155 = .ok (.iconst 0, 1) := by decide +kernel
theorem dX8_moveTo_156 : decode cX8_moveTo 156 = .ok (.iastore, 1) := by decide +kernel
theorem dX8_moveTo_157 : decode cX8_moveTo 157 = .ok (.return_, 1) := by decide +kernel
theorem dX8_moveTo_158 : decode cX8_moveTo 158 = .ok (.iinc 4 1, 3) := by decide +kernel
theorem dX8_moveTo_161 : decode cX8_moveTo 161 = .ok (.goto (-147), 3) := by decide +kernel
theorem dX8_moveTo_164 : decode cX8_moveTo 164 = .ok (.return_, 1) := by decide +kernel
theorem dX8_move_0 : decode cX8_move 0 = .ok (.iconst 0, 1) := by decide +kernel
theorem dX8_move_1 : decode cX8_move 1 = .ok (.istore_n 2, 1) := by decide +kernel
theorem dX8_move_2 : decode cX8_move 2 = .ok (.iload_n 2, 1) := by decide +kernel
theorem dX8_move_3 : decode cX8_move 3 = .ok (.iconst 5, 1) := by decide +kernel
theorem dX8_move_4 : decode cX8_move 4 = .ok (.if_icmp .ge 21, 3) := by decide +kernel
theorem dX8_move_7 : decode cX8_move 7 = .ok (.aload_n 0, 1) := by decide +kernel
theorem dX8_move_8 : decode cX8_move 8 = .ok (.getfield 92, 3) := by decide +kernel
theorem dX8_move_11 : decode cX8_move 11 = .ok (.iload_n 2, 1) := by decide +kernel
theorem dX8_move_12 : decode cX8_move 12 = .ok (.aload_n 0, 1) := by decide +kernel
theorem dX8_move_13 : decode cX8_move 13 = .ok (.iload_n 1, 1) := by decide +kernel
theorem dX8_move_14 : decode cX8_move 14 = .ok (.iload_n 2, 1) := by decide +kernel
theorem dX8_move_15 : decode cX8_move 15 = .ok (.invokevirtual 152, 3) := by decide +kernel
theorem dX8_move_18 : decode cX8_move 18 = .ok (.iastore, 1) := by decide +kernel
theorem dX8_move_19 : decode cX8_move 19 = .ok (.iinc 2 1, 3) := by decide +kernel
theorem dX8_move_22 : decode cX8_move 22 = .ok (.goto (-20), 3) := by decide +kernel
theorem dX8_move_25 : decode cX8_move 25 = .ok (.iconst 0, 1) := by decide +kernel
theorem dX8_move_26 : decode cX8_move 26 = .ok (.istore_n 2, 1) := by decide +kernel
theorem dX8_move_27 : decode cX8_move 27 = .ok (.iload_n 2, 1) := by decide +kernel
theorem dX8_move_28 : decode cX8_move 28 = .ok (.iconst 5, 1) := by decide +kernel
theorem dX8_move_29 : decode cX8_move 29 = .ok (.if_icmp .ge 15, 3) := by decide +kernel
theorem dX8_move_32 : decode cX8_move 32 = .ok (.aload_n 0, 1) := by decide +kernel
theorem dX8_move_33 : decode cX8_move 33 = .ok (.iload_n 1, 1) := by decide +kernel
theorem dX8_move_34 : decode cX8_move 34 = .ok (.iload_n 2, 1) := by decide +kernel
theorem dX8_move_35 : decode cX8_move 35 = .ok (.invokevirtual 156, 3) := by decide +kernel
theorem dX8_move_38 : decode cX8_move 38 = .ok (.iinc 2 1, 3) := by decide +kernel
theorem dX8_move_41 : decode cX8_move 41 = .ok (.goto (-14), 3) := by decide +kernel
theorem dX8_move_44 : decode cX8_move 44 = .ok (.return_, 1) := by decide +kernel
theorem dX8_grant_0 : decode cX8_grant 0 = .ok (.iconst 4, 1) := by decide +kernel
theorem dX8_grant_1 : decode cX8_grant 1 = .ok (.iconst 5, 1) := by decide +kernel
theorem dX8_grant_2 : decode cX8_grant 2 = .ok (.iload_n 1, 1) := by decide +kernel
theorem dX8_grant_3 : decode cX8_grant 3 = .ok (.imul, 1) := by decide +kernel
theorem dX8_grant_4 : decode cX8_grant 4 = .ok (.iload_n 2, 1) := by decide +kernel
theorem dX8_grant_5 : decode cX8_grant 5 = .ok (.iadd, 1) := by decide +kernel
theorem dX8_grant_6 : decode cX8_grant 6 = .ok (.imul, 1) := by decide +kernel
theorem dX8_grant_7 : decode cX8_grant 7 = .ok (.iload_n 3, 1) := by decide +kernel
theorem dX8_grant_8 : decode cX8_grant 8 = .ok (.iadd, 1) := by decide +kernel
theorem dX8_grant_9 : decode cX8_grant 9 = .ok (.istore 4, 2) := by decide +kernel
theorem dX8_grant_11 : decode cX8_grant 11 = .ok (.aload_n 0, 1) := by decide +kernel
theorem dX8_grant_12 : decode cX8_grant 12 = .ok (.getfield 80, 3) := by decide +kernel
theorem dX8_grant_15 : decode cX8_grant 15 = .ok (.iload 4, 2) := by decide +kernel
theorem dX8_grant_17 : decode cX8_grant 17 = .ok (.baload, 1) := by decide +kernel
theorem dX8_grant_18 : decode cX8_grant 18 = .ok (.ifCond .eq 4, 3) := by decide +kernel
theorem dX8_grant_21 : decode cX8_grant 21 = .ok (.return_, 1) := by decide +kernel
theorem dX8_grant_22 : decode cX8_grant 22 = .ok (.iconst 0, 1) := by decide +kernel
theorem dX8_grant_23 : decode cX8_grant 23 = .ok (.istore 5, 2) := by decide +kernel
theorem dX8_grant_25 : decode cX8_grant 25 = .ok (.iload 5, 2) := by decide +kernel
theorem dX8_grant_27 : decode cX8_grant 27 = .ok (.iconst 5, 1) := by decide +kernel
theorem dX8_grant_28 : decode cX8_grant 28 = .ok (.if_icmp .ge 87, 3) := by decide +kernel
theorem dX8_grant_31 : decode cX8_grant 31 = .ok (.aload_n 0, 1) := by decide +kernel
theorem dX8_grant_32 : decode cX8_grant 32 = .ok (.getfield 83, 3) := by decide +kernel
theorem dX8_grant_35 : decode cX8_grant 35 = .ok (.iload 4, 2) := by decide +kernel
theorem dX8_grant_37 : decode cX8_grant 37 = .ok (.iaload, 1) := by decide +kernel
theorem dX8_grant_38 : decode cX8_grant 38 = .ok (.iload 5, 2) := by decide +kernel
theorem dX8_grant_40 : decode cX8_grant 40 = .ok (.iadd, 1) := by decide +kernel
theorem dX8_grant_41 : decode cX8_grant 41 = .ok (.iconst 5, 1) := by decide +kernel
theorem dX8_grant_42 : decode cX8_grant 42 = .ok (.irem, 1) := by decide +kernel
theorem dX8_grant_43 : decode cX8_grant 43 = .ok (.istore 6, 2) := by decide +kernel
theorem dX8_grant_45 : decode cX8_grant 45 = .ok (.iconst 4, 1) := by decide +kernel
theorem dX8_grant_46 : decode cX8_grant 46 = .ok (.iconst 5, 1) := by decide +kernel
theorem dX8_grant_47 : decode cX8_grant 47 = .ok (.iload_n 1, 1) := by decide +kernel
theorem dX8_grant_48 : decode cX8_grant 48 = .ok (.imul, 1) := by decide +kernel
theorem dX8_grant_49 : decode cX8_grant 49 = .ok (.iload 6, 2) := by decide +kernel
theorem dX8_grant_51 : decode cX8_grant 51 = .ok (.iadd, 1) := by decide +kernel
theorem dX8_grant_52 : decode cX8_grant 52 = .ok (.imul, 1) := by decide +kernel
theorem dX8_grant_53 : decode cX8_grant 53 = .ok (.iload_n 3, 1) := by decide +kernel
theorem dX8_grant_54 : decode cX8_grant 54 = .ok (.iadd, 1) := by decide +kernel
theorem dX8_grant_55 : decode cX8_grant 55 = .ok (.istore 7, 2) := by decide +kernel
theorem dX8_grant_57 : decode cX8_grant 57 = .ok (.aload_n 0, 1) := by decide +kernel
theorem dX8_grant_58 : decode cX8_grant 58 = .ok (.getfield 74, 3) := by decide +kernel
theorem dX8_grant_61 : decode cX8_grant 61 = .ok (.iload 7, 2) := by decide +kernel
theorem dX8_grant_63 : decode cX8_grant 63 = .ok (.iaload, 1) := by decide +kernel
theorem dX8_grant_64 : decode cX8_grant 64 = .ok (.iconst 1, 1) := by decide +kernel
theorem dX8_grant_65 : decode cX8_grant 65 = .ok (.if_icmp .ne 44, 3) := by decide +kernel
theorem dX8_grant_68 : decode cX8_grant 68 = .ok (.aload_n 0, 1) := by decide +kernel
theorem dX8_grant_69 : decode cX8_grant 69 = .ok (.getfield 77, 3) := by decide +kernel
theorem dX8_grant_72 : decode cX8_grant 72 = .ok (.iload 7, 2) := by decide +kernel
theorem dX8_grant_74 : decode cX8_grant 74 = .ok (.iaload, 1) := by decide +kernel
theorem dX8_grant_75 : decode cX8_grant 75 = .ok (.iload_n 2, 1) := by decide +kernel
theorem dX8_grant_76 : decode cX8_grant 76 = .ok (.if_icmp .ne 33, 3) := by decide +kernel
theorem dX8_grant_79 : decode cX8_grant 79 = .ok (.aload_n 0, 1) := by decide +kernel
theorem dX8_grant_80 : decode cX8_grant 80 = .ok (.getfield 80, 3) := by decide +kernel
theorem dX8_grant_83 : decode cX8_grant 83 = .ok (.iload 4, 2) := by decide +kernel
theorem dX8_grant_85 : decode cX8_grant 85 = .ok (.iconst 1, 1) := by decide +kernel
theorem dX8_grant_86 : decode cX8_grant 86 = .ok (.bastore, 1) := by decide +kernel
theorem dX8_grant_87 : decode cX8_grant 87 = .ok (.aload_n 0, 1) := by decide +kernel
theorem dX8_grant_88 : decode cX8_grant 88 = .ok (.getfield 74, 3) := by decide +kernel
theorem dX8_grant_91 : decode cX8_grant 91 = .ok (.iload 7, 2) := by decide +kernel
theorem dX8_grant_93 : decode cX8_grant 93 = .ok (.iconst 2, 1) := by decide +kernel
theorem dX8_grant_94 : decode cX8_grant 94 = .ok (.iastore, 1) := by decide +kernel
theorem dX8_grant_95 : decode cX8_grant 95 = .ok (.aload_n 0, 1) := by decide +kernel
theorem dX8_grant_96 : decode cX8_grant 96 = .ok (.getfield 83, 3) := by decide +kernel
theorem dX8_grant_99 : decode cX8_grant 99 = .ok (.iload 4, 2) := by decide +kernel
theorem dX8_grant_101 : decode cX8_grant 101 = .ok (.iload 6, 2) := by decide +kernel
theorem dX8_grant_103 : decode cX8_grant 103 = .ok (.iconst 1, 1) := by decide +kernel
theorem dX8_grant_104 : decode cX8_grant 104 = .ok (.iadd, 1) := by decide +kernel
theorem dX8_grant_105 : decode cX8_grant 105 = .ok (.iconst 5, 1) := by decide +kernel
theorem dX8_grant_106 : decode cX8_grant 106 = .ok (.irem, 1) := by decide +kernel
theorem dX8_grant_107 : decode cX8_grant 107 = .ok (.iastore, 1) := by decide +kernel
theorem dX8_grant_108 : decode cX8_grant 108 = .ok (.return_, 1) := by decide +kernel
theorem dX8_grant_109 : decode cX8_grant 109 = .ok (.iinc 5 1, 3) := by decide +kernel
theorem dX8_grant_112 : decode cX8_grant 112 = .ok (.goto (-87), 3) := by decide +kernel
theorem dX8_grant_115 : decode cX8_grant 115 = .ok (.return_, 1) := by decide +kernel
theorem dX8_route_0 : decode cX8_route 0 = .ok (.aload_n 0, 1) := by decide +kernel
theorem dX8_route_1 : decode cX8_route 1 = .ok (.getfield 74, 3) := by decide +kernel
theorem dX8_route_4 : decode cX8_route 4 = .ok (.iload_n 2, 1) := by decide +kernel
theorem dX8_route_5 : decode cX8_route 5 = .ok (.iaload, 1) := by decide +kernel
theorem dX8_route_6 : decode cX8_route 6 = .ok (.ifCond .ne 12, 3) := by decide +kernel
theorem dX8_route_9 : decode cX8_route 9 = .ok (.aload_n 0, 1) := by decide +kernel
theorem dX8_route_10 : decode cX8_route 10 = .ok (.getfield 59, 3) := by decide +kernel
theorem dX8_route_13 : decode cX8_route 13 = .ok (.iload_n 2, 1) := by decide +kernel
theorem dX8_route_14 : decode cX8_route 14 = .ok (.iaload, 1) := by decide +kernel
theorem dX8_route_15 : decode cX8_route 15 = .ok (.ifCond .ne 4, 3) := by decide +kernel
theorem dX8_route_18 : decode cX8_route 18 = .ok (.return_, 1) := by decide +kernel
theorem dX8_route_19 : decode cX8_route 19 = .ok (.aload_n 0, 1) := by decide +kernel
theorem dX8_route_20 : decode cX8_route 20 = .ok (.aload_n 0, 1) := by decide +kernel
theorem dX8_route_21 : decode cX8_route 21 = .ok (.getfield 62, 3) := by decide +kernel
theorem dX8_route_24 : decode cX8_route 24 = .ok (.iconst 4, 1) := by decide +kernel
theorem dX8_route_25 : decode cX8_route 25 = .ok (.iload_n 2, 1) := by decide +kernel
theorem dX8_route_26 : decode cX8_route 26 = .ok (.imul, 1) := by decide +kernel
theorem dX8_route_27 : decode cX8_route 27 = .ok (.iaload, 1) := by decide +kernel
theorem dX8_route_28 : decode cX8_route 28 = .ok (.iconst 4, 1) := by decide +kernel
theorem dX8_route_29 : decode cX8_route 29 = .ok (.idiv, 1) := by decide +kernel
theorem dX8_route_30 : decode cX8_route 30 = .ok (.invokevirtual 159, 3) := by decide +kernel
theorem dX8_route_33 : decode cX8_route 33 = .ok (.istore_n 3, 1) := by decide +kernel
theorem dX8_route_34 : decode cX8_route 34 = .ok (.iload_n 3, 1) := by decide +kernel
theorem dX8_route_35 : decode cX8_route 35 = .ok (.aload_n 0, 1) := by decide +kernel
theorem dX8_route_36 : decode cX8_route 36 = .ok (.getfield 95, 3) := by decide +kernel
theorem dX8_route_39 : decode cX8_route 39 = .ok (.irem, 1) := by decide +kernel
theorem dX8_route_40 : decode cX8_route 40 = .ok (.iload_n 1, 1) := by decide +kernel
theorem dX8_route_41 : decode cX8_route 41 = .ok (.aload_n 0, 1) := by decide +kernel
theorem dX8_route_42 : decode cX8_route 42 = .ok (.getfield 95, 3) := by decide +kernel
theorem dX8_route_45 : decode cX8_route 45 = .ok (.irem, 1) := by decide +kernel
theorem dX8_route_46 : decode cX8_route 46 = .ok (.isub, 1) := by decide +kernel
theorem dX8_route_47 : decode cX8_route 47 = .ok (.istore 4, 2) := by decide +kernel
theorem dX8_route_49 : decode cX8_route 49 = .ok (.iload_n 3, 1) := by decide +kernel
theorem dX8_route_50 : decode cX8_route 50 = .ok (.aload_n 0, 1) := by decide +kernel
theorem dX8_route_51 : decode cX8_route 51 = .ok (.getfield 95, 3) := by decide +kernel
theorem dX8_route_54 : decode cX8_route 54 = .ok (.idiv, 1) := by decide +kernel
theorem dX8_route_55 : decode cX8_route 55 = .ok (.iload_n 1, 1) := by decide +kernel
theorem dX8_route_56 : decode cX8_route 56 = .ok (.aload_n 0, 1) := by decide +kernel
theorem dX8_route_57 : decode cX8_route 57 = .ok (.getfield 95, 3) := by decide +kernel
theorem dX8_route_60 : decode cX8_route 60 = .ok (.idiv, 1) := by decide +kernel
theorem dX8_route_61 : decode cX8_route 61 = .ok (.isub, 1) := by decide +kernel
theorem dX8_route_62 : decode cX8_route 62 = .ok (.istore 5, 2) := by decide +kernel
theorem dX8_route_64 : decode cX8_route 64 = .ok (.aload_n 0, 1) := by decide +kernel
theorem dX8_route_65 : decode cX8_route 65 = .ok (.getfield 77, 3) := by decide +kernel
theorem dX8_route_68 : decode cX8_route 68 = .ok (.iload_n 2, 1) := by decide +kernel
theorem dX8_route_69 : decode cX8_route 69 = .ok (.iload 4, 2) := by decide +kernel
theorem dX8_route_71 : decode cX8_route 71 = .ok (.ifCond .le 7, 3) := by decide +kernel
theorem dX8_route_74 : decode cX8_route 74 = .ok (.iconst 1, 1) := by decide +kernel
theorem dX8_route_75 : decode cX8_route 75 = .ok (.goto 31, 3) := by decide +kernel
theorem dX8_route_78 : decode cX8_route 78 = .ok (.iload 4, 2) := by decide +kernel
theorem dX8_route_80 : decode cX8_route 80 = .ok (.ifCond .ge 7, 3) := by decide +kernel
theorem dX8_route_83 : decode cX8_route 83 = .ok (.iconst 2, 1) := by decide +kernel
theorem dX8_route_84 : decode cX8_route 84 = .ok (.goto 22, 3) := by decide +kernel
theorem dX8_route_87 : decode cX8_route 87 = .ok (.iload 5, 2) := by decide +kernel
theorem dX8_route_89 : decode cX8_route 89 = .ok (.ifCond .le 7, 3) := by decide +kernel
theorem dX8_route_92 : decode cX8_route 92 = .ok (.iconst 3, 1) := by decide +kernel
theorem dX8_route_93 : decode cX8_route 93 = .ok (.goto 13, 3) := by decide +kernel
theorem dX8_route_96 : decode cX8_route 96 = .ok (.iload 5, 2) := by decide +kernel
theorem dX8_route_98 : decode cX8_route 98 = .ok (.ifCond .ge 7, 3) := by decide +kernel
theorem dX8_route_101 : decode cX8_route 101 = .ok (.iconst 4, 1) := by decide +kernel
theorem dX8_route_102 : decode cX8_route 102 = .ok (.goto 4, 3) := by decide +kernel
theorem dX8_route_105 : decode cX8_route 105 = .ok (.iconst 0, 1) := by decide +kernel
theorem dX8_route_106 : decode cX8_route 106 = .ok (.iastore, 1) := by decide +kernel
theorem dX8_route_107 : decode cX8_route 107 = .ok (.aload_n 0, 1) := by decide +kernel
theorem dX8_route_108 : decode cX8_route 108 = .ok (.getfield 74, 3) := by decide +kernel
theorem dX8_route_111 : decode cX8_route 111 = .ok (.iload_n 2, 1) := by decide +kernel
theorem dX8_route_112 : decode cX8_route 112 = .ok (.iconst 1, 1) := by decide +kernel
theorem dX8_route_113 : decode cX8_route 113 = .ok (.iastore, 1) := by decide +kernel
theorem dX8_route_114 : decode cX8_route 114 = .ok (.return_, 1) := by decide +kernel
theorem dX8_tick_0 : decode cX8_tick 0 = .ok (.aload_n 0, 1) := by decide +kernel
theorem dX8_tick_1 : decode cX8_tick 1 = .ok (.getfield 95, 3) := by decide +kernel
theorem dX8_tick_4 : decode cX8_tick 4 = .ok (.aload_n 0, 1) := by decide +kernel
theorem dX8_tick_5 : decode cX8_tick 5 = .ok (.getfield 99, 3) := by decide +kernel
theorem dX8_tick_8 : decode cX8_tick 8 = .ok (.imul, 1) := by decide +kernel
theorem dX8_tick_9 : decode cX8_tick 9 = .ok (.istore_n 1, 1) := by decide +kernel
theorem dX8_tick_10 : decode cX8_tick 10 = .ok (.aload_n 0, 1) := by decide +kernel
theorem dX8_tick_11 : decode cX8_tick 11 = .ok (.dup, 1) := by decide +kernel
theorem dX8_tick_12 : decode cX8_tick 12 = .ok (.getfield 134, 3) := by decide +kernel
theorem dX8_tick_15 : decode cX8_tick 15 = .ok (.iconst 1, 1) := by decide +kernel
theorem dX8_tick_16 : decode cX8_tick 16 = .ok (.iadd, 1) := by decide +kernel
theorem dX8_tick_17 : decode cX8_tick 17 = .ok (.putfield 134, 3) := by decide +kernel
theorem dX8_tick_20 : decode cX8_tick 20 = .ok (.aload_n 0, 1) := by decide +kernel
theorem dX8_tick_21 : decode cX8_tick 21 = .ok (.iconst 0, 1) := by decide +kernel
theorem dX8_tick_22 : decode cX8_tick 22 = .ok (.putfield 122, 3) := by decide +kernel
theorem dX8_tick_25 : decode cX8_tick 25 = .ok (.aload_n 0, 1) := by decide +kernel
theorem dX8_tick_26 : decode cX8_tick 26 = .ok (.invokevirtual 162, 3) := by decide +kernel
theorem dX8_tick_29 : decode cX8_tick 29 = .ok (.iconst 0, 1) := by decide +kernel
theorem dX8_tick_30 : decode cX8_tick 30 = .ok (.istore_n 2, 1) := by decide +kernel
theorem dX8_tick_31 : decode cX8_tick 31 = .ok (.iload_n 2, 1) := by decide +kernel
theorem dX8_tick_32 : decode cX8_tick 32 = .ok (.iload_n 1, 1) := by decide +kernel
theorem dX8_tick_33 : decode cX8_tick 33 = .ok (.if_icmp .ge 31, 3) := by decide +kernel
theorem dX8_tick_36 : decode cX8_tick 36 = .ok (.iconst 0, 1) := by decide +kernel
theorem dX8_tick_37 : decode cX8_tick 37 = .ok (.istore_n 3, 1) := by decide +kernel
theorem dX8_tick_38 : decode cX8_tick 38 = .ok (.iload_n 3, 1) := by decide +kernel
theorem dX8_tick_39 : decode cX8_tick 39 = .ok (.aload_n 0, 1) := by decide +kernel
theorem dX8_tick_40 : decode cX8_tick 40 = .ok (.getfield 108, 3) := by decide +kernel
theorem dX8_tick_43 : decode cX8_tick 43 = .ok (.if_icmp .ge 15, 3) := by decide +kernel
theorem dX8_tick_46 : decode cX8_tick 46 = .ok (.aload_n 0, 1) := by decide +kernel
theorem dX8_tick_47 : decode cX8_tick 47 = .ok (.iload_n 2, 1) := by decide +kernel
theorem dX8_tick_48 : decode cX8_tick 48 = .ok (.iload_n 3, 1) := by decide +kernel
theorem dX8_tick_49 : decode cX8_tick 49 = .ok (.invokevirtual 165, 3) := by decide +kernel
theorem dX8_tick_52 : decode cX8_tick 52 = .ok (.iinc 3 1, 3) := by decide +kernel
theorem dX8_tick_55 : decode cX8_tick 55 = .ok (.goto (-17), 3) := by decide +kernel
theorem dX8_tick_58 : decode cX8_tick 58 = .ok (.iinc 2 1, 3) := by decide +kernel
theorem dX8_tick_61 : decode cX8_tick 61 = .ok (.goto (-30), 3) := by decide +kernel
theorem dX8_tick_64 : decode cX8_tick 64 = .ok (.iconst 0, 1) := by decide +kernel
theorem dX8_tick_65 : decode cX8_tick 65 = .ok (.istore_n 2, 1) := by decide +kernel
theorem dX8_tick_66 : decode cX8_tick 66 = .ok (.iload_n 2, 1) := by decide +kernel
theorem dX8_tick_67 : decode cX8_tick 67 = .ok (.iload_n 1, 1) := by decide +kernel
theorem dX8_tick_68 : decode cX8_tick 68 = .ok (.if_icmp .ge 14, 3) := by decide +kernel
theorem dX8_tick_71 : decode cX8_tick 71 = .ok (.aload_n 0, 1) := by decide +kernel
theorem dX8_tick_72 : decode cX8_tick 72 = .ok (.iload_n 2, 1) := by decide +kernel
theorem dX8_tick_73 : decode cX8_tick 73 = .ok (.invokevirtual 168, 3) := by decide +kernel
theorem dX8_tick_76 : decode cX8_tick 76 = .ok (.iinc 2 1, 3) := by decide +kernel
theorem dX8_tick_79 : decode cX8_tick 79 = .ok (.goto (-13), 3) := by decide +kernel
theorem dX8_tick_82 : decode cX8_tick 82 = .ok (.iconst 0, 1) := by decide +kernel
theorem dX8_tick_83 : decode cX8_tick 83 = .ok (.istore_n 2, 1) := by decide +kernel
theorem dX8_tick_84 : decode cX8_tick 84 = .ok (.iload_n 2, 1) := by decide +kernel
theorem dX8_tick_85 : decode cX8_tick 85 = .ok (.iload_n 1, 1) := by decide +kernel
theorem dX8_tick_86 : decode cX8_tick 86 = .ok (.if_icmp .ge 14, 3) := by decide +kernel
theorem dX8_tick_89 : decode cX8_tick 89 = .ok (.aload_n 0, 1) := by decide +kernel
theorem dX8_tick_90 : decode cX8_tick 90 = .ok (.iload_n 2, 1) := by decide +kernel
theorem dX8_tick_91 : decode cX8_tick 91 = .ok (.invokevirtual 172, 3) := by decide +kernel
theorem dX8_tick_94 : decode cX8_tick 94 = .ok (.iinc 2 1, 3) := by decide +kernel
theorem dX8_tick_97 : decode cX8_tick 97 = .ok (.goto (-13), 3) := by decide +kernel
theorem dX8_tick_100 : decode cX8_tick 100 = .ok (.iconst 0, 1) := by decide +kernel
theorem dX8_tick_101 : decode cX8_tick 101 = .ok (.istore_n 2, 1) := by decide +kernel
theorem dX8_tick_102 : decode cX8_tick 102 = .ok (.iload_n 2, 1) := by decide +kernel
theorem dX8_tick_103 : decode cX8_tick 103 = .ok (.bipush 20, 2) := by decide +kernel
theorem dX8_tick_105 : decode cX8_tick 105 = .ok (.iload_n 1, 1) := by decide +kernel
theorem dX8_tick_106 : decode cX8_tick 106 = .ok (.imul, 1) := by decide +kernel
theorem dX8_tick_107 : decode cX8_tick 107 = .ok (.if_icmp .ge 35, 3) := by decide +kernel
theorem dX8_tick_110 : decode cX8_tick 110 = .ok (.iload_n 2, 1) := by decide +kernel
theorem dX8_tick_111 : decode cX8_tick 111 = .ok (.iconst 4, 1) := by decide +kernel
theorem dX8_tick_112 : decode cX8_tick 112 = .ok (.irem, 1) := by decide +kernel
theorem dX8_tick_113 : decode cX8_tick 113 = .ok (.aload_n 0, 1) := by decide +kernel
theorem dX8_tick_114 : decode cX8_tick 114 = .ok (.getfield 108, 3) := by decide +kernel
theorem dX8_tick_117 : decode cX8_tick 117 = .ok (.if_icmp .ge 19, 3) := by decide +kernel
theorem dX8_tick_120 : decode cX8_tick 120 = .ok (.aload_n 0, 1) := by decide +kernel
theorem dX8_tick_121 : decode cX8_tick 121 = .ok (.iload_n 2, 1) := by decide +kernel
theorem dX8_tick_122 : decode cX8_tick 122 = .ok (.bipush 20, 2) := by decide +kernel
theorem dX8_tick_124 : decode cX8_tick 124 = .ok (.idiv, 1) := by decide +kernel
theorem dX8_tick_125 : decode cX8_tick 125 = .ok (.iload_n 2, 1) := by decide +kernel
theorem dX8_tick_126 : decode cX8_tick 126 = .ok (.iconst 4, 1) := by decide +kernel
theorem dX8_tick_127 : decode cX8_tick 127 = .ok (.idiv, 1) := by decide +kernel
theorem dX8_tick_128 : decode cX8_tick 128 = .ok (.iconst 5, 1) := by decide +kernel
theorem dX8_tick_129 : decode cX8_tick 129 = .ok (.irem, 1) := by decide +kernel
theorem dX8_tick_130 : decode cX8_tick 130 = .ok (.iload_n 2, 1) := by decide +kernel
theorem dX8_tick_131 : decode cX8_tick 131 = .ok (.iconst 4, 1) := by decide +kernel
theorem dX8_tick_132 : decode cX8_tick 132 = .ok (.irem, 1) := by decide +kernel
theorem dX8_tick_133 : decode cX8_tick 133 = .ok (.invokevirtual 175, 3) := by decide +kernel
theorem dX8_tick_136 : decode cX8_tick 136 = .ok (.iinc 2 1, 3) := by decide +kernel
theorem dX8_tick_139 : decode cX8_tick 139 = .ok (.goto (-37), 3) := by decide +kernel
theorem dX8_tick_142 : decode cX8_tick 142 = .ok (.iconst 0, 1) := by decide +kernel
theorem dX8_tick_143 : decode cX8_tick 143 = .ok (.istore_n 2, 1) := by decide +kernel
theorem dX8_tick_144 : decode cX8_tick 144 = .ok (.iload_n 2, 1) := by decide +kernel
theorem dX8_tick_145 : decode cX8_tick 145 = .ok (.bipush 20, 2) := by decide +kernel
theorem dX8_tick_147 : decode cX8_tick 147 = .ok (.iload_n 1, 1) := by decide +kernel
theorem dX8_tick_148 : decode cX8_tick 148 = .ok (.imul, 1) := by decide +kernel
theorem dX8_tick_149 : decode cX8_tick 149 = .ok (.if_icmp .ge 18, 3) := by decide +kernel
theorem dX8_tick_152 : decode cX8_tick 152 = .ok (.aload_n 0, 1) := by decide +kernel
theorem dX8_tick_153 : decode cX8_tick 153 = .ok (.iload_n 2, 1) := by decide +kernel
theorem dX8_tick_154 : decode cX8_tick 154 = .ok (.bipush 20, 2) := by decide +kernel
theorem dX8_tick_156 : decode cX8_tick 156 = .ok (.idiv, 1) := by decide +kernel
theorem dX8_tick_157 : decode cX8_tick 157 = .ok (.iload_n 2, 1) := by decide +kernel
theorem dX8_tick_158 : decode cX8_tick 158 = .ok (.invokevirtual 179, 3) := by decide +kernel
theorem dX8_tick_161 : decode cX8_tick 161 = .ok (.iinc 2 1, 3) := by decide +kernel
theorem dX8_tick_164 : decode cX8_tick 164 = .ok (.goto (-20), 3) := by decide +kernel
theorem dX8_tick_167 : decode cX8_tick 167 = .ok (.return_, 1) := by decide +kernel
theorem dX8_run_0 : decode cX8_run 0 = .ok (.iload_n 1, 1) := by decide +kernel
theorem dX8_run_1 : decode cX8_run 1 = .ok (.ifCond .lt 9, 3) := by decide +kernel
theorem dX8_run_4 : decode cX8_run 4 = .ok (.iload_n 1, 1) := by decide +kernel
theorem dX8_run_5 : decode cX8_run 5 = .ok (.bipush 60, 2) := by decide +kernel
theorem dX8_run_7 : decode cX8_run 7 = .ok (.if_icmp .le 5, 3) := by decide +kernel
theorem dX8_run_10 : decode cX8_run 10 = .ok (.iconst (-1), 1) := by decide +kernel
theorem dX8_run_11 : decode cX8_run 11 = .ok (.ireturn, 1) := by decide +kernel
theorem dX8_run_12 : decode cX8_run 12 = .ok (.aload_n 0, 1) := by decide +kernel
theorem dX8_run_13 : decode cX8_run 13 = .ok (.getfield 131, 3) := by decide +kernel
theorem dX8_run_16 : decode cX8_run 16 = .ok (.istore_n 2, 1) := by decide +kernel
theorem dX8_run_17 : decode cX8_run 17 = .ok (.iconst 0, 1) := by decide +kernel
theorem dX8_run_18 : decode cX8_run 18 = .ok (.istore_n 3, 1) := by decide +kernel
theorem dX8_run_19 : decode cX8_run 19 = .ok (.iload_n 3, 1) := by decide +kernel
theorem dX8_run_20 : decode cX8_run 20 = .ok (.iload_n 1, 1) := by decide +kernel
theorem dX8_run_21 : decode cX8_run 21 = .ok (.if_icmp .ge 13, 3) := by decide +kernel
theorem dX8_run_24 : decode cX8_run 24 = .ok (.aload_n 0, 1) := by decide +kernel
theorem dX8_run_25 : decode cX8_run 25 = .ok (.invokevirtual 182, 3) := by decide +kernel
theorem dX8_run_28 : decode cX8_run 28 = .ok (.iinc 3 1, 3) := by decide +kernel
theorem dX8_run_31 : decode cX8_run 31 = .ok (.goto (-12), 3) := by decide +kernel
theorem dX8_run_34 : decode cX8_run 34 = .ok (.aload_n 0, 1) := by decide +kernel
theorem dX8_run_35 : decode cX8_run 35 = .ok (.getfield 131, 3) := by decide +kernel
theorem dX8_run_38 : decode cX8_run 38 = .ok (.iload_n 2, 1) := by decide +kernel
theorem dX8_run_39 : decode cX8_run 39 = .ok (.isub, 1) := by decide +kernel
theorem dX8_run_40 : decode cX8_run 40 = .ok (.ireturn, 1) := by decide +kernel
theorem dX8_ticks_0 : decode cX8_ticks 0 = .ok (.aload_n 0, 1) := by decide +kernel
theorem dX8_ticks_1 : decode cX8_ticks 1 = .ok (.getfield 134, 3) := by decide +kernel
theorem dX8_ticks_4 : decode cX8_ticks 4 = .ok (.ireturn, 1) := by decide +kernel
theorem dX8_replies_0 : decode cX8_replies 0 = .ok (.aload_n 0, 1) := by decide +kernel
theorem dX8_replies_1 : decode cX8_replies 1 = .ok (.getfield 131, 3) := by decide +kernel
theorem dX8_replies_4 : decode cX8_replies 4 = .ok (.ireturn, 1) := by decide +kernel
theorem dX8_reply_0 : decode cX8_reply 0 = .ok (.iload_n 1, 1) := by decide +kernel
theorem dX8_reply_1 : decode cX8_reply 1 = .ok (.ifCond .lt 20, 3) := by decide +kernel
theorem dX8_reply_4 : decode cX8_reply 4 = .ok (.iload_n 1, 1) := by decide +kernel
theorem dX8_reply_5 : decode cX8_reply 5 = .ok (.aload_n 0, 1) := by decide +kernel
theorem dX8_reply_6 : decode cX8_reply 6 = .ok (.getfield 131, 3) := by decide +kernel
theorem dX8_reply_9 : decode cX8_reply 9 = .ok (.if_icmp .ge 12, 3) := by decide +kernel
theorem dX8_reply_12 : decode cX8_reply 12 = .ok (.iload_n 2, 1) := by decide +kernel
theorem dX8_reply_13 : decode cX8_reply 13 = .ok (.ifCond .lt 8, 3) := by decide +kernel
theorem dX8_reply_16 : decode cX8_reply 16 = .ok (.iload_n 2, 1) := by decide +kernel
theorem dX8_reply_17 : decode cX8_reply 17 = .ok (.iconst 2, 1) := by decide +kernel
theorem dX8_reply_18 : decode cX8_reply 18 = .ok (.if_icmp .le 5, 3) := by decide +kernel
theorem dX8_reply_21 : decode cX8_reply 21 = .ok (.iconst (-1), 1) := by decide +kernel
theorem dX8_reply_22 : decode cX8_reply 22 = .ok (.ireturn, 1) := by decide +kernel
theorem dX8_reply_23 : decode cX8_reply 23 = .ok (.iload_n 2, 1) := by decide +kernel
theorem dX8_reply_24 : decode cX8_reply 24 = .ok (.ifCond .ne 12, 3) := by decide +kernel
theorem dX8_reply_27 : decode cX8_reply 27 = .ok (.aload_n 0, 1) := by decide +kernel
theorem dX8_reply_28 : decode cX8_reply 28 = .ok (.getfield 29, 3) := by decide +kernel
theorem dX8_reply_31 : decode cX8_reply 31 = .ok (.iload_n 1, 1) := by decide +kernel
theorem dX8_reply_32 : decode cX8_reply 32 = .ok (.iaload, 1) := by decide +kernel
theorem dX8_reply_33 : decode cX8_reply 33 = .ok (.goto 28, 3) := by decide +kernel
theorem dX8_reply_36 : decode cX8_reply 36 = .ok (.iload_n 2, 1) := by decide +kernel
theorem dX8_reply_37 : decode cX8_reply 37 = .ok (.iconst 1, 1) := by decide +kernel
theorem dX8_reply_38 : decode cX8_reply 38 = .ok (.if_icmp .ne 17, 3) := by decide +kernel
theorem dX8_reply_41 : decode cX8_reply 41 = .ok (.aload_n 0, 1) := by decide +kernel
theorem dX8_reply_42 : decode cX8_reply 42 = .ok (.getfield 26, 3) := by decide +kernel
theorem dX8_reply_45 : decode cX8_reply 45 = .ok (.aload_n 0, 1) := by decide +kernel
theorem dX8_reply_46 : decode cX8_reply 46 = .ok (.getfield 29, 3) := by decide +kernel
theorem dX8_reply_49 : decode cX8_reply 49 = .ok (.iload_n 1, 1) := by decide +kernel
theorem dX8_reply_50 : decode cX8_reply 50 = .ok (.iaload, 1) := by decide +kernel
theorem dX8_reply_51 : decode cX8_reply 51 = .ok (.iaload, 1) := by decide +kernel
theorem dX8_reply_52 : decode cX8_reply 52 = .ok (.goto 9, 3) := by decide +kernel
theorem dX8_reply_55 : decode cX8_reply 55 = .ok (.aload_n 0, 1) := by decide +kernel
theorem dX8_reply_56 : decode cX8_reply 56 = .ok (.getfield 32, 3) := by decide +kernel
theorem dX8_reply_59 : decode cX8_reply 59 = .ok (.iload_n 1, 1) := by decide +kernel
theorem dX8_reply_60 : decode cX8_reply 60 = .ok (.iaload, 1) := by decide +kernel
theorem dX8_reply_61 : decode cX8_reply 61 = .ok (.ireturn, 1) := by decide +kernel
theorem dX8_memory_0 : decode cX8_memory 0 = .ok (.aload_n 0, 1) := by decide +kernel
theorem dX8_memory_1 : decode cX8_memory 1 = .ok (.iload_n 1, 1) := by decide +kernel
theorem dX8_memory_2 : decode cX8_memory 2 = .ok (.invokevirtual 111, 3) := by decide +kernel
theorem dX8_memory_5 : decode cX8_memory 5 = .ok (.ifCond .eq 27, 3) := by decide +kernel
theorem dX8_memory_8 : decode cX8_memory 8 = .ok (.iload_n 2, 1) := by decide +kernel
theorem dX8_memory_9 : decode cX8_memory 9 = .ok (.ifCond .lt 23, 3) := by decide +kernel
theorem dX8_memory_12 : decode cX8_memory 12 = .ok (.iload_n 2, 1) := by decide +kernel
theorem dX8_memory_13 : decode cX8_memory 13 = .ok (.bipush 7, 2) := by decide +kernel
theorem dX8_memory_15 : decode cX8_memory 15 = .ok (.if_icmp .gt 17, 3) := by decide +kernel
theorem dX8_memory_18 : decode cX8_memory 18 = .ok (.aload_n 0, 1) := by decide +kernel
theorem dX8_memory_19 : decode cX8_memory 19 = .ok (.getfield 35, 3) := by decide +kernel
theorem dX8_memory_22 : decode cX8_memory 22 = .ok (.bipush 8, 2) := by decide +kernel
theorem dX8_memory_24 : decode cX8_memory 24 = .ok (.iload_n 1, 1) := by decide +kernel
theorem dX8_memory_25 : decode cX8_memory 25 = .ok (.imul, 1) := by decide +kernel
theorem dX8_memory_26 : decode cX8_memory 26 = .ok (.iload_n 2, 1) := by decide +kernel
theorem dX8_memory_27 : decode cX8_memory 27 = .ok (.iadd, 1) := by decide +kernel
theorem dX8_memory_28 : decode cX8_memory 28 = .ok (.iaload, 1) := by decide +kernel
theorem dX8_memory_29 : decode cX8_memory 29 = .ok (.goto 4, 3) := by decide +kernel
theorem dX8_memory_32 : decode cX8_memory 32 = .ok (.iconst 0, 1) := by decide +kernel
theorem dX8_memory_33 : decode cX8_memory 33 = .ok (.ireturn, 1) := by decide +kernel
theorem dX8_waiting_0 : decode cX8_waiting 0 = .ok (.aload_n 0, 1) := by decide +kernel
theorem dX8_waiting_1 : decode cX8_waiting 1 = .ok (.iload_n 1, 1) := by decide +kernel
theorem dX8_waiting_2 : decode cX8_waiting 2 = .ok (.invokevirtual 111, 3) := by decide +kernel
theorem dX8_waiting_5 : decode cX8_waiting 5 = .ok (.ifCond .eq 22, 3) := by decide +kernel
theorem dX8_waiting_8 : decode cX8_waiting 8 = .ok (.aload_n 0, 1) := by decide +kernel
theorem dX8_waiting_9 : decode cX8_waiting 9 = .ok (.getfield 41, 3) := by decide +kernel
theorem dX8_waiting_12 : decode cX8_waiting 12 = .ok (.iload_n 1, 1) := by decide +kernel
theorem dX8_waiting_13 : decode cX8_waiting 13 = .ok (.iaload, 1) := by decide +kernel
theorem dX8_waiting_14 : decode cX8_waiting 14 = .ok (.bipush 8, 2) := by decide +kernel
theorem dX8_waiting_16 : decode cX8_waiting 16 = .ok (.aload_n 0, 1) := by decide +kernel
theorem dX8_waiting_17 : decode cX8_waiting 17 = .ok (.getfield 50, 3) := by decide +kernel
theorem dX8_waiting_20 : decode cX8_waiting 20 = .ok (.iload_n 1, 1) := by decide +kernel
theorem dX8_waiting_21 : decode cX8_waiting 21 = .ok (.iaload, 1) := by decide +kernel
theorem dX8_waiting_22 : decode cX8_waiting 22 = .ok (.imul, 1) := by decide +kernel
theorem dX8_waiting_23 : decode cX8_waiting 23 = .ok (.iadd, 1) := by decide +kernel
theorem dX8_waiting_24 : decode cX8_waiting 24 = .ok (.goto 4, 3) := by decide +kernel
theorem dX8_waiting_27 : decode cX8_waiting 27 = .ok (.iconst (-1), 1) := by decide +kernel
theorem dX8_waiting_28 : decode cX8_waiting 28 = .ok (.ireturn, 1) := by decide +kernel
theorem dX8_lane_0 : decode cX8_lane 0 = .ok (.aload_n 0, 1) := by decide +kernel
theorem dX8_lane_1 : decode cX8_lane 1 = .ok (.iload_n 1, 1) := by decide +kernel
theorem dX8_lane_2 : decode cX8_lane 2 = .ok (.iload_n 2, 1) := by decide +kernel
theorem dX8_lane_3 : decode cX8_lane 3 = .ok (.iload_n 3, 1) := by decide +kernel
theorem dX8_lane_4 : decode cX8_lane 4 = .ok (.invokevirtual 185, 3) := by decide +kernel
theorem dX8_lane_7 : decode cX8_lane 7 = .ok (.ifCond .ne 5, 3) := by decide +kernel
theorem dX8_lane_10 : decode cX8_lane 10 = .ok (.iconst (-1), 1) := by decide +kernel
theorem dX8_lane_11 : decode cX8_lane 11 = .ok (.ireturn, 1) := by decide +kernel
theorem dX8_lane_12 : decode cX8_lane 12 = .ok (.iconst 4, 1) := by decide +kernel
theorem dX8_lane_13 : decode cX8_lane 13 = .ok (.iconst 5, 1) := by decide +kernel
theorem dX8_lane_14 : decode cX8_lane 14 = .ok (.iload_n 1, 1) := by decide +kernel
theorem dX8_lane_15 : decode cX8_lane 15 = .ok (.imul, 1) := by decide +kernel
theorem dX8_lane_16 : decode cX8_lane 16 = .ok (.iload_n 2, 1) := by decide +kernel
theorem dX8_lane_17 : decode cX8_lane 17 = .ok (.iadd, 1) := by decide +kernel
theorem dX8_lane_18 : decode cX8_lane 18 = .ok (.imul, 1) := by decide +kernel
theorem dX8_lane_19 : decode cX8_lane 19 = .ok (.iload_n 3, 1) := by decide +kernel
theorem dX8_lane_20 : decode cX8_lane 20 = .ok (.iadd, 1) := by decide +kernel
theorem dX8_lane_21 : decode cX8_lane 21 = .ok (.istore 4, 2) := by decide +kernel
theorem dX8_lane_23 : decode cX8_lane 23 = .ok (.aload_n 0, 1) := by decide +kernel
theorem dX8_lane_24 : decode cX8_lane 24 = .ok (.getfield 59, 3) := by decide +kernel
theorem dX8_lane_27 : decode cX8_lane 27 = .ok (.iload 4, 2) := by decide +kernel
theorem dX8_lane_29 : decode cX8_lane 29 = .ok (.iaload, 1) := by decide +kernel
theorem dX8_lane_30 : decode cX8_lane 30 = .ok (.bipush 8, 2) := by decide +kernel
theorem dX8_lane_32 : decode cX8_lane 32 = .ok (.aload_n 0, 1) := by decide +kernel
theorem dX8_lane_33 : decode cX8_lane 33 = .ok (.getfield 74, 3) := by decide +kernel
theorem dX8_lane_36 : decode cX8_lane 36 = .ok (.iload 4, 2) := by decide +kernel
theorem dX8_lane_38 : decode cX8_lane 38 = .ok (.iaload, 1) := by decide +kernel
theorem dX8_lane_39 : decode cX8_lane 39 = .ok (.imul, 1) := by decide +kernel
theorem dX8_lane_40 : decode cX8_lane 40 = .ok (.iadd, 1) := by decide +kernel
theorem dX8_lane_41 : decode cX8_lane 41 = .ok (.aload_n 0, 1) := by decide +kernel
theorem dX8_lane_42 : decode cX8_lane 42 = .ok (.getfield 74, 3) := by decide +kernel
theorem dX8_lane_45 : decode cX8_lane 45 = .ok (.iload 4, 2) := by decide +kernel
theorem dX8_lane_47 : decode cX8_lane 47 = .ok (.iaload, 1) := by decide +kernel
theorem dX8_lane_48 : decode cX8_lane 48 = .ok (.ifCond .ne 7, 3) := by decide +kernel
theorem dX8_lane_51 : decode cX8_lane 51 = .ok (.iconst 0, 1) := by decide +kernel
theorem dX8_lane_52 : decode cX8_lane 52 = .ok (.goto 13, 3) := by decide +kernel
theorem dX8_lane_55 : decode cX8_lane 55 = .ok (.bipush 64, 2) := by decide +kernel
theorem dX8_lane_57 : decode cX8_lane 57 = .ok (.aload_n 0, 1) := by decide +kernel
theorem dX8_lane_58 : decode cX8_lane 58 = .ok (.getfield 77, 3) := by decide +kernel
theorem dX8_lane_61 : decode cX8_lane 61 = .ok (.iload 4, 2) := by decide +kernel
theorem dX8_lane_63 : decode cX8_lane 63 = .ok (.iaload, 1) := by decide +kernel
theorem dX8_lane_64 : decode cX8_lane 64 = .ok (.imul, 1) := by decide +kernel
theorem dX8_lane_65 : decode cX8_lane 65 = .ok (.iadd, 1) := by decide +kernel
theorem dX8_lane_66 : decode cX8_lane 66 = .ok (.ireturn, 1) := by decide +kernel
theorem dX8_leads_0 : decode cX8_leads 0 = .ok (.iload_n 1, 1) := by decide +kernel
theorem dX8_leads_1 : decode cX8_leads 1 = .ok (.aload_n 0, 1) := by decide +kernel
theorem dX8_leads_2 : decode cX8_leads 2 = .ok (.getfield 95, 3) := by decide +kernel
theorem dX8_leads_5 : decode cX8_leads 5 = .ok (.irem, 1) := by decide +kernel
theorem dX8_leads_6 : decode cX8_leads 6 = .ok (.istore_n 3, 1) := by decide +kernel
theorem dX8_leads_7 : decode cX8_leads 7 = .ok (.iload_n 1, 1) := by decide +kernel
theorem dX8_leads_8 : decode cX8_leads 8 = .ok (.aload_n 0, 1) := by decide +kernel
theorem dX8_leads_9 : decode cX8_leads 9 = .ok (.getfield 95, 3) := by decide +kernel
theorem dX8_leads_12 : decode cX8_leads 12 = .ok (.idiv, 1) := by decide +kernel
theorem dX8_leads_13 : decode cX8_leads 13 = .ok (.istore 4, 2) := by decide +kernel
theorem dX8_leads_15 : decode cX8_leads 15 = .ok (.iload_n 2, 1) := by decide +kernel
theorem dX8_leads_16 : decode cX8_leads 16 = .ok (.ifCond .eq 53, 3) := by decide +kernel
theorem dX8_leads_19 : decode cX8_leads 19 = .ok (.iload_n 2, 1) := by decide +kernel
theorem dX8_leads_20 : decode cX8_leads 20 = .ok (.iconst 1, 1) := by decide +kernel
theorem dX8_leads_21 : decode cX8_leads 21 = .ok (.if_icmp .ne 13, 3) := by decide +kernel
theorem dX8_leads_24 : decode cX8_leads 24 = .ok (.iload_n 3, 1) := by decide +kernel
theorem dX8_leads_25 : decode cX8_leads 25 = .ok (.aload_n 0, 1) := by decide +kernel
theorem dX8_leads_26 : decode cX8_leads 26 = .ok (.getfield 95, 3) := by decide +kernel
theorem dX8_leads_29 : decode cX8_leads 29 = .ok (.iconst 1, 1) := by decide +kernel
theorem dX8_leads_30 : decode cX8_leads 30 = .ok (.isub, 1) := by decide +kernel
theorem dX8_leads_31 : decode cX8_leads 31 = .ok (.if_icmp .lt 38, 3) := by decide +kernel
theorem dX8_leads_34 : decode cX8_leads 34 = .ok (.iload_n 2, 1) := by decide +kernel
theorem dX8_leads_35 : decode cX8_leads 35 = .ok (.iconst 2, 1) := by decide +kernel
theorem dX8_leads_36 : decode cX8_leads 36 = .ok (.if_icmp .ne 7, 3) := by decide +kernel
theorem dX8_leads_39 : decode cX8_leads 39 = .ok (.iload_n 3, 1) := by decide +kernel
theorem dX8_leads_40 : decode cX8_leads 40 = .ok (.ifCond .gt 29, 3) := by decide +kernel
theorem dX8_leads_43 : decode cX8_leads 43 = .ok (.iload_n 2, 1) := by decide +kernel
theorem dX8_leads_44 : decode cX8_leads 44 = .ok (.iconst 3, 1) := by decide +kernel
theorem dX8_leads_45 : decode cX8_leads 45 = .ok (.if_icmp .ne 14, 3) := by decide +kernel
theorem dX8_leads_48 : decode cX8_leads 48 = .ok (.iload 4, 2) := by decide +kernel
theorem dX8_leads_50 : decode cX8_leads 50 = .ok (.aload_n 0, 1) := by decide +kernel
theorem dX8_leads_51 : decode cX8_leads 51 = .ok (.getfield 99, 3) := by decide +kernel
theorem dX8_leads_54 : decode cX8_leads 54 = .ok (.iconst 1, 1) := by decide +kernel
theorem dX8_leads_55 : decode cX8_leads 55 = .ok (.isub, 1) := by decide +kernel
theorem dX8_leads_56 : decode cX8_leads 56 = .ok (.if_icmp .lt 13, 3) := by decide +kernel
theorem dX8_leads_59 : decode cX8_leads 59 = .ok (.iload_n 2, 1) := by decide +kernel
theorem dX8_leads_60 : decode cX8_leads 60 = .ok (.iconst 4, 1) := by decide +kernel
theorem dX8_leads_61 : decode cX8_leads 61 = .ok (.if_icmp .ne 12, 3) := by decide +kernel
theorem dX8_leads_64 : decode cX8_leads 64 = .ok (.iload 4, 2) := by decide +kernel
theorem dX8_leads_66 : decode cX8_leads 66 = .ok (.ifCond .le 7, 3) := by decide +kernel
theorem dX8_leads_69 : decode cX8_leads 69 = .ok (.iconst 1, 1) := by decide +kernel
theorem dX8_leads_70 : decode cX8_leads 70 = .ok (.goto 4, 3) := by decide +kernel
theorem dX8_leads_73 : decode cX8_leads 73 = .ok (.iconst 0, 1) := by decide +kernel
theorem dX8_leads_74 : decode cX8_leads 74 = .ok (.ireturn, 1) := by decide +kernel
theorem dX8_output_0 : decode cX8_output 0 = .ok (.aload_n 0, 1) := by decide +kernel
theorem dX8_output_1 : decode cX8_output 1 = .ok (.iload_n 1, 1) := by decide +kernel
theorem dX8_output_2 : decode cX8_output 2 = .ok (.iload_n 2, 1) := by decide +kernel
theorem dX8_output_3 : decode cX8_output 3 = .ok (.iload_n 3, 1) := by decide +kernel
theorem dX8_output_4 : decode cX8_output 4 = .ok (.invokevirtual 185, 3) := by decide +kernel
theorem dX8_output_7 : decode cX8_output 7 = .ok (.ifCond .ne 5, 3) := by decide +kernel
theorem dX8_output_10 : decode cX8_output 10 = .ok (.iconst (-1), 1) := by decide +kernel
theorem dX8_output_11 : decode cX8_output 11 = .ok (.ireturn, 1) := by decide +kernel
theorem dX8_output_12 : decode cX8_output 12 = .ok (.aload_n 0, 1) := by decide +kernel
theorem dX8_output_13 : decode cX8_output 13 = .ok (.iload_n 1, 1) := by decide +kernel
theorem dX8_output_14 : decode cX8_output 14 = .ok (.iload_n 2, 1) := by decide +kernel
theorem dX8_output_15 : decode cX8_output 15 = .ok (.invokevirtual 188, 3) := by decide +kernel
theorem dX8_output_18 : decode cX8_output 18 = .ok (.ifCond .eq 18, 3) := by decide +kernel
theorem dX8_output_21 : decode cX8_output 21 = .ok (.aload_n 0, 1) := by decide +kernel
theorem dX8_output_22 : decode cX8_output 22 = .ok (.getfield 68, 3) := by decide +kernel
theorem dX8_output_25 : decode cX8_output 25 = .ok (.aload_n 0, 1) := by decide +kernel
theorem dX8_output_26 : decode cX8_output 26 = .ok (.iload_n 1, 1) := by decide +kernel
theorem dX8_output_27 : decode cX8_output 27 = .ok (.iload_n 2, 1) := by decide +kernel
theorem dX8_output_28 : decode cX8_output 28 = .ok (.iload_n 3, 1) := by decide +kernel
theorem dX8_output_29 : decode cX8_output 29 = .ok (.invokevirtual 144, 3) := by decide +kernel
theorem dX8_output_32 : decode cX8_output 32 = .ok (.iaload, 1) := by decide +kernel
theorem dX8_output_33 : decode cX8_output 33 = .ok (.goto 7, 3) := by decide +kernel
theorem dX8_output_36 : decode cX8_output 36 = .ok (.aload_n 0, 1) := by decide +kernel
theorem dX8_output_37 : decode cX8_output 37 = .ok (.getfield 102, 3) := by decide +kernel
theorem dX8_output_40 : decode cX8_output 40 = .ok (.istore 4, 2) := by decide +kernel
theorem dX8_output_42 : decode cX8_output 42 = .ok (.iload 4, 2) := by decide +kernel
theorem dX8_output_44 : decode cX8_output 44 = .ok (.aload_n 0, 1) := by decide +kernel
theorem dX8_output_45 : decode cX8_output 45 = .ok (.getfield 80, 3) := by decide +kernel
theorem dX8_output_48 : decode cX8_output 48 = .ok (.iconst 4, 1) := by decide +kernel
theorem dX8_output_49 : decode cX8_output 49 = .ok (.iconst 5, 1) := by decide +kernel
theorem dX8_output_50 : decode cX8_output 50 = .ok (.iload_n 1, 1) := by decide +kernel
theorem dX8_output_51 : decode cX8_output 51 = .ok (.imul, 1) := by decide +kernel
theorem dX8_output_52 : decode cX8_output 52 = .ok (.iload_n 2, 1) := by decide +kernel
theorem dX8_output_53 : decode cX8_output 53 = .ok (.iadd, 1) := by decide +kernel
theorem dX8_output_54 : decode cX8_output 54 = .ok (.imul, 1) := by decide +kernel
theorem dX8_output_55 : decode cX8_output 55 = .ok (.iload_n 3, 1) := by decide +kernel
theorem dX8_output_56 : decode cX8_output 56 = .ok (.iadd, 1) := by decide +kernel
theorem dX8_output_57 : decode cX8_output 57 = .ok (.baload, 1) := by decide +kernel
theorem dX8_output_58 : decode cX8_output 58 = .ok (.ifCond .eq 8, 3) := by decide +kernel
theorem dX8_output_61 : decode cX8_output 61 = .ok (.bipush 8, 2) := by decide +kernel
theorem dX8_output_63 : decode cX8_output 63 = .ok (.goto 4, 3) := by decide +kernel
theorem dX8_output_66 : decode cX8_output 66 = .ok (.iconst 0, 1) := by decide +kernel
theorem dX8_output_67 : decode cX8_output 67 = .ok (.iadd, 1) := by decide +kernel
theorem dX8_output_68 : decode cX8_output 68 = .ok (.ireturn, 1) := by decide +kernel
theorem dX8_arrival_0 : decode cX8_arrival 0 = .ok (.aload_n 0, 1) := by decide +kernel
theorem dX8_arrival_1 : decode cX8_arrival 1 = .ok (.iload_n 1, 1) := by decide +kernel
theorem dX8_arrival_2 : decode cX8_arrival 2 = .ok (.iconst 0, 1) := by decide +kernel
theorem dX8_arrival_3 : decode cX8_arrival 3 = .ok (.iload_n 2, 1) := by decide +kernel
theorem dX8_arrival_4 : decode cX8_arrival 4 = .ok (.invokevirtual 185, 3) := by decide +kernel
theorem dX8_arrival_7 : decode cX8_arrival 7 = .ok (.ifCond .ne 5, 3) := by decide +kernel
theorem dX8_arrival_10 : decode cX8_arrival 10 = .ok (.iconst (-1), 1) := by decide +kernel
theorem dX8_arrival_11 : decode cX8_arrival 11 = .ok (.ireturn, 1) := by decide +kernel
theorem dX8_arrival_12 : decode cX8_arrival 12 = .ok (.aload_n 0, 1) := by decide +kernel
theorem dX8_arrival_13 : decode cX8_arrival 13 = .ok (.getfield 59, 3) := by decide +kernel
theorem dX8_arrival_16 : decode cX8_arrival 16 = .ok (.sipush 180, 3) := by decide +kernel
theorem dX8_arrival_19 : decode cX8_arrival 19 = .ok (.iconst 4, 1) := by decide +kernel
theorem dX8_arrival_20 : decode cX8_arrival 20 = .ok (.iload_n 1, 1) := by decide +kernel
theorem dX8_arrival_21 : decode cX8_arrival 21 = .ok (.imul, 1) := by decide +kernel
theorem dX8_arrival_22 : decode cX8_arrival 22 = .ok (.iadd, 1) := by decide +kernel
theorem dX8_arrival_23 : decode cX8_arrival 23 = .ok (.iload_n 2, 1) := by decide +kernel
theorem dX8_arrival_24 : decode cX8_arrival 24 = .ok (.iadd, 1) := by decide +kernel
theorem dX8_arrival_25 : decode cX8_arrival 25 = .ok (.iaload, 1) := by decide +kernel
theorem dX8_arrival_26 : decode cX8_arrival 26 = .ok (.bipush 8, 2) := by decide +kernel
theorem dX8_arrival_28 : decode cX8_arrival 28 = .ok (.aload_n 0, 1) := by decide +kernel
theorem dX8_arrival_29 : decode cX8_arrival 29 = .ok (.getfield 68, 3) := by decide +kernel
theorem dX8_arrival_32 : decode cX8_arrival 32 = .ok (.bipush 20, 2) := by decide +kernel
theorem dX8_arrival_34 : decode cX8_arrival 34 = .ok (.iload_n 1, 1) := by decide +kernel
theorem dX8_arrival_35 : decode cX8_arrival 35 = .ok (.imul, 1) := by decide +kernel
theorem dX8_arrival_36 : decode cX8_arrival 36 = .ok (.iload_n 2, 1) := by decide +kernel
theorem dX8_arrival_37 : decode cX8_arrival 37 = .ok (.iadd, 1) := by decide +kernel
theorem dX8_arrival_38 : decode cX8_arrival 38 = .ok (.iaload, 1) := by decide +kernel
theorem dX8_arrival_39 : decode cX8_arrival 39 = .ok (.imul, 1) := by decide +kernel
theorem dX8_arrival_40 : decode cX8_arrival 40 = .ok (.iadd, 1) := by decide +kernel
theorem dX8_arrival_41 : decode cX8_arrival 41 = .ok (.ireturn, 1) := by decide +kernel
theorem dX8_sent_0 : decode cX8_sent 0 = .ok (.aload_n 0, 1) := by decide +kernel
theorem dX8_sent_1 : decode cX8_sent 1 = .ok (.getfield 122, 3) := by decide +kernel
theorem dX8_sent_4 : decode cX8_sent 4 = .ok (.ireturn, 1) := by decide +kernel
end
section
/-! THE WALK OVER ONE NUMBERED WORLD. A world is a list of shapes (an object of a class with its fields, an array with its length); its cells stand at addresses ad 0, ad 1, ..; what the ints of cell k are, says σ k. 'jj_J' walks the machine beside a pure computation: where the computation answers z, the machine comes to Q z. -/
abbrev jj_S : Type := Nat → Nat → Int32
/-- a shape: an object (number of its class, its fields: a cell's number, or an int), or an array (type, length) -/
abbrev jj_H : Type := (Nat × List (Option Nat)) ⊕ (FieldType × Nat)
def jj_up (σ : jj_S) (k i : Nat) (x : Int32) : jj_S := fun k' => if k' = k then upd (σ k) i x else σ k'
def jj_fv (ad : Nat → Nat) (σ : jj_S) (k j : Nat) (f : Option Nat) : Value := match f with
  | some r => .ref (ad r)
  | none => .int (σ k j)
def jj_cell (ad : Nat → Nat) (cA : FieldType → ClassId) (σ : jj_S) (k : Nat) (h : jj_H) : Nat × va_E := match h with
  | .inl o => (ad k, .inr (o.1, o.2.mapIdx (jj_fv ad σ k)))
  | .inr a => (ad k, .inl (cA a.1, a.2, .inl (σ k)))
def jj_w (ad : Nat → Nat) (cA : FieldType → ClassId) (G : List jj_H) (σ : jj_S) : va_W := G.mapIdx (jj_cell ad cA σ)
abbrev jj_t (cA : FieldType → ClassId) : List (ClassId × FieldType) := [(cA .int, .int), (cA .boolean, .boolean)]
theorem jj_up_same (σ : jj_S) (k i : Nat) (x : Int32) : jj_up σ k i x k = upd (σ k) i x := by simp [jj_up]
theorem jj_up_ne {σ : jj_S} {k i k' : Nat} {x : Int32} (h : k' ≠ k) : jj_up σ k i x k' = σ k' := by simp [jj_up, h]
theorem jj_w_get {ad : Nat → Nat} {cA : FieldType → ClassId} {G : List jj_H} {k : Nat} {h : jj_H} (σ : jj_S) (hG : G[k]? = some h) : (jj_w ad cA G σ)[k]? = some (jj_cell ad cA σ k h) := by
  simp [jj_w, List.getElem?_mapIdx, hG]
theorem jj_cell_ad (ad : Nat → Nat) (cA : FieldType → ClassId) (σ : jj_S) (k : Nat) (h : jj_H) : (jj_cell ad cA σ k h).1 = ad k := by
  cases h <;> rfl
theorem jj_cell_ne {ad : Nat → Nat} {cA : FieldType → ClassId} {σ : jj_S} {k i k' : Nat} {x : Int32} (h : jj_H) (hk : k' ≠ k) : jj_cell ad cA (jj_up σ k i x) k' h = jj_cell ad cA σ k' h := by
  have e : jj_up σ k i x k' = σ k' := jj_up_ne hk
  cases h with
  | inl o =>
    have e2 : jj_fv ad (jj_up σ k i x) k' = jj_fv ad σ k' := by
      funext j f
      cases f <;> simp [jj_fv, e]
    simp [jj_cell, e2]
  | inr a => simp [jj_cell, e]
theorem jj_w_set {ad : Nat → Nat} {cA : FieldType → ClassId} {G : List jj_H} {k i : Nat} {h : jj_H} {x : Int32} {σ : jj_S} (hG : G[k]? = some h) {q : Nat × va_E} (hq : jj_cell ad cA (jj_up σ k i x) k h = q) : (jj_w ad cA G σ).set k q = jj_w ad cA G (jj_up σ k i x) := by
  apply List.ext_getElem?
  intro j
  rw [List.getElem?_set]
  have hlt : k < (jj_w ad cA G σ).length := by
    simp only [jj_w, List.length_mapIdx]
    exact (List.getElem?_eq_some_iff.mp hG).1
  by_cases hj : k = j
  · subst hj
    rw [if_pos rfl, if_pos hlt, jj_w_get _ hG, hq]
  · rw [if_neg hj]
    simp only [jj_w, List.getElem?_mapIdx]
    cases G[j]? with
    | none => rfl
    | some h2 => simp only [Option.map_some]; rw [jj_cell_ne h2 (fun e => hj e.symm)]
theorem jj_D {A : Nat → Prop} {ad : Nat → Nat} {cA : FieldType → ClassId} {G : List jj_H} {σ σ' : jj_S} (h : va_D A (jj_w ad cA G σ)) : va_D A (jj_w ad cA G σ') := by
  have key : ∀ (σ : jj_S) (i : Nat) (q : Nat × va_E), (jj_w ad cA G σ)[i]? = some q → q.1 = ad i ∧ ∀ σ2, ∃ q2, (jj_w ad cA G σ2)[i]? = some q2 ∧ q2.1 = ad i := by
    intro σ i q hq
    simp only [jj_w, List.getElem?_mapIdx] at hq ⊢
    cases hg : G[i]? with
    | none => rw [hg] at hq; cases hq
    | some h2 =>
      rw [hg] at hq
      simp only [Option.map_some, Option.some.injEq] at hq
      refine ⟨by rw [← hq, jj_cell_ad], fun σ2 => ⟨_, rfl, jj_cell_ad ..⟩⟩
  refine ⟨fun i j p q hp hq e => ?_, fun k q hq => ?_⟩
  · obtain ⟨a1, a2⟩ := key σ' i p hp
    obtain ⟨b1, b2⟩ := key σ' j q hq
    obtain ⟨p2, hp2, ep⟩ := a2 σ
    obtain ⟨q2, hq2, eq2⟩ := b2 σ
    exact h.1 i j p2 q2 hp2 hq2 (by rw [ep, eq2, ← a1, ← b1, e])
  · obtain ⟨a1, a2⟩ := key σ' k q hq
    obtain ⟨p2, hp2, ep⟩ := a2 σ
    rw [a1, ← ep]
    exact h.2 k p2 hp2
theorem jj_A {ad : Nat → Nat} {cA : FieldType → ClassId} {G : List jj_H} {σ σ' : jj_S} {sz q : Nat} (h : va_A (jj_w ad cA G σ) sz q) : va_A (jj_w ad cA G σ') sz q := by
  rcases h with ⟨k, e, hk⟩ | h
  · refine Or.inl ?_
    simp only [jj_w, List.getElem?_mapIdx] at hk
    cases hg : G[k]? with
    | none => rw [hg] at hk; cases hk
    | some h2 =>
      rw [hg] at hk
      simp only [Option.map_some, Option.some.injEq] at hk
      have e1 : q = ad k := by have := jj_cell_ad ad cA σ k h2; rw [hk] at this; exact this
      refine ⟨k, (jj_cell ad cA σ' k h2).2, ?_⟩
      rw [jj_w_get _ hg, e1, ← jj_cell_ad ad cA σ' k h2]
  · exact Or.inr h
/-- an index out of its bounds: no answer -/
def jj_ck {β : Type} (n : Nat) (i : Int32) (o : Option β) : Option β := if i < 0 ∨ n ≤ i.toNatClampNeg then none else o
def jj_nz {β : Type} (y : Int32) (o : Option β) : Option β := if y = 0 then none else o
theorem jj_ck_in {β : Type} {n : Nat} {i : Int32} {o : Option β} {z : β} (h : jj_ck n i o = some z) : vp_in i n ∧ o = some z := by
  unfold jj_ck at h
  by_cases hc : i < 0 ∨ n ≤ i.toNatClampNeg
  · rw [if_pos hc] at h; cases h
  · rw [if_neg hc] at h; exact ⟨hc, h⟩
theorem jj_nz_in {β : Type} {y : Int32} {o : Option β} {z : β} (h : jj_nz y o = some z) : ¬ y = 0 ∧ o = some z := by
  unfold jj_nz at h
  by_cases hc : y = 0
  · rw [if_pos hc] at h; cases h
  · rw [if_neg hc] at h; exact ⟨hc, h⟩
section JJ
variable {p : Program} {l : Launch} {e : Env} {R : Room} {s : State} {m : MethodId} {args : Array Value} {below : List Frame} {meth : Method} {c : Code} {D : va_G} {cl : List vw_C} {A : Nat → Prop} {ad : Nat → Nat} {cA : FieldType → ClassId} {G : List jj_H} {nL cs sl : Nat} {β : Type} {Q : β → State → Prop} {cc : ByteArray} {own : String} {Ts : List Cond} {σ : jj_S} {pc : Nat} {lv lv' : List (Nat × Value)} {st rest : List Value} {o o1 o2 : Option β}
/-- the walk beside a computation -/
def jj_J (p : Program) (l : Launch) (e : Env) (R : Room) (s : State) (m : MethodId) (args : Array Value) (below : List Frame) (meth : Method) (c : Code) (D : va_G) (cl : List vw_C) (A : Nat → Prop) (ad : Nat → Nat) (cA : FieldType → ClassId) (G : List jj_H) (nL cs sl : Nat) (Q : β → State → Prop) (o : Option β) (σ : jj_S) (pc : Nat) (lv : List (Nat × Value)) (st : List Value) : Prop :=
  ∀ z, o = some z → ∀ (H : Heap) (locs : List Loc) (ls : Array Slot), va_P D cl (jj_w ad cA G σ) H → va_S A s.heap H locs → lv_has ls nL lv → W p l e R s m args below meth c H locs cs sl (Q z) (F0 m pc ls st)
/-- what stands fast on a walk -/
def jj_C (p : Program) (R : Room) (s : State) (m : MethodId) (args : Array Value) (c : Code) (D : va_G) (cl : List vw_C) (A : Nat → Prop) (ad : Nat → Nat) (cA : FieldType → ClassId) (G : List jj_H) (nL cs sl : Nat) (cc : ByteArray) (own : String) (Ts : List Cond) : Prop :=
  p.tables.exec = Jvm.exec ∧ c.code = cc ∧ c.maxLocals = nL ∧ s.vm.findClass own = some m.cls ∧ (∀ w ∈ Ts, w.before args s = true) ∧ va_K D cl (jj_t cA) s ∧ (∀ σ, va_D A (jj_w ad cA G σ)) ∧ (∀ q, s.heap.size ≤ q → A q) ∧ cs ≤ R.cells ∧ sl ≤ R.slots
theorem jj_iconst (C : jj_C p R s m args c D cl A ad cA G nL cs sl cc own Ts) {n : Int} {v : Int32} (hd : decode cc pc = .ok (.iconst n, 1)) (hv : Int32.ofInt n = v) (k : jj_J p l e R s m args below meth c D cl A ad cA G nL cs sl Q o σ (pc + 1) lv (.int v :: st)) : jj_J p l e R s m args below meth c D cl A ad cA G nL cs sl Q o σ pc lv st := fun z hz H locs ls hP hS hl => lv_iconst C.1 C.2.1 hd hv (k z hz H locs ls hP hS hl)
theorem jj_bipush (C : jj_C p R s m args c D cl A ad cA G nL cs sl cc own Ts) {n : Int} {v : Int32} (hd : decode cc pc = .ok (.bipush n, 2)) (hv : (Int8.ofInt n).toInt32 = v) (k : jj_J p l e R s m args below meth c D cl A ad cA G nL cs sl Q o σ (pc + 2) lv (.int v :: st)) : jj_J p l e R s m args below meth c D cl A ad cA G nL cs sl Q o σ pc lv st := fun z hz H locs ls hP hS hl => lv_bipush C.1 C.2.1 hd hv (k z hz H locs ls hP hS hl)
theorem jj_sipush (C : jj_C p R s m args c D cl A ad cA G nL cs sl cc own Ts) {n : Int} {v : Int32} (hd : decode cc pc = .ok (.sipush n, 3)) (hv : (Int16.ofInt n).toInt32 = v) (k : jj_J p l e R s m args below meth c D cl A ad cA G nL cs sl Q o σ (pc + 3) lv (.int v :: st)) : jj_J p l e R s m args below meth c D cl A ad cA G nL cs sl Q o σ pc lv st := fun z hz H locs ls hP hS hl => lv_sipush C.1 C.2.1 hd hv (k z hz H locs ls hP hS hl)
theorem jj_iload_n (C : jj_C p R s m args c D cl A ad cA G nL cs sl cc own Ts) {k : Fin 4} {i : Nat} {x : Int32} (j : Nat) (hd : decode cc pc = .ok (.iload_n k, 1)) (hi : (k : Nat) = i) (hj : lv[j]? = some (i, .int x)) (kk : jj_J p l e R s m args below meth c D cl A ad cA G nL cs sl Q o σ (pc + 1) lv (.int x :: st)) : jj_J p l e R s m args below meth c D cl A ad cA G nL cs sl Q o σ pc lv st := fun z hz H locs ls hP hS hl => lv_iload_n C.1 C.2.1 hd hi (lv_at hl j hj) (kk z hz H locs ls hP hS hl)
theorem jj_iload (C : jj_C p R s m args c D cl A ad cA G nL cs sl cc own Ts) {i : Nat} {x : Int32} (j : Nat) (hd : decode cc pc = .ok (.iload i, 2)) (hj : lv[j]? = some (i, .int x)) (kk : jj_J p l e R s m args below meth c D cl A ad cA G nL cs sl Q o σ (pc + 2) lv (.int x :: st)) : jj_J p l e R s m args below meth c D cl A ad cA G nL cs sl Q o σ pc lv st := fun z hz H locs ls hP hS hl => lv_iload C.1 C.2.1 hd (lv_at hl j hj) (kk z hz H locs ls hP hS hl)
theorem jj_istore_n (C : jj_C p R s m args c D cl A ad cA G nL cs sl cc own Ts) {k : Fin 4} {i : Nat} {x : Int32} (lv' : List (Nat × Value)) (hd : decode cc pc = .ok (.istore_n k, 1)) (hi : (k : Nat) = i) (hn : i < nL) (hv : (i, Value.int x) :: lv.filter (fun q => !(q.1 == i) && !(q.1 + 1 == i && q.2.category == 2)) = lv') (kk : jj_J p l e R s m args below meth c D cl A ad cA G nL cs sl Q o σ (pc + 1) lv' rest) : jj_J p l e R s m args below meth c D cl A ad cA G nL cs sl Q o σ pc lv (.int x :: rest) := fun z hz H locs ls hP hS hl => lv_istore_n C.1 C.2.1 hd hi hl hn hv (fun ls' hl' => kk z hz H locs ls' hP hS hl')
theorem jj_istore (C : jj_C p R s m args c D cl A ad cA G nL cs sl cc own Ts) {i : Nat} {x : Int32} (lv' : List (Nat × Value)) (hd : decode cc pc = .ok (.istore i, 2)) (hn : i < nL) (hv : (i, Value.int x) :: lv.filter (fun q => !(q.1 == i) && !(q.1 + 1 == i && q.2.category == 2)) = lv') (kk : jj_J p l e R s m args below meth c D cl A ad cA G nL cs sl Q o σ (pc + 2) lv' rest) : jj_J p l e R s m args below meth c D cl A ad cA G nL cs sl Q o σ pc lv (.int x :: rest) := fun z hz H locs ls hP hS hl => lv_istore C.1 C.2.1 hd hl hn hv (fun ls' hl' => kk z hz H locs ls' hP hS hl')
theorem jj_aload_n (C : jj_C p R s m args c D cl A ad cA G nL cs sl cc own Ts) {k : Fin 4} {i : Nat} {x : Nat} (j : Nat) (hd : decode cc pc = .ok (.aload_n k, 1)) (hi : (k : Nat) = i) (hj : lv[j]? = some (i, .ref x)) (kk : jj_J p l e R s m args below meth c D cl A ad cA G nL cs sl Q o σ (pc + 1) lv (.ref x :: st)) : jj_J p l e R s m args below meth c D cl A ad cA G nL cs sl Q o σ pc lv st := fun z hz H locs ls hP hS hl => lv_aload_n C.1 C.2.1 hd hi (lv_at hl j hj) (kk z hz H locs ls hP hS hl)
theorem jj_aload (C : jj_C p R s m args c D cl A ad cA G nL cs sl cc own Ts) {i : Nat} {x : Nat} (j : Nat) (hd : decode cc pc = .ok (.aload i, 2)) (hj : lv[j]? = some (i, .ref x)) (kk : jj_J p l e R s m args below meth c D cl A ad cA G nL cs sl Q o σ (pc + 2) lv (.ref x :: st)) : jj_J p l e R s m args below meth c D cl A ad cA G nL cs sl Q o σ pc lv st := fun z hz H locs ls hP hS hl => lv_aload C.1 C.2.1 hd (lv_at hl j hj) (kk z hz H locs ls hP hS hl)
theorem jj_astore_n (C : jj_C p R s m args c D cl A ad cA G nL cs sl cc own Ts) {k : Fin 4} {i : Nat} {x : Nat} (lv' : List (Nat × Value)) (hd : decode cc pc = .ok (.astore_n k, 1)) (hi : (k : Nat) = i) (hn : i < nL) (hv : (i, Value.ref x) :: lv.filter (fun q => !(q.1 == i) && !(q.1 + 1 == i && q.2.category == 2)) = lv') (kk : jj_J p l e R s m args below meth c D cl A ad cA G nL cs sl Q o σ (pc + 1) lv' rest) : jj_J p l e R s m args below meth c D cl A ad cA G nL cs sl Q o σ pc lv (.ref x :: rest) := fun z hz H locs ls hP hS hl => lv_astore_n C.1 C.2.1 hd hi hl hn hv (fun ls' hl' => kk z hz H locs ls' hP hS hl')
theorem jj_astore (C : jj_C p R s m args c D cl A ad cA G nL cs sl cc own Ts) {i : Nat} {x : Nat} (lv' : List (Nat × Value)) (hd : decode cc pc = .ok (.astore i, 2)) (hn : i < nL) (hv : (i, Value.ref x) :: lv.filter (fun q => !(q.1 == i) && !(q.1 + 1 == i && q.2.category == 2)) = lv') (kk : jj_J p l e R s m args below meth c D cl A ad cA G nL cs sl Q o σ (pc + 2) lv' rest) : jj_J p l e R s m args below meth c D cl A ad cA G nL cs sl Q o σ pc lv (.ref x :: rest) := fun z hz H locs ls hP hS hl => lv_astore C.1 C.2.1 hd hl hn hv (fun ls' hl' => kk z hz H locs ls' hP hS hl')
theorem jj_iinc (C : jj_C p R s m args c D cl A ad cA G nL cs sl cc own Ts) {i : Nat} {n : Int} {x v : Int32} (lv' : List (Nat × Value)) (j : Nat) (hd : decode cc pc = .ok (.iinc i n, 3)) (hj : lv[j]? = some (i, .int x)) (hv : x + Int32.ofInt n = v) (hn : i < nL) (hw : (i, Value.int v) :: lv.filter (fun q => !(q.1 == i) && !(q.1 + 1 == i && q.2.category == 2)) = lv') (kk : jj_J p l e R s m args below meth c D cl A ad cA G nL cs sl Q o σ (pc + 3) lv' st) : jj_J p l e R s m args below meth c D cl A ad cA G nL cs sl Q o σ pc lv st := fun z hz H locs ls hP hS hl => lv_iinc C.1 C.2.1 hd hl hj hv hn hw (fun ls' hl' => kk z hz H locs ls' hP hS hl')
theorem jj_iadd (C : jj_C p R s m args c D cl A ad cA G nL cs sl cc own Ts) {x y : Int32} (hd : decode cc pc = .ok (.iadd, 1)) (kk : jj_J p l e R s m args below meth c D cl A ad cA G nL cs sl Q o σ (pc + 1) lv (.int (x + y) :: rest)) : jj_J p l e R s m args below meth c D cl A ad cA G nL cs sl Q o σ pc lv (.int y :: .int x :: rest) := fun z hz H locs ls hP hS hl => lv_iadd C.1 C.2.1 hd (kk z hz H locs ls hP hS hl)
theorem jj_isub (C : jj_C p R s m args c D cl A ad cA G nL cs sl cc own Ts) {x y : Int32} (hd : decode cc pc = .ok (.isub, 1)) (kk : jj_J p l e R s m args below meth c D cl A ad cA G nL cs sl Q o σ (pc + 1) lv (.int (x - y) :: rest)) : jj_J p l e R s m args below meth c D cl A ad cA G nL cs sl Q o σ pc lv (.int y :: .int x :: rest) := fun z hz H locs ls hP hS hl => lv_isub C.1 C.2.1 hd (kk z hz H locs ls hP hS hl)
theorem jj_imul (C : jj_C p R s m args c D cl A ad cA G nL cs sl cc own Ts) {x y : Int32} (hd : decode cc pc = .ok (.imul, 1)) (kk : jj_J p l e R s m args below meth c D cl A ad cA G nL cs sl Q o σ (pc + 1) lv (.int (x * y) :: rest)) : jj_J p l e R s m args below meth c D cl A ad cA G nL cs sl Q o σ pc lv (.int y :: .int x :: rest) := fun z hz H locs ls hP hS hl => lv_imul C.1 C.2.1 hd (kk z hz H locs ls hP hS hl)
theorem jj_iand (C : jj_C p R s m args c D cl A ad cA G nL cs sl cc own Ts) {x y : Int32} (hd : decode cc pc = .ok (.iand, 1)) (kk : jj_J p l e R s m args below meth c D cl A ad cA G nL cs sl Q o σ (pc + 1) lv (.int (x &&& y) :: rest)) : jj_J p l e R s m args below meth c D cl A ad cA G nL cs sl Q o σ pc lv (.int y :: .int x :: rest) := fun z hz H locs ls hP hS hl => lv_iand C.1 C.2.1 hd (kk z hz H locs ls hP hS hl)
theorem jj_ineg (C : jj_C p R s m args c D cl A ad cA G nL cs sl cc own Ts) {x : Int32} (hd : decode cc pc = .ok (.ineg, 1)) (kk : jj_J p l e R s m args below meth c D cl A ad cA G nL cs sl Q o σ (pc + 1) lv (.int (-x) :: rest)) : jj_J p l e R s m args below meth c D cl A ad cA G nL cs sl Q o σ pc lv (.int x :: rest) := fun z hz H locs ls hP hS hl => lv_ineg C.1 C.2.1 hd (kk z hz H locs ls hP hS hl)
theorem jj_idiv (C : jj_C p R s m args c D cl A ad cA G nL cs sl cc own Ts) {x y : Int32} (hd : decode cc pc = .ok (.idiv, 1)) (kk : jj_J p l e R s m args below meth c D cl A ad cA G nL cs sl Q o σ (pc + 1) lv (.int (x / y) :: rest)) : jj_J p l e R s m args below meth c D cl A ad cA G nL cs sl Q (jj_nz y o) σ pc lv (.int y :: .int x :: rest) := fun z hz H locs ls hP hS hl => lv_idiv C.1 C.2.1 hd (jj_nz_in hz).1 (kk z (jj_nz_in hz).2 H locs ls hP hS hl)
theorem jj_irem (C : jj_C p R s m args c D cl A ad cA G nL cs sl cc own Ts) {x y : Int32} (hd : decode cc pc = .ok (.irem, 1)) (kk : jj_J p l e R s m args below meth c D cl A ad cA G nL cs sl Q o σ (pc + 1) lv (.int (x - x / y * y) :: rest)) : jj_J p l e R s m args below meth c D cl A ad cA G nL cs sl Q (jj_nz y o) σ pc lv (.int y :: .int x :: rest) := fun z hz H locs ls hP hS hl => lv_irem C.1 C.2.1 hd (jj_nz_in hz).1 (kk z (jj_nz_in hz).2 H locs ls hP hS hl)
theorem jj_dup (C : jj_C p R s m args c D cl A ad cA G nL cs sl cc own Ts) {va : Value} (hd : decode cc pc = .ok (.dup, 1)) (h1 : va.category = 1) (kk : jj_J p l e R s m args below meth c D cl A ad cA G nL cs sl Q o σ (pc + 1) lv (va :: va :: rest)) : jj_J p l e R s m args below meth c D cl A ad cA G nL cs sl Q o σ pc lv (va :: rest) := fun z hz H locs ls hP hS hl => lv_dup C.1 C.2.1 hd h1 (kk z hz H locs ls hP hS hl)
theorem jj_pop (C : jj_C p R s m args c D cl A ad cA G nL cs sl cc own Ts) {va : Value} (hd : decode cc pc = .ok (.pop, 1)) (h1 : va.category = 1) (kk : jj_J p l e R s m args below meth c D cl A ad cA G nL cs sl Q o σ (pc + 1) lv rest) : jj_J p l e R s m args below meth c D cl A ad cA G nL cs sl Q o σ pc lv (va :: rest) := fun z hz H locs ls hP hS hl => lv_pop C.1 C.2.1 hd h1 (kk z hz H locs ls hP hS hl)
theorem jj_dup2 (C : jj_C p R s m args c D cl A ad cA G nL cs sl cc own Ts) {va vb : Value} (hd : decode cc pc = .ok (.dup2, 1)) (h1 : va.category = 1) (h2 : vb.category = 1) (kk : jj_J p l e R s m args below meth c D cl A ad cA G nL cs sl Q o σ (pc + 1) lv (va :: vb :: va :: vb :: rest)) : jj_J p l e R s m args below meth c D cl A ad cA G nL cs sl Q o σ pc lv (va :: vb :: rest) := fun z hz H locs ls hP hS hl => lv_dup2_11 C.1 C.2.1 hd h1 h2 (kk z hz H locs ls hP hS hl)
theorem jj_dup_x1 (C : jj_C p R s m args c D cl A ad cA G nL cs sl cc own Ts) {va vb : Value} (hd : decode cc pc = .ok (.dup_x1, 1)) (h1 : va.category = 1) (h2 : vb.category = 1) (kk : jj_J p l e R s m args below meth c D cl A ad cA G nL cs sl Q o σ (pc + 1) lv (va :: vb :: va :: rest)) : jj_J p l e R s m args below meth c D cl A ad cA G nL cs sl Q o σ pc lv (va :: vb :: rest) := fun z hz H locs ls hP hS hl => lv_dup_x1 C.1 C.2.1 hd h1 h2 (kk z hz H locs ls hP hS hl)
theorem jj_dup_x2 (C : jj_C p R s m args c D cl A ad cA G nL cs sl cc own Ts) {va vb vd : Value} (hd : decode cc pc = .ok (.dup_x2, 1)) (h1 : va.category = 1) (h2 : vb.category = 1) (h3 : vd.category = 1) (kk : jj_J p l e R s m args below meth c D cl A ad cA G nL cs sl Q o σ (pc + 1) lv (va :: vb :: vd :: va :: rest)) : jj_J p l e R s m args below meth c D cl A ad cA G nL cs sl Q o σ pc lv (va :: vb :: vd :: rest) := fun z hz H locs ls hP hS hl => lv_dup_x2 C.1 C.2.1 hd h1 h2 h3 (kk z hz H locs ls hP hS hl)
theorem jj_icmp_eq (C : jj_C p R s m args c D cl A ad cA G nL cs sl cc own Ts) {x y : Int32} {off : Int} {tgt : Nat} (hd : decode cc pc = .ok (.if_icmp .eq off, 3)) (ht : (pc : Int) + off = (tgt : Int)) (kt : x = y → jj_J p l e R s m args below meth c D cl A ad cA G nL cs sl Q o1 σ tgt lv rest) (kf : ¬ (x = y) → jj_J p l e R s m args below meth c D cl A ad cA G nL cs sl Q o2 σ (pc + 3) lv rest) : jj_J p l e R s m args below meth c D cl A ad cA G nL cs sl Q (if x = y then o1 else o2) σ pc lv (.int y :: .int x :: rest) := fun z hz H locs ls hP hS hl => lv_icmp_eq C.1 C.2.1 hd ht (fun q => kt q z (by rw [if_pos q] at hz; exact hz) H locs ls hP hS hl) (fun q => kf q z (by rw [if_neg q] at hz; exact hz) H locs ls hP hS hl)
theorem jj_if_eq (C : jj_C p R s m args c D cl A ad cA G nL cs sl cc own Ts) {x : Int32} {off : Int} {tgt : Nat} (hd : decode cc pc = .ok (.ifCond .eq off, 3)) (ht : (pc : Int) + off = (tgt : Int)) (kt : x = 0 → jj_J p l e R s m args below meth c D cl A ad cA G nL cs sl Q o1 σ tgt lv rest) (kf : ¬ (x = 0) → jj_J p l e R s m args below meth c D cl A ad cA G nL cs sl Q o2 σ (pc + 3) lv rest) : jj_J p l e R s m args below meth c D cl A ad cA G nL cs sl Q (if x = 0 then o1 else o2) σ pc lv (.int x :: rest) := fun z hz H locs ls hP hS hl => lv_if_eq C.1 C.2.1 hd ht (fun q => kt q z (by rw [if_pos q] at hz; exact hz) H locs ls hP hS hl) (fun q => kf q z (by rw [if_neg q] at hz; exact hz) H locs ls hP hS hl)
theorem jj_icmp_ne (C : jj_C p R s m args c D cl A ad cA G nL cs sl cc own Ts) {x y : Int32} {off : Int} {tgt : Nat} (hd : decode cc pc = .ok (.if_icmp .ne off, 3)) (ht : (pc : Int) + off = (tgt : Int)) (kt : ¬ (x = y) → jj_J p l e R s m args below meth c D cl A ad cA G nL cs sl Q o1 σ tgt lv rest) (kf : x = y → jj_J p l e R s m args below meth c D cl A ad cA G nL cs sl Q o2 σ (pc + 3) lv rest) : jj_J p l e R s m args below meth c D cl A ad cA G nL cs sl Q (if x = y then o2 else o1) σ pc lv (.int y :: .int x :: rest) := fun z hz H locs ls hP hS hl => lv_icmp_ne C.1 C.2.1 hd ht (fun q => kt q z (by rw [if_neg q] at hz; exact hz) H locs ls hP hS hl) (fun q => kf q z (by rw [if_pos q] at hz; exact hz) H locs ls hP hS hl)
theorem jj_if_ne (C : jj_C p R s m args c D cl A ad cA G nL cs sl cc own Ts) {x : Int32} {off : Int} {tgt : Nat} (hd : decode cc pc = .ok (.ifCond .ne off, 3)) (ht : (pc : Int) + off = (tgt : Int)) (kt : ¬ (x = 0) → jj_J p l e R s m args below meth c D cl A ad cA G nL cs sl Q o1 σ tgt lv rest) (kf : x = 0 → jj_J p l e R s m args below meth c D cl A ad cA G nL cs sl Q o2 σ (pc + 3) lv rest) : jj_J p l e R s m args below meth c D cl A ad cA G nL cs sl Q (if x = 0 then o2 else o1) σ pc lv (.int x :: rest) := fun z hz H locs ls hP hS hl => lv_if_ne C.1 C.2.1 hd ht (fun q => kt q z (by rw [if_neg q] at hz; exact hz) H locs ls hP hS hl) (fun q => kf q z (by rw [if_pos q] at hz; exact hz) H locs ls hP hS hl)
theorem jj_icmp_lt (C : jj_C p R s m args c D cl A ad cA G nL cs sl cc own Ts) {x y : Int32} {off : Int} {tgt : Nat} (hd : decode cc pc = .ok (.if_icmp .lt off, 3)) (ht : (pc : Int) + off = (tgt : Int)) (kt : x < y → jj_J p l e R s m args below meth c D cl A ad cA G nL cs sl Q o1 σ tgt lv rest) (kf : ¬ (x < y) → jj_J p l e R s m args below meth c D cl A ad cA G nL cs sl Q o2 σ (pc + 3) lv rest) : jj_J p l e R s m args below meth c D cl A ad cA G nL cs sl Q (if x < y then o1 else o2) σ pc lv (.int y :: .int x :: rest) := fun z hz H locs ls hP hS hl => lv_icmp_lt C.1 C.2.1 hd ht (fun q => kt q z (by rw [if_pos q] at hz; exact hz) H locs ls hP hS hl) (fun q => kf q z (by rw [if_neg q] at hz; exact hz) H locs ls hP hS hl)
theorem jj_if_lt (C : jj_C p R s m args c D cl A ad cA G nL cs sl cc own Ts) {x : Int32} {off : Int} {tgt : Nat} (hd : decode cc pc = .ok (.ifCond .lt off, 3)) (ht : (pc : Int) + off = (tgt : Int)) (kt : x < 0 → jj_J p l e R s m args below meth c D cl A ad cA G nL cs sl Q o1 σ tgt lv rest) (kf : ¬ (x < 0) → jj_J p l e R s m args below meth c D cl A ad cA G nL cs sl Q o2 σ (pc + 3) lv rest) : jj_J p l e R s m args below meth c D cl A ad cA G nL cs sl Q (if x < 0 then o1 else o2) σ pc lv (.int x :: rest) := fun z hz H locs ls hP hS hl => lv_if_lt C.1 C.2.1 hd ht (fun q => kt q z (by rw [if_pos q] at hz; exact hz) H locs ls hP hS hl) (fun q => kf q z (by rw [if_neg q] at hz; exact hz) H locs ls hP hS hl)
theorem jj_icmp_ge (C : jj_C p R s m args c D cl A ad cA G nL cs sl cc own Ts) {x y : Int32} {off : Int} {tgt : Nat} (hd : decode cc pc = .ok (.if_icmp .ge off, 3)) (ht : (pc : Int) + off = (tgt : Int)) (kt : y ≤ x → jj_J p l e R s m args below meth c D cl A ad cA G nL cs sl Q o1 σ tgt lv rest) (kf : ¬ (y ≤ x) → jj_J p l e R s m args below meth c D cl A ad cA G nL cs sl Q o2 σ (pc + 3) lv rest) : jj_J p l e R s m args below meth c D cl A ad cA G nL cs sl Q (if y ≤ x then o1 else o2) σ pc lv (.int y :: .int x :: rest) := fun z hz H locs ls hP hS hl => lv_icmp_ge C.1 C.2.1 hd ht (fun q => kt q z (by rw [if_pos q] at hz; exact hz) H locs ls hP hS hl) (fun q => kf q z (by rw [if_neg q] at hz; exact hz) H locs ls hP hS hl)
theorem jj_if_ge (C : jj_C p R s m args c D cl A ad cA G nL cs sl cc own Ts) {x : Int32} {off : Int} {tgt : Nat} (hd : decode cc pc = .ok (.ifCond .ge off, 3)) (ht : (pc : Int) + off = (tgt : Int)) (kt : 0 ≤ x → jj_J p l e R s m args below meth c D cl A ad cA G nL cs sl Q o1 σ tgt lv rest) (kf : ¬ (0 ≤ x) → jj_J p l e R s m args below meth c D cl A ad cA G nL cs sl Q o2 σ (pc + 3) lv rest) : jj_J p l e R s m args below meth c D cl A ad cA G nL cs sl Q (if 0 ≤ x then o1 else o2) σ pc lv (.int x :: rest) := fun z hz H locs ls hP hS hl => lv_if_ge C.1 C.2.1 hd ht (fun q => kt q z (by rw [if_pos q] at hz; exact hz) H locs ls hP hS hl) (fun q => kf q z (by rw [if_neg q] at hz; exact hz) H locs ls hP hS hl)
theorem jj_icmp_gt (C : jj_C p R s m args c D cl A ad cA G nL cs sl cc own Ts) {x y : Int32} {off : Int} {tgt : Nat} (hd : decode cc pc = .ok (.if_icmp .gt off, 3)) (ht : (pc : Int) + off = (tgt : Int)) (kt : y < x → jj_J p l e R s m args below meth c D cl A ad cA G nL cs sl Q o1 σ tgt lv rest) (kf : ¬ (y < x) → jj_J p l e R s m args below meth c D cl A ad cA G nL cs sl Q o2 σ (pc + 3) lv rest) : jj_J p l e R s m args below meth c D cl A ad cA G nL cs sl Q (if y < x then o1 else o2) σ pc lv (.int y :: .int x :: rest) := fun z hz H locs ls hP hS hl => lv_icmp_gt C.1 C.2.1 hd ht (fun q => kt q z (by rw [if_pos q] at hz; exact hz) H locs ls hP hS hl) (fun q => kf q z (by rw [if_neg q] at hz; exact hz) H locs ls hP hS hl)
theorem jj_if_gt (C : jj_C p R s m args c D cl A ad cA G nL cs sl cc own Ts) {x : Int32} {off : Int} {tgt : Nat} (hd : decode cc pc = .ok (.ifCond .gt off, 3)) (ht : (pc : Int) + off = (tgt : Int)) (kt : 0 < x → jj_J p l e R s m args below meth c D cl A ad cA G nL cs sl Q o1 σ tgt lv rest) (kf : ¬ (0 < x) → jj_J p l e R s m args below meth c D cl A ad cA G nL cs sl Q o2 σ (pc + 3) lv rest) : jj_J p l e R s m args below meth c D cl A ad cA G nL cs sl Q (if 0 < x then o1 else o2) σ pc lv (.int x :: rest) := fun z hz H locs ls hP hS hl => lv_if_gt C.1 C.2.1 hd ht (fun q => kt q z (by rw [if_pos q] at hz; exact hz) H locs ls hP hS hl) (fun q => kf q z (by rw [if_neg q] at hz; exact hz) H locs ls hP hS hl)
theorem jj_icmp_le (C : jj_C p R s m args c D cl A ad cA G nL cs sl cc own Ts) {x y : Int32} {off : Int} {tgt : Nat} (hd : decode cc pc = .ok (.if_icmp .le off, 3)) (ht : (pc : Int) + off = (tgt : Int)) (kt : x ≤ y → jj_J p l e R s m args below meth c D cl A ad cA G nL cs sl Q o1 σ tgt lv rest) (kf : ¬ (x ≤ y) → jj_J p l e R s m args below meth c D cl A ad cA G nL cs sl Q o2 σ (pc + 3) lv rest) : jj_J p l e R s m args below meth c D cl A ad cA G nL cs sl Q (if x ≤ y then o1 else o2) σ pc lv (.int y :: .int x :: rest) := fun z hz H locs ls hP hS hl => lv_icmp_le C.1 C.2.1 hd ht (fun q => kt q z (by rw [if_pos q] at hz; exact hz) H locs ls hP hS hl) (fun q => kf q z (by rw [if_neg q] at hz; exact hz) H locs ls hP hS hl)
theorem jj_if_le (C : jj_C p R s m args c D cl A ad cA G nL cs sl cc own Ts) {x : Int32} {off : Int} {tgt : Nat} (hd : decode cc pc = .ok (.ifCond .le off, 3)) (ht : (pc : Int) + off = (tgt : Int)) (kt : x ≤ 0 → jj_J p l e R s m args below meth c D cl A ad cA G nL cs sl Q o1 σ tgt lv rest) (kf : ¬ (x ≤ 0) → jj_J p l e R s m args below meth c D cl A ad cA G nL cs sl Q o2 σ (pc + 3) lv rest) : jj_J p l e R s m args below meth c D cl A ad cA G nL cs sl Q (if x ≤ 0 then o1 else o2) σ pc lv (.int x :: rest) := fun z hz H locs ls hP hS hl => lv_if_le C.1 C.2.1 hd ht (fun q => kt q z (by rw [if_pos q] at hz; exact hz) H locs ls hP hS hl) (fun q => kf q z (by rw [if_neg q] at hz; exact hz) H locs ls hP hS hl)
theorem jj_icmp_eq_t (C : jj_C p R s m args c D cl A ad cA G nL cs sl cc own Ts) {x y : Int32} {off : Int} {tgt : Nat} (hd : decode cc pc = .ok (.if_icmp .eq off, 3)) (ht : (pc : Int) + off = (tgt : Int)) (h : x = y) (kk : jj_J p l e R s m args below meth c D cl A ad cA G nL cs sl Q o σ tgt lv rest) : jj_J p l e R s m args below meth c D cl A ad cA G nL cs sl Q o σ pc lv (.int y :: .int x :: rest) := fun z hz H locs ls hP hS hl => lv_icmp_eq C.1 C.2.1 hd ht (fun _ => kk z hz H locs ls hP hS hl) (fun q => absurd h q)
theorem jj_icmp_eq_f (C : jj_C p R s m args c D cl A ad cA G nL cs sl cc own Ts) {x y : Int32} {off : Int} {tgt : Nat} (hd : decode cc pc = .ok (.if_icmp .eq off, 3)) (ht : (pc : Int) + off = (tgt : Int)) (h : ¬ (x = y)) (kk : jj_J p l e R s m args below meth c D cl A ad cA G nL cs sl Q o σ (pc + 3) lv rest) : jj_J p l e R s m args below meth c D cl A ad cA G nL cs sl Q o σ pc lv (.int y :: .int x :: rest) := fun z hz H locs ls hP hS hl => lv_icmp_eq C.1 C.2.1 hd ht (fun q => absurd q h) (fun _ => kk z hz H locs ls hP hS hl)
theorem jj_if_eq_t (C : jj_C p R s m args c D cl A ad cA G nL cs sl cc own Ts) {x : Int32} {off : Int} {tgt : Nat} (hd : decode cc pc = .ok (.ifCond .eq off, 3)) (ht : (pc : Int) + off = (tgt : Int)) (h : x = 0) (kk : jj_J p l e R s m args below meth c D cl A ad cA G nL cs sl Q o σ tgt lv rest) : jj_J p l e R s m args below meth c D cl A ad cA G nL cs sl Q o σ pc lv (.int x :: rest) := fun z hz H locs ls hP hS hl => lv_if_eq C.1 C.2.1 hd ht (fun _ => kk z hz H locs ls hP hS hl) (fun q => absurd h q)
theorem jj_if_eq_f (C : jj_C p R s m args c D cl A ad cA G nL cs sl cc own Ts) {x : Int32} {off : Int} {tgt : Nat} (hd : decode cc pc = .ok (.ifCond .eq off, 3)) (ht : (pc : Int) + off = (tgt : Int)) (h : ¬ (x = 0)) (kk : jj_J p l e R s m args below meth c D cl A ad cA G nL cs sl Q o σ (pc + 3) lv rest) : jj_J p l e R s m args below meth c D cl A ad cA G nL cs sl Q o σ pc lv (.int x :: rest) := fun z hz H locs ls hP hS hl => lv_if_eq C.1 C.2.1 hd ht (fun q => absurd q h) (fun _ => kk z hz H locs ls hP hS hl)
theorem jj_icmp_ne_t (C : jj_C p R s m args c D cl A ad cA G nL cs sl cc own Ts) {x y : Int32} {off : Int} {tgt : Nat} (hd : decode cc pc = .ok (.if_icmp .ne off, 3)) (ht : (pc : Int) + off = (tgt : Int)) (h : ¬ (x = y)) (kk : jj_J p l e R s m args below meth c D cl A ad cA G nL cs sl Q o σ tgt lv rest) : jj_J p l e R s m args below meth c D cl A ad cA G nL cs sl Q o σ pc lv (.int y :: .int x :: rest) := fun z hz H locs ls hP hS hl => lv_icmp_ne C.1 C.2.1 hd ht (fun _ => kk z hz H locs ls hP hS hl) (fun q => absurd q h)
theorem jj_icmp_ne_f (C : jj_C p R s m args c D cl A ad cA G nL cs sl cc own Ts) {x y : Int32} {off : Int} {tgt : Nat} (hd : decode cc pc = .ok (.if_icmp .ne off, 3)) (ht : (pc : Int) + off = (tgt : Int)) (h : x = y) (kk : jj_J p l e R s m args below meth c D cl A ad cA G nL cs sl Q o σ (pc + 3) lv rest) : jj_J p l e R s m args below meth c D cl A ad cA G nL cs sl Q o σ pc lv (.int y :: .int x :: rest) := fun z hz H locs ls hP hS hl => lv_icmp_ne C.1 C.2.1 hd ht (fun q => absurd h q) (fun _ => kk z hz H locs ls hP hS hl)
theorem jj_if_ne_t (C : jj_C p R s m args c D cl A ad cA G nL cs sl cc own Ts) {x : Int32} {off : Int} {tgt : Nat} (hd : decode cc pc = .ok (.ifCond .ne off, 3)) (ht : (pc : Int) + off = (tgt : Int)) (h : ¬ (x = 0)) (kk : jj_J p l e R s m args below meth c D cl A ad cA G nL cs sl Q o σ tgt lv rest) : jj_J p l e R s m args below meth c D cl A ad cA G nL cs sl Q o σ pc lv (.int x :: rest) := fun z hz H locs ls hP hS hl => lv_if_ne C.1 C.2.1 hd ht (fun _ => kk z hz H locs ls hP hS hl) (fun q => absurd q h)
theorem jj_if_ne_f (C : jj_C p R s m args c D cl A ad cA G nL cs sl cc own Ts) {x : Int32} {off : Int} {tgt : Nat} (hd : decode cc pc = .ok (.ifCond .ne off, 3)) (ht : (pc : Int) + off = (tgt : Int)) (h : x = 0) (kk : jj_J p l e R s m args below meth c D cl A ad cA G nL cs sl Q o σ (pc + 3) lv rest) : jj_J p l e R s m args below meth c D cl A ad cA G nL cs sl Q o σ pc lv (.int x :: rest) := fun z hz H locs ls hP hS hl => lv_if_ne C.1 C.2.1 hd ht (fun q => absurd h q) (fun _ => kk z hz H locs ls hP hS hl)
theorem jj_icmp_lt_t (C : jj_C p R s m args c D cl A ad cA G nL cs sl cc own Ts) {x y : Int32} {off : Int} {tgt : Nat} (hd : decode cc pc = .ok (.if_icmp .lt off, 3)) (ht : (pc : Int) + off = (tgt : Int)) (h : x < y) (kk : jj_J p l e R s m args below meth c D cl A ad cA G nL cs sl Q o σ tgt lv rest) : jj_J p l e R s m args below meth c D cl A ad cA G nL cs sl Q o σ pc lv (.int y :: .int x :: rest) := fun z hz H locs ls hP hS hl => lv_icmp_lt C.1 C.2.1 hd ht (fun _ => kk z hz H locs ls hP hS hl) (fun q => absurd h q)
theorem jj_icmp_lt_f (C : jj_C p R s m args c D cl A ad cA G nL cs sl cc own Ts) {x y : Int32} {off : Int} {tgt : Nat} (hd : decode cc pc = .ok (.if_icmp .lt off, 3)) (ht : (pc : Int) + off = (tgt : Int)) (h : ¬ (x < y)) (kk : jj_J p l e R s m args below meth c D cl A ad cA G nL cs sl Q o σ (pc + 3) lv rest) : jj_J p l e R s m args below meth c D cl A ad cA G nL cs sl Q o σ pc lv (.int y :: .int x :: rest) := fun z hz H locs ls hP hS hl => lv_icmp_lt C.1 C.2.1 hd ht (fun q => absurd q h) (fun _ => kk z hz H locs ls hP hS hl)
theorem jj_if_lt_t (C : jj_C p R s m args c D cl A ad cA G nL cs sl cc own Ts) {x : Int32} {off : Int} {tgt : Nat} (hd : decode cc pc = .ok (.ifCond .lt off, 3)) (ht : (pc : Int) + off = (tgt : Int)) (h : x < 0) (kk : jj_J p l e R s m args below meth c D cl A ad cA G nL cs sl Q o σ tgt lv rest) : jj_J p l e R s m args below meth c D cl A ad cA G nL cs sl Q o σ pc lv (.int x :: rest) := fun z hz H locs ls hP hS hl => lv_if_lt C.1 C.2.1 hd ht (fun _ => kk z hz H locs ls hP hS hl) (fun q => absurd h q)
theorem jj_if_lt_f (C : jj_C p R s m args c D cl A ad cA G nL cs sl cc own Ts) {x : Int32} {off : Int} {tgt : Nat} (hd : decode cc pc = .ok (.ifCond .lt off, 3)) (ht : (pc : Int) + off = (tgt : Int)) (h : ¬ (x < 0)) (kk : jj_J p l e R s m args below meth c D cl A ad cA G nL cs sl Q o σ (pc + 3) lv rest) : jj_J p l e R s m args below meth c D cl A ad cA G nL cs sl Q o σ pc lv (.int x :: rest) := fun z hz H locs ls hP hS hl => lv_if_lt C.1 C.2.1 hd ht (fun q => absurd q h) (fun _ => kk z hz H locs ls hP hS hl)
theorem jj_icmp_ge_t (C : jj_C p R s m args c D cl A ad cA G nL cs sl cc own Ts) {x y : Int32} {off : Int} {tgt : Nat} (hd : decode cc pc = .ok (.if_icmp .ge off, 3)) (ht : (pc : Int) + off = (tgt : Int)) (h : y ≤ x) (kk : jj_J p l e R s m args below meth c D cl A ad cA G nL cs sl Q o σ tgt lv rest) : jj_J p l e R s m args below meth c D cl A ad cA G nL cs sl Q o σ pc lv (.int y :: .int x :: rest) := fun z hz H locs ls hP hS hl => lv_icmp_ge C.1 C.2.1 hd ht (fun _ => kk z hz H locs ls hP hS hl) (fun q => absurd h q)
theorem jj_icmp_ge_f (C : jj_C p R s m args c D cl A ad cA G nL cs sl cc own Ts) {x y : Int32} {off : Int} {tgt : Nat} (hd : decode cc pc = .ok (.if_icmp .ge off, 3)) (ht : (pc : Int) + off = (tgt : Int)) (h : ¬ (y ≤ x)) (kk : jj_J p l e R s m args below meth c D cl A ad cA G nL cs sl Q o σ (pc + 3) lv rest) : jj_J p l e R s m args below meth c D cl A ad cA G nL cs sl Q o σ pc lv (.int y :: .int x :: rest) := fun z hz H locs ls hP hS hl => lv_icmp_ge C.1 C.2.1 hd ht (fun q => absurd q h) (fun _ => kk z hz H locs ls hP hS hl)
theorem jj_if_ge_t (C : jj_C p R s m args c D cl A ad cA G nL cs sl cc own Ts) {x : Int32} {off : Int} {tgt : Nat} (hd : decode cc pc = .ok (.ifCond .ge off, 3)) (ht : (pc : Int) + off = (tgt : Int)) (h : 0 ≤ x) (kk : jj_J p l e R s m args below meth c D cl A ad cA G nL cs sl Q o σ tgt lv rest) : jj_J p l e R s m args below meth c D cl A ad cA G nL cs sl Q o σ pc lv (.int x :: rest) := fun z hz H locs ls hP hS hl => lv_if_ge C.1 C.2.1 hd ht (fun _ => kk z hz H locs ls hP hS hl) (fun q => absurd h q)
theorem jj_if_ge_f (C : jj_C p R s m args c D cl A ad cA G nL cs sl cc own Ts) {x : Int32} {off : Int} {tgt : Nat} (hd : decode cc pc = .ok (.ifCond .ge off, 3)) (ht : (pc : Int) + off = (tgt : Int)) (h : ¬ (0 ≤ x)) (kk : jj_J p l e R s m args below meth c D cl A ad cA G nL cs sl Q o σ (pc + 3) lv rest) : jj_J p l e R s m args below meth c D cl A ad cA G nL cs sl Q o σ pc lv (.int x :: rest) := fun z hz H locs ls hP hS hl => lv_if_ge C.1 C.2.1 hd ht (fun q => absurd q h) (fun _ => kk z hz H locs ls hP hS hl)
theorem jj_icmp_gt_t (C : jj_C p R s m args c D cl A ad cA G nL cs sl cc own Ts) {x y : Int32} {off : Int} {tgt : Nat} (hd : decode cc pc = .ok (.if_icmp .gt off, 3)) (ht : (pc : Int) + off = (tgt : Int)) (h : y < x) (kk : jj_J p l e R s m args below meth c D cl A ad cA G nL cs sl Q o σ tgt lv rest) : jj_J p l e R s m args below meth c D cl A ad cA G nL cs sl Q o σ pc lv (.int y :: .int x :: rest) := fun z hz H locs ls hP hS hl => lv_icmp_gt C.1 C.2.1 hd ht (fun _ => kk z hz H locs ls hP hS hl) (fun q => absurd h q)
theorem jj_icmp_gt_f (C : jj_C p R s m args c D cl A ad cA G nL cs sl cc own Ts) {x y : Int32} {off : Int} {tgt : Nat} (hd : decode cc pc = .ok (.if_icmp .gt off, 3)) (ht : (pc : Int) + off = (tgt : Int)) (h : ¬ (y < x)) (kk : jj_J p l e R s m args below meth c D cl A ad cA G nL cs sl Q o σ (pc + 3) lv rest) : jj_J p l e R s m args below meth c D cl A ad cA G nL cs sl Q o σ pc lv (.int y :: .int x :: rest) := fun z hz H locs ls hP hS hl => lv_icmp_gt C.1 C.2.1 hd ht (fun q => absurd q h) (fun _ => kk z hz H locs ls hP hS hl)
theorem jj_if_gt_t (C : jj_C p R s m args c D cl A ad cA G nL cs sl cc own Ts) {x : Int32} {off : Int} {tgt : Nat} (hd : decode cc pc = .ok (.ifCond .gt off, 3)) (ht : (pc : Int) + off = (tgt : Int)) (h : 0 < x) (kk : jj_J p l e R s m args below meth c D cl A ad cA G nL cs sl Q o σ tgt lv rest) : jj_J p l e R s m args below meth c D cl A ad cA G nL cs sl Q o σ pc lv (.int x :: rest) := fun z hz H locs ls hP hS hl => lv_if_gt C.1 C.2.1 hd ht (fun _ => kk z hz H locs ls hP hS hl) (fun q => absurd h q)
theorem jj_if_gt_f (C : jj_C p R s m args c D cl A ad cA G nL cs sl cc own Ts) {x : Int32} {off : Int} {tgt : Nat} (hd : decode cc pc = .ok (.ifCond .gt off, 3)) (ht : (pc : Int) + off = (tgt : Int)) (h : ¬ (0 < x)) (kk : jj_J p l e R s m args below meth c D cl A ad cA G nL cs sl Q o σ (pc + 3) lv rest) : jj_J p l e R s m args below meth c D cl A ad cA G nL cs sl Q o σ pc lv (.int x :: rest) := fun z hz H locs ls hP hS hl => lv_if_gt C.1 C.2.1 hd ht (fun q => absurd q h) (fun _ => kk z hz H locs ls hP hS hl)
theorem jj_icmp_le_t (C : jj_C p R s m args c D cl A ad cA G nL cs sl cc own Ts) {x y : Int32} {off : Int} {tgt : Nat} (hd : decode cc pc = .ok (.if_icmp .le off, 3)) (ht : (pc : Int) + off = (tgt : Int)) (h : x ≤ y) (kk : jj_J p l e R s m args below meth c D cl A ad cA G nL cs sl Q o σ tgt lv rest) : jj_J p l e R s m args below meth c D cl A ad cA G nL cs sl Q o σ pc lv (.int y :: .int x :: rest) := fun z hz H locs ls hP hS hl => lv_icmp_le C.1 C.2.1 hd ht (fun _ => kk z hz H locs ls hP hS hl) (fun q => absurd h q)
theorem jj_icmp_le_f (C : jj_C p R s m args c D cl A ad cA G nL cs sl cc own Ts) {x y : Int32} {off : Int} {tgt : Nat} (hd : decode cc pc = .ok (.if_icmp .le off, 3)) (ht : (pc : Int) + off = (tgt : Int)) (h : ¬ (x ≤ y)) (kk : jj_J p l e R s m args below meth c D cl A ad cA G nL cs sl Q o σ (pc + 3) lv rest) : jj_J p l e R s m args below meth c D cl A ad cA G nL cs sl Q o σ pc lv (.int y :: .int x :: rest) := fun z hz H locs ls hP hS hl => lv_icmp_le C.1 C.2.1 hd ht (fun q => absurd q h) (fun _ => kk z hz H locs ls hP hS hl)
theorem jj_if_le_t (C : jj_C p R s m args c D cl A ad cA G nL cs sl cc own Ts) {x : Int32} {off : Int} {tgt : Nat} (hd : decode cc pc = .ok (.ifCond .le off, 3)) (ht : (pc : Int) + off = (tgt : Int)) (h : x ≤ 0) (kk : jj_J p l e R s m args below meth c D cl A ad cA G nL cs sl Q o σ tgt lv rest) : jj_J p l e R s m args below meth c D cl A ad cA G nL cs sl Q o σ pc lv (.int x :: rest) := fun z hz H locs ls hP hS hl => lv_if_le C.1 C.2.1 hd ht (fun _ => kk z hz H locs ls hP hS hl) (fun q => absurd h q)
theorem jj_if_le_f (C : jj_C p R s m args c D cl A ad cA G nL cs sl cc own Ts) {x : Int32} {off : Int} {tgt : Nat} (hd : decode cc pc = .ok (.ifCond .le off, 3)) (ht : (pc : Int) + off = (tgt : Int)) (h : ¬ (x ≤ 0)) (kk : jj_J p l e R s m args below meth c D cl A ad cA G nL cs sl Q o σ (pc + 3) lv rest) : jj_J p l e R s m args below meth c D cl A ad cA G nL cs sl Q o σ pc lv (.int x :: rest) := fun z hz H locs ls hP hS hl => lv_if_le C.1 C.2.1 hd ht (fun q => absurd q h) (fun _ => kk z hz H locs ls hP hS hl)
theorem jj_sub {lv lv' : List (Nat × Value)} (ks : List Nat) (h : lv_pick lv ks = lv') (kk : jj_J p l e R s m args below meth c D cl A ad cA G nL cs sl Q o σ pc lv' st) : jj_J p l e R s m args below meth c D cl A ad cA G nL cs sl Q o σ pc lv st := fun z hz H locs ls hP hS hl => kk z hz H locs ls hP hS (lv_sub hl ks h)
theorem jj_by {P : Prop} {dP : Decidable P} (kt : P → jj_J p l e R s m args below meth c D cl A ad cA G nL cs sl Q o1 σ pc lv st) (kf : ¬ P → jj_J p l e R s m args below meth c D cl A ad cA G nL cs sl Q o2 σ pc lv st) : jj_J p l e R s m args below meth c D cl A ad cA G nL cs sl Q (@ite _ P dP o1 o2) σ pc lv st := by
  intro z hz
  by_cases q : P
  · rw [if_pos q] at hz; exact kt q z hz
  · rw [if_neg q] at hz; exact kf q z hz
theorem jj_tsi (C : jj_C p R s m args c D cl A ad cA G nL cs sl cc own Ts) {x v : Int32} {dflt lo hi off : Int} {offs : Array Int} {len tgt : Nat} (hd : decode cc pc = .ok (.tableswitch dflt lo hi offs, len)) (hx : x = v) (h1 : ¬ v.toInt < lo) (h2 : ¬ hi < v.toInt) (ho : offs[(v.toInt - lo).toNat]? = some off) (ht : (pc : Int) + off = (tgt : Int)) (kk : jj_J p l e R s m args below meth c D cl A ad cA G nL cs sl Q o σ tgt lv rest) : jj_J p l e R s m args below meth c D cl A ad cA G nL cs sl Q o σ pc lv (.int x :: rest) := by
  subst hx
  exact fun z hz H locs ls hP hS hl => lv_tableIn C.1 C.2.1 hd h1 h2 ho ht (kk z hz H locs ls hP hS hl)
theorem jj_tso (C : jj_C p R s m args c D cl A ad cA G nL cs sl cc own Ts) {x : Int32} {dflt lo hi : Int} {offs : Array Int} {len tgt : Nat} (hd : decode cc pc = .ok (.tableswitch dflt lo hi offs, len)) (hx : ∀ j : Int, lo ≤ j → j ≤ hi → x.toInt = j → False) (ht : (pc : Int) + dflt = (tgt : Int)) (kk : jj_J p l e R s m args below meth c D cl A ad cA G nL cs sl Q o σ tgt lv rest) : jj_J p l e R s m args below meth c D cl A ad cA G nL cs sl Q o σ pc lv (.int x :: rest) := fun z hz H locs ls hP hS hl => lv_tableOut C.1 C.2.1 hd (by rcases Int.lt_or_le x.toInt lo with h | h; exact Or.inl h; rcases Int.lt_or_le hi x.toInt with h2 | h2; exact Or.inr h2; exact absurd rfl (fun q => hx x.toInt h h2 q)) ht (kk z hz H locs ls hP hS hl)
theorem jj_goto (C : jj_C p R s m args c D cl A ad cA G nL cs sl cc own Ts) {off : Int} {tgt : Nat} (hd : decode cc pc = .ok (.goto off, 3)) (ht : (pc : Int) + off = (tgt : Int)) (kk : jj_J p l e R s m args below meth c D cl A ad cA G nL cs sl Q o σ tgt lv st) : jj_J p l e R s m args below meth c D cl A ad cA G nL cs sl Q o σ pc lv st := fun z hz H locs ls hP hS hl => lv_goto C.1 C.2.1 hd ht (kk z hz H locs ls hP hS hl)
theorem jj_fld {ad : Nat → Nat} {σ : jj_S} {k j : Nat} {fs : List (Option Nat)} {x : Option Nat} (h : fs[j]? = some x) : (fs.mapIdx (jj_fv ad σ k))[j]? = some (jj_fv ad σ k j x) := by
  rw [List.getElem?_mapIdx, h]; rfl
theorem jj_geti (C : jj_C p R s m args c D cl A ad cA G nL cs sl cc own Ts) {Cn : String} {T : u_T} {N ci index : Nat} (k j : Nat) {fs : List (Option Nat)} (hin : ∀ w ∈ u_ws Cn T N, w ∈ Ts) (hG : G[k]? = some (.inl (ci, fs))) (hc : cl[ci]? = some (Cn, T, N)) (hk : j < N) (hlink : Cond.fieldLink own index (T j).1 (T j).2.1 (T j).2.2.1 ∈ Ts) (hf : fs[j]? = some none) (hd : decode cc pc = .ok (.getfield index, 3)) (kk : jj_J p l e R s m args below meth c D cl A ad cA G nL cs sl Q o σ (pc + 3) lv (.int (σ k j) :: rest)) : jj_J p l e R s m args below meth c D cl A ad cA G nL cs sl Q o σ pc lv (.ref (ad k) :: rest) := fun z hz H locs ls hP hS hl => va_get (q0 := k) (k := j) C.1 C.2.1 C.2.2.2.2.1 hin C.2.2.2.1 C.2.2.2.2.2.1 hP (jj_w_get σ hG) hc hk (C.2.2.2.2.1 _ hlink) (fun _ h => h) (jj_fld hf) hd (kk z hz H locs ls hP hS hl)
theorem jj_getr (C : jj_C p R s m args c D cl A ad cA G nL cs sl cc own Ts) {Cn : String} {T : u_T} {N ci index : Nat} (k j : Nat) {fs : List (Option Nat)} {r : Nat} (hin : ∀ w ∈ u_ws Cn T N, w ∈ Ts) (hG : G[k]? = some (.inl (ci, fs))) (hc : cl[ci]? = some (Cn, T, N)) (hk : j < N) (hlink : Cond.fieldLink own index (T j).1 (T j).2.1 (T j).2.2.1 ∈ Ts) (hf : fs[j]? = some (some r)) (hd : decode cc pc = .ok (.getfield index, 3)) (kk : jj_J p l e R s m args below meth c D cl A ad cA G nL cs sl Q o σ (pc + 3) lv (.ref (ad r) :: rest)) : jj_J p l e R s m args below meth c D cl A ad cA G nL cs sl Q o σ pc lv (.ref (ad k) :: rest) := fun z hz H locs ls hP hS hl => va_get (q0 := k) (k := j) C.1 C.2.1 C.2.2.2.2.1 hin C.2.2.2.1 C.2.2.2.2.2.1 hP (jj_w_get σ hG) hc hk (C.2.2.2.2.1 _ hlink) (fun _ h => h) (jj_fld hf) hd (kk z hz H locs ls hP hS hl)
theorem jj_fset {ad : Nat → Nat} {σ : jj_S} {k j : Nat} {fs : List (Option Nat)} {x : Int32} (h : fs[j]? = some none) : fs.mapIdx (jj_fv ad (jj_up σ k j x) k) = (fs.mapIdx (jj_fv ad σ k)).set j (.int x) := by
  apply List.ext_getElem?
  intro i
  have hlt : j < fs.length := (List.getElem?_eq_some_iff.mp h).1
  rw [List.getElem?_set, List.getElem?_mapIdx]
  by_cases hj : j = i
  · subst hj
    rw [h, if_pos rfl, if_pos (by rw [List.length_mapIdx]; exact hlt)]
    simp [jj_fv, jj_up, upd]
  · rw [if_neg hj, List.getElem?_mapIdx]
    cases fs[i]? with
    | none => rfl
    | some f => cases f <;> simp [jj_fv, jj_up, upd, Ne.symm hj]
theorem jj_puti (C : jj_C p R s m args c D cl A ad cA G nL cs sl cc own Ts) {Cn : String} {T : u_T} {N ci index : Nat} (k j : Nat) {fs : List (Option Nat)} {x : Int32} (hin : ∀ w ∈ u_ws Cn T N, w ∈ Ts) (hG : G[k]? = some (.inl (ci, fs))) (hc : cl[ci]? = some (Cn, T, N)) (hk : j < N) (hlink : Cond.fieldLink own index (T j).1 (T j).2.1 (T j).2.2.1 ∈ Ts) (ty0 : Nat → FieldType) (hty : ∀ k, k < N → parseFieldDescriptor (T k).2.2.1 = some (ty0 k)) (hnm : ∀ a, a < N → ∀ b, b < N → a ≠ b → (T a).2.1 ≠ (T b).2.1) (hfin : (T j).2.2.2 = false) (h0 : parseFieldDescriptor (T j).2.2.1 = some .int) (hf : fs[j]? = some none) (hd : decode cc pc = .ok (.putfield index, 3)) (kk : jj_J p l e R s m args below meth c D cl A ad cA G nL cs sl Q o (jj_up σ k j x) (pc + 3) lv rest) : jj_J p l e R s m args below meth c D cl A ad cA G nL cs sl Q o σ pc lv (.int x :: .ref (ad k) :: rest) := by
  intro z hz H locs ls hP hS hl
  refine va_put (q0 := k) (k := j) C.1 C.2.1 C.2.2.2.2.1 hin ty0 hty hnm C.2.2.2.1 C.2.2.2.2.2.1 hP (C.2.2.2.2.2.2.1 σ) hS (jj_w_get σ hG) hc hk (C.2.2.2.2.1 _ hlink) (fun _ h => h) hfin h0 rfl rfl (by rw [List.length_mapIdx]; exact (List.getElem?_eq_some_iff.mp hf).1) hd (fun H1 locs1 hP1 _ hS1 => ?_)
  rw [jj_w_set (x := x) (i := j) hG (by show (ad k, _) = _; rw [jj_fset hf])] at hP1
  exact kk z hz H1 locs1 ls hP1 hS1 hl
theorem jj_iald (C : jj_C p R s m args c D cl A ad cA G nL cs sl cc own Ts) {n : Nat} {i : Int32} (k : Nat) (hG : G[k]? = some (.inr (.int, n))) (hd : decode cc pc = .ok (.iaload, 1)) (kk : jj_J p l e R s m args below meth c D cl A ad cA G nL cs sl Q o σ (pc + 1) lv (.int (σ k i.toNatClampNeg) :: rest)) : jj_J p l e R s m args below meth c D cl A ad cA G nL cs sl Q (jj_ck n i o) σ pc lv (.int i :: .ref (ad k) :: rest) := fun z hz H locs ls hP hS hl => va_iald (q0 := k) (t0 := 0) C.1 C.2.1 C.2.2.2.2.2.1 hP (jj_w_get σ hG) rfl (jj_ck_in hz).1 hd (kk z (jj_ck_in hz).2 H locs ls hP hS hl)
theorem jj_zald (C : jj_C p R s m args c D cl A ad cA G nL cs sl cc own Ts) {n : Nat} {i : Int32} (k : Nat) (hG : G[k]? = some (.inr (.boolean, n))) (hd : decode cc pc = .ok (.baload, 1)) (kk : jj_J p l e R s m args below meth c D cl A ad cA G nL cs sl Q o σ (pc + 1) lv (.int (σ k i.toNatClampNeg) :: rest)) : jj_J p l e R s m args below meth c D cl A ad cA G nL cs sl Q (jj_ck n i o) σ pc lv (.int i :: .ref (ad k) :: rest) := fun z hz H locs ls hP hS hl => va_zald (q0 := k) (t0 := 1) C.1 C.2.1 C.2.2.2.2.2.1 hP (jj_w_get σ hG) rfl (jj_ck_in hz).1 hd (kk z (jj_ck_in hz).2 H locs ls hP hS hl)
theorem jj_iast (C : jj_C p R s m args c D cl A ad cA G nL cs sl cc own Ts) {n : Nat} {i x : Int32} (k : Nat) (hG : G[k]? = some (.inr (.int, n))) (hd : decode cc pc = .ok (.iastore, 1)) (kk : jj_J p l e R s m args below meth c D cl A ad cA G nL cs sl Q o (jj_up σ k i.toNatClampNeg x) (pc + 1) lv rest) : jj_J p l e R s m args below meth c D cl A ad cA G nL cs sl Q (jj_ck n i o) σ pc lv (.int x :: .int i :: .ref (ad k) :: rest) := by
  intro z hz H locs ls hP hS hl
  refine va_iast (q0 := k) (t0 := 0) C.1 C.2.1 C.2.2.2.2.2.1 hP (C.2.2.2.2.2.2.1 σ) hS (jj_w_get σ hG) rfl (jj_ck_in hz).1 hd (fun H1 locs1 hP1 _ hS1 => ?_)
  rw [jj_w_set (x := x) (i := i.toNatClampNeg) hG (by show (ad k, _) = _; rw [jj_up_same])] at hP1
  exact kk z (jj_ck_in hz).2 H1 locs1 ls hP1 hS1 hl
theorem jj_zast (C : jj_C p R s m args c D cl A ad cA G nL cs sl cc own Ts) {n : Nat} {i x : Int32} (k : Nat) (hG : G[k]? = some (.inr (.boolean, n))) (hd : decode cc pc = .ok (.bastore, 1)) (kk : jj_J p l e R s m args below meth c D cl A ad cA G nL cs sl Q o (jj_up σ k i.toNatClampNeg (vp_nar .boolean x)) (pc + 1) lv rest) : jj_J p l e R s m args below meth c D cl A ad cA G nL cs sl Q (jj_ck n i o) σ pc lv (.int x :: .int i :: .ref (ad k) :: rest) := by
  intro z hz H locs ls hP hS hl
  refine va_zast (q0 := k) (t0 := 1) C.1 C.2.1 C.2.2.2.2.2.1 hP (C.2.2.2.2.2.2.1 σ) hS (jj_w_get σ hG) rfl (jj_ck_in hz).1 hd (fun H1 locs1 hP1 _ hS1 => ?_)
  rw [jj_w_set (x := (vp_nar .boolean x)) (i := i.toNatClampNeg) hG (by show (ad k, _) = _; rw [jj_up_same])] at hP1
  exact kk z (jj_ck_in hz).2 H1 locs1 ls hP1 hS1 hl
theorem jj_alen (C : jj_C p R s m args c D cl A ad cA G nL cs sl cc own Ts) {n : Nat} {ty : FieldType} (k : Nat) (t0 : Nat) (hG : G[k]? = some (.inr (ty, n))) (ht : (jj_t cA)[t0]? = some (cA ty, ty)) (hd : decode cc pc = .ok (.arraylength, 1)) (kk : jj_J p l e R s m args below meth c D cl A ad cA G nL cs sl Q o σ (pc + 1) lv (.int (nI n) :: rest)) : jj_J p l e R s m args below meth c D cl A ad cA G nL cs sl Q o σ pc lv (.ref (ad k) :: rest) := fun z hz H locs ls hP hS hl => va_alen (q0 := k) (t0 := t0) C.1 C.2.1 C.2.2.2.2.2.1 hP (jj_w_get σ hG) ht rfl hd (kk z hz H locs ls hP hS hl)
/-- a method's contract over the world: it answers r and leaves σ' -/
def jj_Mi (l : Launch) (y : MethodName) (ws : List Cond) (rm : Room) (D : va_G) (cl : List vw_C) (ad : Nat → Nat) (cA : FieldType → ClassId) (G : List jj_H) (av : List Value) (σ : jj_S) (z : Int32 × jj_S) : Prop :=
  ∀ sz : Nat, Met l y ws rm (va_Pc av (fun U => U.heap.size = sz ∧ va_P D cl (jj_w ad cA G σ) U.heap ∧ va_K D cl (jj_t cA) U ∧ va_D (fun _ => True) (jj_w ad cA G σ))) (va_Qi (fun r (u : jj_S) => (r, u) = z) (fun u t => va_P D cl (jj_w ad cA G u) t.heap) (va_A (jj_w ad cA G σ) sz)) 0 0 (va_A (jj_w ad cA G σ) sz)
def jj_Mv (l : Launch) (y : MethodName) (ws : List Cond) (rm : Room) (D : va_G) (cl : List vw_C) (ad : Nat → Nat) (cA : FieldType → ClassId) (G : List jj_H) (av : List Value) (σ : jj_S) (z : jj_S) : Prop :=
  ∀ sz : Nat, Met l y ws rm (va_Pc av (fun U => U.heap.size = sz ∧ va_P D cl (jj_w ad cA G σ) U.heap ∧ va_K D cl (jj_t cA) U ∧ va_D (fun _ => True) (jj_w ad cA G σ))) (va_Qv (fun (u : jj_S) => u = z) (fun u t => va_P D cl (jj_w ad cA G u) t.heap) (va_A (jj_w ad cA G σ) sz)) 0 0 (va_A (jj_w ad cA G σ) sz)
def jj_Qi (below : List Frame) (D : va_G) (cl : List vw_C) (A : Nat → Prop) (ad : Nat → Nat) (cA : FieldType → ClassId) (G : List jj_H) (args : Array Value) (s : State) (cs sl : Nat) (z : Int32 × jj_S) : State → Prop := MQ below (va_Qi (fun r (u : jj_S) => (r, u) = z) (fun u t => va_P D cl (jj_w ad cA G u) t.heap) A) args s cs sl A
def jj_Qv (below : List Frame) (D : va_G) (cl : List vw_C) (A : Nat → Prop) (ad : Nat → Nat) (cA : FieldType → ClassId) (G : List jj_H) (args : Array Value) (s : State) (cs sl : Nat) (z : jj_S) : State → Prop := MQ below (va_Qv (fun (u : jj_S) => u = z) (fun u t => va_P D cl (jj_w ad cA G u) t.heap) A) args s cs sl A
def jj_b2 {γ : Type} (f : Option (Int32 × jj_S)) (k : Int32 → jj_S → Option γ) : Option γ := f.bind (fun z => k z.1 z.2)
def jj_st {γ : Type} (σ : jj_S) (k : jj_S → Option γ) : Option γ := k σ
def jj_lt {γ : Type} (x : Int32) (k : Int32 → Option γ) : Option γ := k x
def jj_b1 {γ : Type} (f : Option jj_S) (k : jj_S → Option γ) : Option γ := f.bind k
theorem jj_stn {k : jj_S → Option β} (kk : ∀ σ' : jj_S, jj_J p l e R s m args below meth c D cl A ad cA G nL cs sl Q (k σ') σ' pc lv st) : jj_J p l e R s m args below meth c D cl A ad cA G nL cs sl Q (jj_st σ k) σ pc lv st := kk σ
theorem jj_ltn {k : Int32 → Option β} {x : Int32} (kk : ∀ v : Int32, jj_J p l e R s m args below meth c D cl A ad cA G nL cs sl Q (k v) σ pc lv (.int v :: rest)) : jj_J p l e R s m args below meth c D cl A ad cA G nL cs sl Q (jj_lt x k) σ pc lv (.int x :: rest) := kk x
theorem jj_ofi {y : MethodName} {rm : Room} {ret : Option FieldType} {av : List Value} {z : Int32 × jj_S} {o : Option (Int32 × jj_S)} {ys : List Cond} (hn : plainName y.cls = true) (ho : o = some z) (hal : (lg_sl av).length ≤ nL)
    (body : ∀ (p : Program) (e : Env) (s : State) (m : MethodId) (below : List Frame) (meth : Method) (c : Code), jj_C p (headSpec (Cond.code y cc nL ret :: ys) rm).room s m av.toArray c D cl (va_A (jj_w ad cA G σ) s.heap.size) ad cA G nL 0 0 cc y.cls ys → meth.sig.returnType = ret → meth.locks = false →
      jj_J p l e (headSpec (Cond.code y cc nL ret :: ys) rm).room s m av.toArray below meth c D cl (va_A (jj_w ad cA G σ) s.heap.size) ad cA G nL 0 0 (jj_Qi below D cl (va_A (jj_w ad cA G σ) s.heap.size) ad cA G av.toArray s 0 0) o σ 0 (lv_args 0 av) []) :
    jj_Mi l y (Cond.code y cc nL ret :: ys) rm D cl ad cA G av σ z := by
  intro sz
  refine Met.ofW (cc := cc) (maxL := nL) (ret := ret) hn rfl ?_
  intro p e s m args below meth c s₁ B hml hv
  obtain ⟨rfl, hsz, hP, hK, hD0⟩ := hv
  subst hsz
  have hts := atoms_spec (ws := Cond.code y cc nL ret :: ys) B.pre
  have hD := hD0.self (sz := s.heap.size)
  rw [lg_entry_eq]
  exact body p e s m below meth c ⟨B.exec, B.bytes, hml, findClass_of_methodNamed B.named, fun w hw => hts w (List.mem_cons_of_mem _ hw), hK, fun _ => jj_D hD, fun q h => Or.inr h, Nat.zero_le _, Nat.zero_le _⟩ B.returns B.notSynchronized z ho s.heap [] _ hP va_S.rf (lv_entry av hal)
theorem jj_ofv {y : MethodName} {rm : Room} {ret : Option FieldType} {av : List Value} {z : jj_S} {o : Option (jj_S)} {ys : List Cond} (hn : plainName y.cls = true) (ho : o = some z) (hal : (lg_sl av).length ≤ nL)
    (body : ∀ (p : Program) (e : Env) (s : State) (m : MethodId) (below : List Frame) (meth : Method) (c : Code), jj_C p (headSpec (Cond.code y cc nL ret :: ys) rm).room s m av.toArray c D cl (va_A (jj_w ad cA G σ) s.heap.size) ad cA G nL 0 0 cc y.cls ys → meth.sig.returnType = ret → meth.locks = false →
      jj_J p l e (headSpec (Cond.code y cc nL ret :: ys) rm).room s m av.toArray below meth c D cl (va_A (jj_w ad cA G σ) s.heap.size) ad cA G nL 0 0 (jj_Qv below D cl (va_A (jj_w ad cA G σ) s.heap.size) ad cA G av.toArray s 0 0) o σ 0 (lv_args 0 av) []) :
    jj_Mv l y (Cond.code y cc nL ret :: ys) rm D cl ad cA G av σ z := by
  intro sz
  refine Met.ofW (cc := cc) (maxL := nL) (ret := ret) hn rfl ?_
  intro p e s m args below meth c s₁ B hml hv
  obtain ⟨rfl, hsz, hP, hK, hD0⟩ := hv
  subst hsz
  have hts := atoms_spec (ws := Cond.code y cc nL ret :: ys) B.pre
  have hD := hD0.self (sz := s.heap.size)
  rw [lg_entry_eq]
  exact body p e s m below meth c ⟨B.exec, B.bytes, hml, findClass_of_methodNamed B.named, fun w hw => hts w (List.mem_cons_of_mem _ hw), hK, fun _ => jj_D hD, fun q h => Or.inr h, Nat.zero_le _, Nat.zero_le _⟩ B.returns B.notSynchronized z ho s.heap [] _ hP va_S.rf (lv_entry av hal)
theorem jj_iret (C : jj_C p R s m args c D cl A ad cA G nL cs sl cc own Ts) {r : Int32} (hr : meth.sig.returnType = some .int) (hlocks : meth.locks = false)  (hd : decode cc pc = .ok (.ireturn, 1)) : jj_J p l e R s m args below meth c D cl A ad cA G nL cs sl (jj_Qi below D cl A ad cA G args s cs sl) (some (r, σ)) σ pc lv [.int r] := fun z hz H locs ls hP hS hl => W.iret C.1 C.2.1 hr (fun t ht _ => ⟨⟨r, σ, rfl, Option.some.inj hz, (show va_P D cl (jj_w ad cA G σ) t.heap from by rw [ht]; exact hP)⟩, hS.F ht⟩) hS.2.2 hd hlocks
theorem jj_zret (C : jj_C p R s m args c D cl A ad cA G nL cs sl cc own Ts) {r : Int32} (hr : meth.sig.returnType = some .boolean) (hlocks : meth.locks = false) (hnn : narrow .boolean (.int r) = .int r) (hd : decode cc pc = .ok (.ireturn, 1)) : jj_J p l e R s m args below meth c D cl A ad cA G nL cs sl (jj_Qi below D cl A ad cA G args s cs sl) (some (r, σ)) σ pc lv [.int r] := fun z hz H locs ls hP hS hl => W.zret C.1 C.2.1 hr hnn (fun t ht _ => ⟨⟨r, σ, rfl, Option.some.inj hz, (show va_P D cl (jj_w ad cA G σ) t.heap from by rw [ht]; exact hP)⟩, hS.F ht⟩) hS.2.2 hd hlocks
theorem jj_vret (C : jj_C p R s m args c D cl A ad cA G nL cs sl cc own Ts)  (hr : meth.sig.returnType = none) (hlocks : meth.locks = false)  (hd : decode cc pc = .ok (.return_, 1)) : jj_J p l e R s m args below meth c D cl A ad cA G nL cs sl (jj_Qv below D cl A ad cA G args s cs sl) (some σ) σ pc lv [] := fun z hz H locs ls hP hS hl => W.vret C.1 C.2.1 hr (fun t ht _ => ⟨⟨σ, rfl, Option.some.inj hz, (show va_P D cl (jj_w ad cA G σ) t.heap from by rw [ht]; exact hP)⟩, hS.F ht⟩) hS.2.2 hd hlocks
theorem jj_callVi (C : jj_C p R s m args c D cl A ad cA G nL cs sl cc own Ts) {y : MethodName} {bytes : ByteArray} {maxL n index : Nat} {ret : Option FieldType} {rm : Room} {ys : List Cond} {As : List Value} {kr ci : Nat} {fs : List (Option Nat)} {T : u_T} {N : Nat} {f : Option (Int32 × jj_S)} {k : Int32 → jj_S → Option β} (hM : ∀ z, f = some z → jj_Mi l y (Cond.code y bytes maxL ret :: ys) rm D cl ad cA G (.ref (ad kr) :: As) σ z) (hcw : CallW R s args own y.cls index y bytes maxL ret (Cond.code y bytes maxL ret :: ys) rm 0 0 n) (hG : G[kr]? = some (.inl (ci, fs))) (hc : cl[ci]? = some (y.cls, T, N)) (hn : As.length = n) (hst : st = (As.reverse ++ .ref (ad kr) :: rest)) (hW : (rest.map fun v => v.category).sum ≤ 8) (hd : decode cc pc = .ok (.invokevirtual index, 3)) (kk : ∀ (r : Int32) (σ' : jj_S), f = some (r, σ') → jj_J p l e R s m args below meth c D cl A ad cA G nL cs sl Q (k r σ') σ' (pc + 3) lv (.int r :: rest)) : jj_J p l e R s m args below meth c D cl A ad cA G nL cs sl Q (jj_b2 f k) σ pc lv st := by
  intro z hz H locs ls hP hS hl
  subst hst
  obtain ⟨z1, hf, hz⟩ := Option.bind_eq_some_iff.mp hz
  have hF : ∀ q, va_A (jj_w ad cA G σ) H.size q → A q := fun q hq => by
    rcases hq with ⟨j, e1, hj⟩ | hq
    · exact (C.2.2.2.2.2.2.1 σ).2 j _ hj
    · exact C.2.2.2.2.2.2.2.1 q (Nat.le_trans hS.1 hq)
  refine va_calli (va_runV (As := As) (rest := rest) ⟨C.1, C.2.1, C.2.2.1, C.2.2.2.1, C.2.2.2.2.1⟩ (hM z1 hf H.size) hcw ⟨fun a U g mk q => by obtain ⟨q0, q1, qP, qK, qD⟩ := q; exact ⟨q0, q1, qP, va_K.moved (u := U) (U := U.calling g mk a) (Vm.Alike.refl U.vm) qK, qD⟩, va_recv C.2.2.2.2.2.1 hP hc (jj_w_get σ hG), fun U hU hW => ⟨rfl, by rw [hU], by rw [hU]; exact hP, va_K.moved hW.alike C.2.2.2.2.2.1, (C.2.2.2.2.2.2.1 σ).weaken (fun _ _ _ _ => trivial)⟩⟩ rfl hn hl.1 rfl (lv_room hW) hd ⟨C.2.2.2.2.2.2.2.2.1, C.2.2.2.2.2.2.2.2.2⟩) hS (fun q _ h => hF q h) hF ?_
  intro r u t H1 locs1 ht hvm hw hB hz1 hk1 hS1
  subst hw
  rw [ht] at hB
  exact kk r u hf z hz H1 locs1 ls hB hS1 hl
theorem jj_callSi (C : jj_C p R s m args c D cl A ad cA G nL cs sl cc own Ts) {y : MethodName} {bytes : ByteArray} {maxL n index : Nat} {ret : Option FieldType} {rm : Room} {ys : List Cond} {As : List Value}  {f : Option (Int32 × jj_S)} {k : Int32 → jj_S → Option β} (hM : ∀ z, f = some z → jj_Mi l y (Cond.code y bytes maxL ret :: ys) rm D cl ad cA G As σ z) (hcw : CallB R s args own index y bytes maxL ret (Cond.code y bytes maxL ret :: ys) rm 0 0 n ∧ (Cond.static y).before args s = true)  (hn : As.length = n) (hst : st = (As.reverse ++ rest)) (hW : (rest.map fun v => v.category).sum ≤ 8) (hd : decode cc pc = .ok (.invokestatic index, 3)) (kk : ∀ (r : Int32) (σ' : jj_S), f = some (r, σ') → jj_J p l e R s m args below meth c D cl A ad cA G nL cs sl Q (k r σ') σ' (pc + 3) lv (.int r :: rest)) : jj_J p l e R s m args below meth c D cl A ad cA G nL cs sl Q (jj_b2 f k) σ pc lv st := by
  intro z hz H locs ls hP hS hl
  subst hst
  obtain ⟨z1, hf, hz⟩ := Option.bind_eq_some_iff.mp hz
  have hF : ∀ q, va_A (jj_w ad cA G σ) H.size q → A q := fun q hq => by
    rcases hq with ⟨j, e1, hj⟩ | hq
    · exact (C.2.2.2.2.2.2.1 σ).2 j _ hj
    · exact C.2.2.2.2.2.2.2.1 q (Nat.le_trans hS.1 hq)
  refine va_calli (va_runS (As := As) (rest := rest) ⟨C.1, C.2.1, C.2.2.1, C.2.2.2.1, C.2.2.2.2.1⟩ (hM z1 hf H.size) hcw ⟨fun a U g mk q => by obtain ⟨q0, q1, qP, qK, qD⟩ := q; exact ⟨q0, q1, qP, va_K.moved (u := U) (U := U.calling g mk a) (Vm.Alike.refl U.vm) qK, qD⟩, fun U hU hW => ⟨rfl, by rw [hU], by rw [hU]; exact hP, va_K.moved hW.alike C.2.2.2.2.2.1, (C.2.2.2.2.2.2.1 σ).weaken (fun _ _ _ _ => trivial)⟩⟩ rfl hn hl.1 rfl (lv_room hW) hd ⟨C.2.2.2.2.2.2.2.2.1, C.2.2.2.2.2.2.2.2.2⟩) hS (fun q _ h => hF q h) hF ?_
  intro r u t H1 locs1 ht hvm hw hB hz1 hk1 hS1
  subst hw
  rw [ht] at hB
  exact kk r u hf z hz H1 locs1 ls hB hS1 hl
theorem jj_callVv (C : jj_C p R s m args c D cl A ad cA G nL cs sl cc own Ts) {y : MethodName} {bytes : ByteArray} {maxL n index : Nat} {ret : Option FieldType} {rm : Room} {ys : List Cond} {As : List Value} {kr ci : Nat} {fs : List (Option Nat)} {T : u_T} {N : Nat} {f : Option (jj_S)} {k : jj_S → Option β} (hM : ∀ z, f = some z → jj_Mv l y (Cond.code y bytes maxL ret :: ys) rm D cl ad cA G (.ref (ad kr) :: As) σ z) (hcw : CallW R s args own y.cls index y bytes maxL ret (Cond.code y bytes maxL ret :: ys) rm 0 0 n) (hG : G[kr]? = some (.inl (ci, fs))) (hc : cl[ci]? = some (y.cls, T, N)) (hn : As.length = n) (hst : st = (As.reverse ++ .ref (ad kr) :: rest)) (hW : (rest.map fun v => v.category).sum ≤ 8) (hd : decode cc pc = .ok (.invokevirtual index, 3)) (kk : ∀ (σ' : jj_S), f = some σ' → jj_J p l e R s m args below meth c D cl A ad cA G nL cs sl Q (k σ') σ' (pc + 3) lv rest) : jj_J p l e R s m args below meth c D cl A ad cA G nL cs sl Q (jj_b1 f k) σ pc lv st := by
  intro z hz H locs ls hP hS hl
  subst hst
  obtain ⟨z1, hf, hz⟩ := Option.bind_eq_some_iff.mp hz
  have hF : ∀ q, va_A (jj_w ad cA G σ) H.size q → A q := fun q hq => by
    rcases hq with ⟨j, e1, hj⟩ | hq
    · exact (C.2.2.2.2.2.2.1 σ).2 j _ hj
    · exact C.2.2.2.2.2.2.2.1 q (Nat.le_trans hS.1 hq)
  refine va_callv (va_runV (As := As) (rest := rest) ⟨C.1, C.2.1, C.2.2.1, C.2.2.2.1, C.2.2.2.2.1⟩ (hM z1 hf H.size) hcw ⟨fun a U g mk q => by obtain ⟨q0, q1, qP, qK, qD⟩ := q; exact ⟨q0, q1, qP, va_K.moved (u := U) (U := U.calling g mk a) (Vm.Alike.refl U.vm) qK, qD⟩, va_recv C.2.2.2.2.2.1 hP hc (jj_w_get σ hG), fun U hU hW => ⟨rfl, by rw [hU], by rw [hU]; exact hP, va_K.moved hW.alike C.2.2.2.2.2.1, (C.2.2.2.2.2.2.1 σ).weaken (fun _ _ _ _ => trivial)⟩⟩ rfl hn hl.1 rfl (lv_room hW) hd ⟨C.2.2.2.2.2.2.2.2.1, C.2.2.2.2.2.2.2.2.2⟩) hS (fun q _ h => hF q h) hF ?_
  intro u t H1 locs1 ht hvm hw hB hz1 hk1 hS1
  subst hw
  rw [ht] at hB
  exact kk u hf z hz H1 locs1 ls hB hS1 hl
theorem jj_callSv (C : jj_C p R s m args c D cl A ad cA G nL cs sl cc own Ts) {y : MethodName} {bytes : ByteArray} {maxL n index : Nat} {ret : Option FieldType} {rm : Room} {ys : List Cond} {As : List Value}  {f : Option (jj_S)} {k : jj_S → Option β} (hM : ∀ z, f = some z → jj_Mv l y (Cond.code y bytes maxL ret :: ys) rm D cl ad cA G As σ z) (hcw : CallB R s args own index y bytes maxL ret (Cond.code y bytes maxL ret :: ys) rm 0 0 n ∧ (Cond.static y).before args s = true)  (hn : As.length = n) (hst : st = (As.reverse ++ rest)) (hW : (rest.map fun v => v.category).sum ≤ 8) (hd : decode cc pc = .ok (.invokestatic index, 3)) (kk : ∀ (σ' : jj_S), f = some σ' → jj_J p l e R s m args below meth c D cl A ad cA G nL cs sl Q (k σ') σ' (pc + 3) lv rest) : jj_J p l e R s m args below meth c D cl A ad cA G nL cs sl Q (jj_b1 f k) σ pc lv st := by
  intro z hz H locs ls hP hS hl
  subst hst
  obtain ⟨z1, hf, hz⟩ := Option.bind_eq_some_iff.mp hz
  have hF : ∀ q, va_A (jj_w ad cA G σ) H.size q → A q := fun q hq => by
    rcases hq with ⟨j, e1, hj⟩ | hq
    · exact (C.2.2.2.2.2.2.1 σ).2 j _ hj
    · exact C.2.2.2.2.2.2.2.1 q (Nat.le_trans hS.1 hq)
  refine va_callv (va_runS (As := As) (rest := rest) ⟨C.1, C.2.1, C.2.2.1, C.2.2.2.1, C.2.2.2.2.1⟩ (hM z1 hf H.size) hcw ⟨fun a U g mk q => by obtain ⟨q0, q1, qP, qK, qD⟩ := q; exact ⟨q0, q1, qP, va_K.moved (u := U) (U := U.calling g mk a) (Vm.Alike.refl U.vm) qK, qD⟩, fun U hU hW => ⟨rfl, by rw [hU], by rw [hU]; exact hP, va_K.moved hW.alike C.2.2.2.2.2.1, (C.2.2.2.2.2.2.1 σ).weaken (fun _ _ _ _ => trivial)⟩⟩ rfl hn hl.1 rfl (lv_room hW) hd ⟨C.2.2.2.2.2.2.2.2.1, C.2.2.2.2.2.2.2.2.2⟩) hS (fun q _ h => hF q h) hF ?_
  intro u t H1 locs1 ht hvm hw hB hz1 hk1 hS1
  subst hw
  rw [ht] at hB
  exact kk u hf z hz H1 locs1 ls hB hS1 hl
end JJ
def jj_lp0 {γ : Type} (b : (jj_S → Option γ) → jj_S → Option γ) : Nat → jj_S → Option γ
  | 0 => fun _ => none
  | k + 1 => b (jj_lp0 b k)
theorem jj_loop0 {γ : Type} {b : (jj_S → Option γ) → jj_S → Option γ} {T : Option γ → jj_S → Prop} (h0 : ∀ (σ : jj_S), T none σ ) (hs : ∀ rec : jj_S → Option γ, (∀ (σ : jj_S), T (rec σ ) σ ) → ∀ (σ : jj_S), T (b rec σ ) σ ) : ∀ (k : Nat) (σ : jj_S), T (jj_lp0 b k σ ) σ  := by
  intro k
  induction k with
  | zero => exact h0
  | succ k ih => exact hs _ ih
def jj_lp1 {γ : Type} (b : (jj_S → Int32 → Option γ) → jj_S → Int32 → Option γ) : Nat → jj_S → Int32 → Option γ
  | 0 => fun _ _ => none
  | k + 1 => b (jj_lp1 b k)
theorem jj_loop1 {γ : Type} {b : (jj_S → Int32 → Option γ) → jj_S → Int32 → Option γ} {T : Option γ → jj_S → Int32 → Prop} (h0 : ∀ (σ : jj_S) (x1 : Int32), T none σ x1) (hs : ∀ rec : jj_S → Int32 → Option γ, (∀ (σ : jj_S) (x1 : Int32), T (rec σ x1) σ x1) → ∀ (σ : jj_S) (x1 : Int32), T (b rec σ x1) σ x1) : ∀ (k : Nat) (σ : jj_S) (x1 : Int32), T (jj_lp1 b k σ x1) σ x1 := by
  intro k
  induction k with
  | zero => exact h0
  | succ k ih => exact hs _ ih
def jj_lp2 {γ : Type} (b : (jj_S → Int32 → Int32 → Option γ) → jj_S → Int32 → Int32 → Option γ) : Nat → jj_S → Int32 → Int32 → Option γ
  | 0 => fun _ _ _ => none
  | k + 1 => b (jj_lp2 b k)
theorem jj_loop2 {γ : Type} {b : (jj_S → Int32 → Int32 → Option γ) → jj_S → Int32 → Int32 → Option γ} {T : Option γ → jj_S → Int32 → Int32 → Prop} (h0 : ∀ (σ : jj_S) (x1 x2 : Int32), T none σ x1 x2) (hs : ∀ rec : jj_S → Int32 → Int32 → Option γ, (∀ (σ : jj_S) (x1 x2 : Int32), T (rec σ x1 x2) σ x1 x2) → ∀ (σ : jj_S) (x1 x2 : Int32), T (b rec σ x1 x2) σ x1 x2) : ∀ (k : Nat) (σ : jj_S) (x1 x2 : Int32), T (jj_lp2 b k σ x1 x2) σ x1 x2 := by
  intro k
  induction k with
  | zero => exact h0
  | succ k ih => exact hs _ ih
def jj_lp3 {γ : Type} (b : (jj_S → Int32 → Int32 → Int32 → Option γ) → jj_S → Int32 → Int32 → Int32 → Option γ) : Nat → jj_S → Int32 → Int32 → Int32 → Option γ
  | 0 => fun _ _ _ _ => none
  | k + 1 => b (jj_lp3 b k)
theorem jj_loop3 {γ : Type} {b : (jj_S → Int32 → Int32 → Int32 → Option γ) → jj_S → Int32 → Int32 → Int32 → Option γ} {T : Option γ → jj_S → Int32 → Int32 → Int32 → Prop} (h0 : ∀ (σ : jj_S) (x1 x2 x3 : Int32), T none σ x1 x2 x3) (hs : ∀ rec : jj_S → Int32 → Int32 → Int32 → Option γ, (∀ (σ : jj_S) (x1 x2 x3 : Int32), T (rec σ x1 x2 x3) σ x1 x2 x3) → ∀ (σ : jj_S) (x1 x2 x3 : Int32), T (b rec σ x1 x2 x3) σ x1 x2 x3) : ∀ (k : Nat) (σ : jj_S) (x1 x2 x3 : Int32), T (jj_lp3 b k σ x1 x2 x3) σ x1 x2 x3 := by
  intro k
  induction k with
  | zero => exact h0
  | succ k ih => exact hs _ ih
def jj_lp4 {γ : Type} (b : (jj_S → Int32 → Int32 → Int32 → Int32 → Option γ) → jj_S → Int32 → Int32 → Int32 → Int32 → Option γ) : Nat → jj_S → Int32 → Int32 → Int32 → Int32 → Option γ
  | 0 => fun _ _ _ _ _ => none
  | k + 1 => b (jj_lp4 b k)
theorem jj_loop4 {γ : Type} {b : (jj_S → Int32 → Int32 → Int32 → Int32 → Option γ) → jj_S → Int32 → Int32 → Int32 → Int32 → Option γ} {T : Option γ → jj_S → Int32 → Int32 → Int32 → Int32 → Prop} (h0 : ∀ (σ : jj_S) (x1 x2 x3 x4 : Int32), T none σ x1 x2 x3 x4) (hs : ∀ rec : jj_S → Int32 → Int32 → Int32 → Int32 → Option γ, (∀ (σ : jj_S) (x1 x2 x3 x4 : Int32), T (rec σ x1 x2 x3 x4) σ x1 x2 x3 x4) → ∀ (σ : jj_S) (x1 x2 x3 x4 : Int32), T (b rec σ x1 x2 x3 x4) σ x1 x2 x3 x4) : ∀ (k : Nat) (σ : jj_S) (x1 x2 x3 x4 : Int32), T (jj_lp4 b k σ x1 x2 x3 x4) σ x1 x2 x3 x4 := by
  intro k
  induction k with
  | zero => exact h0
  | succ k ih => exact hs _ ih
def jj_lp5 {γ : Type} (b : (jj_S → Int32 → Int32 → Int32 → Int32 → Int32 → Option γ) → jj_S → Int32 → Int32 → Int32 → Int32 → Int32 → Option γ) : Nat → jj_S → Int32 → Int32 → Int32 → Int32 → Int32 → Option γ
  | 0 => fun _ _ _ _ _ _ => none
  | k + 1 => b (jj_lp5 b k)
theorem jj_loop5 {γ : Type} {b : (jj_S → Int32 → Int32 → Int32 → Int32 → Int32 → Option γ) → jj_S → Int32 → Int32 → Int32 → Int32 → Int32 → Option γ} {T : Option γ → jj_S → Int32 → Int32 → Int32 → Int32 → Int32 → Prop} (h0 : ∀ (σ : jj_S) (x1 x2 x3 x4 x5 : Int32), T none σ x1 x2 x3 x4 x5) (hs : ∀ rec : jj_S → Int32 → Int32 → Int32 → Int32 → Int32 → Option γ, (∀ (σ : jj_S) (x1 x2 x3 x4 x5 : Int32), T (rec σ x1 x2 x3 x4 x5) σ x1 x2 x3 x4 x5) → ∀ (σ : jj_S) (x1 x2 x3 x4 x5 : Int32), T (b rec σ x1 x2 x3 x4 x5) σ x1 x2 x3 x4 x5) : ∀ (k : Nat) (σ : jj_S) (x1 x2 x3 x4 x5 : Int32), T (jj_lp5 b k σ x1 x2 x3 x4 x5) σ x1 x2 x3 x4 x5 := by
  intro k
  induction k with
  | zero => exact h0
  | succ k ih => exact hs _ ih
def jj_lp6 {γ : Type} (b : (jj_S → Int32 → Int32 → Int32 → Int32 → Int32 → Int32 → Option γ) → jj_S → Int32 → Int32 → Int32 → Int32 → Int32 → Int32 → Option γ) : Nat → jj_S → Int32 → Int32 → Int32 → Int32 → Int32 → Int32 → Option γ
  | 0 => fun _ _ _ _ _ _ _ => none
  | k + 1 => b (jj_lp6 b k)
theorem jj_loop6 {γ : Type} {b : (jj_S → Int32 → Int32 → Int32 → Int32 → Int32 → Int32 → Option γ) → jj_S → Int32 → Int32 → Int32 → Int32 → Int32 → Int32 → Option γ} {T : Option γ → jj_S → Int32 → Int32 → Int32 → Int32 → Int32 → Int32 → Prop} (h0 : ∀ (σ : jj_S) (x1 x2 x3 x4 x5 x6 : Int32), T none σ x1 x2 x3 x4 x5 x6) (hs : ∀ rec : jj_S → Int32 → Int32 → Int32 → Int32 → Int32 → Int32 → Option γ, (∀ (σ : jj_S) (x1 x2 x3 x4 x5 x6 : Int32), T (rec σ x1 x2 x3 x4 x5 x6) σ x1 x2 x3 x4 x5 x6) → ∀ (σ : jj_S) (x1 x2 x3 x4 x5 x6 : Int32), T (b rec σ x1 x2 x3 x4 x5 x6) σ x1 x2 x3 x4 x5 x6) : ∀ (k : Nat) (σ : jj_S) (x1 x2 x3 x4 x5 x6 : Int32), T (jj_lp6 b k σ x1 x2 x3 x4 x5 x6) σ x1 x2 x3 x4 x5 x6 := by
  intro k
  induction k with
  | zero => exact h0
  | succ k ih => exact hs _ ih
def jj_lp7 {γ : Type} (b : (jj_S → Int32 → Int32 → Int32 → Int32 → Int32 → Int32 → Int32 → Option γ) → jj_S → Int32 → Int32 → Int32 → Int32 → Int32 → Int32 → Int32 → Option γ) : Nat → jj_S → Int32 → Int32 → Int32 → Int32 → Int32 → Int32 → Int32 → Option γ
  | 0 => fun _ _ _ _ _ _ _ _ => none
  | k + 1 => b (jj_lp7 b k)
theorem jj_loop7 {γ : Type} {b : (jj_S → Int32 → Int32 → Int32 → Int32 → Int32 → Int32 → Int32 → Option γ) → jj_S → Int32 → Int32 → Int32 → Int32 → Int32 → Int32 → Int32 → Option γ} {T : Option γ → jj_S → Int32 → Int32 → Int32 → Int32 → Int32 → Int32 → Int32 → Prop} (h0 : ∀ (σ : jj_S) (x1 x2 x3 x4 x5 x6 x7 : Int32), T none σ x1 x2 x3 x4 x5 x6 x7) (hs : ∀ rec : jj_S → Int32 → Int32 → Int32 → Int32 → Int32 → Int32 → Int32 → Option γ, (∀ (σ : jj_S) (x1 x2 x3 x4 x5 x6 x7 : Int32), T (rec σ x1 x2 x3 x4 x5 x6 x7) σ x1 x2 x3 x4 x5 x6 x7) → ∀ (σ : jj_S) (x1 x2 x3 x4 x5 x6 x7 : Int32), T (b rec σ x1 x2 x3 x4 x5 x6 x7) σ x1 x2 x3 x4 x5 x6 x7) : ∀ (k : Nat) (σ : jj_S) (x1 x2 x3 x4 x5 x6 x7 : Int32), T (jj_lp7 b k σ x1 x2 x3 x4 x5 x6 x7) σ x1 x2 x3 x4 x5 x6 x7 := by
  intro k
  induction k with
  | zero => exact h0
  | succ k ih => exact hs _ ih
end
section
theorem goodIn_r {big : List Cond} (ws : List Cond) (ps : List Nat) (hp : ws = ps.filterMap (fun i => big[i]?)) (h : ws.all goodWord = true) : GoodIn big ws := by
  intro w hw
  have h1 := List.all_eq_true.mp h w hw
  rw [hp] at hw
  obtain ⟨i, -, hi⟩ := List.mem_filterMap.mp hw
  have hm : w ∈ big := by first | exact List.mem_of_getElem? hi | exact List.getElem?_mem hi
  exact ⟨hm, good_of_word h1⟩
theorem goodIn_app {big a b : List Cond} (ha : GoodIn big a) (hb : GoodIn big b) : GoodIn big (a ++ b) := fun w h => (List.mem_append.mp h).elim (ha w) (hb w)
theorem goodIn_ca {big a b : List Cond} {c : Cond} (ha : GoodIn big (c :: a)) (hb : GoodIn big b) : GoodIn big (c :: (a ++ b)) := fun w h => (List.mem_cons.mp h).elim (fun e => ha w (List.mem_cons.mpr (Or.inl e))) (fun h => (List.mem_append.mp h).elim (fun h => ha w (List.mem_cons.mpr (Or.inr h))) (hb w))
theorem goodIn_sub {big ws : List Cond} (hm : ∀ w ∈ ws, w ∈ big) (h : ws.all goodWord = true) : GoodIn big ws := fun w hw => ⟨hm w hw, good_of_word (List.all_eq_true.mp h w hw)⟩
/-! ===== END ===== -/

/-! ===== BEGIN printed: names, fields, word lists, decode rows ===== -/
def jw_t : List Cond := lw_tbl.filter goodWord
theorem jj_in {w : Cond} (h : w ∈ lw_tbl) (hg : goodWord w = true) : w ∈ jw_t := List.mem_filter.mpr ⟨h, hg⟩
theorem jj_gT : GoodIn jw_t jw_t := fun w hw => ⟨hw, good_of_word (List.mem_filter.mp hw).2⟩
theorem jj_gL : GoodIn lw_tbl jw_t := fun w hw => ⟨(List.mem_filter.mp hw).1, good_of_word (List.mem_filter.mp hw).2⟩
theorem jj_gV {big ys : List Cond} {own C : String} {ix : Nat} {y : MethodName} {c : Cond} (hg : GoodIn big ys) (h1 : Cond.methodLink own ix y ∈ big) (h2 : Cond.instanceMethod y ∈ big) (h3 : Cond.selects C y y ∈ big) (h4 : Cond.initialized C ∈ big) (h5 : c ∈ big) (h6 : (c.onTables && c.keeps) = true := by rfl) : GoodIn big (wsV own ix C y (c :: ys)) := by
  intro w hw
  simp only [wsV, List.cons_append, List.nil_append, List.mem_cons] at hw
  rcases hw with rfl | rfl | rfl | rfl | rfl | hw
  · exact ⟨h1, Or.inl rfl⟩
  · exact ⟨h2, Or.inl rfl⟩
  · exact ⟨h3, Or.inl rfl⟩
  · exact ⟨h4, Or.inl rfl⟩
  · exact ⟨h5, Or.inl h6⟩
  · exact hg w hw
theorem jj_gS {big ys : List Cond} {own : String} {ix : Nat} {y : MethodName} {c : Cond} (hg : GoodIn big ys) (h1 : Cond.methodLink own ix y ∈ big) (h2 : Cond.static y ∈ big) (h4 : Cond.initialized y.cls ∈ big) (h5 : c ∈ big) (h6 : (c.onTables && c.keeps) = true := by rfl) : GoodIn big (va_wsS own ix y (c :: ys)) := by
  intro w hw
  simp only [va_wsS, List.cons_append, List.nil_append, List.mem_cons] at hw
  rcases hw with rfl | rfl | rfl | rfl | hw
  · exact ⟨h1, Or.inl rfl⟩
  · exact ⟨h2, Or.inl rfl⟩
  · exact ⟨h4, Or.inl rfl⟩
  · exact ⟨h5, Or.inl h6⟩
  · exact hg w hw
theorem in_Mesh : ∀ w ∈ u_ws RX7 TX7 6, w ∈ jw_t := fun w h => jj_in ((show ∀ w ∈ u_ws RX7 TX7 6, w ∈ lw_tbl by decide +kernel) w h) ((show ∀ w ∈ u_ws RX7 TX7 6, goodWord w = true by decide +kernel) w h)
theorem k_Mesh : vwCl[7]? = some (RX7, TX7, 6) := rfl
theorem in_Complete : ∀ w ∈ u_ws RX0 TX0 3, w ∈ jw_t := fun w h => jj_in ((show ∀ w ∈ u_ws RX0 TX0 3, w ∈ lw_tbl by decide +kernel) w h) ((show ∀ w ∈ u_ws RX0 TX0 3, goodWord w = true by decide +kernel) w h)
theorem k_Complete : vwCl[0]? = some (RX0, TX0, 3) := rfl
theorem in_Grid : ∀ w ∈ u_ws RX1 TX1 7, w ∈ jw_t := fun w h => jj_in ((show ∀ w ∈ u_ws RX1 TX1 7, w ∈ lw_tbl by decide +kernel) w h) ((show ∀ w ∈ u_ws RX1 TX1 7, goodWord w = true by decide +kernel) w h)
theorem k_Grid : vwCl[1]? = some (RX1, TX1, 7) := rfl
theorem in_Ifs : ∀ w ∈ u_ws RX2 TX2 8, w ∈ jw_t := fun w h => jj_in ((show ∀ w ∈ u_ws RX2 TX2 8, w ∈ lw_tbl by decide +kernel) w h) ((show ∀ w ∈ u_ws RX2 TX2 8, goodWord w = true by decide +kernel) w h)
theorem k_Ifs : vwCl[2]? = some (RX2, TX2, 8) := rfl
theorem in_Links : ∀ w ∈ u_ws RX3 TX3 9, w ∈ jw_t := fun w h => jj_in ((show ∀ w ∈ u_ws RX3 TX3 9, w ∈ lw_tbl by decide +kernel) w h) ((show ∀ w ∈ u_ws RX3 TX3 9, goodWord w = true by decide +kernel) w h)
theorem k_Links : vwCl[3]? = some (RX3, TX3, 9) := rfl
theorem in_Packets : ∀ w ∈ u_ws RX4 TX4 7, w ∈ jw_t := fun w h => jj_in ((show ∀ w ∈ u_ws RX4 TX4 7, w ∈ lw_tbl by decide +kernel) w h) ((show ∀ w ∈ u_ws RX4 TX4 7, goodWord w = true by decide +kernel) w h)
theorem k_Packets : vwCl[4]? = some (RX4, TX4, 7) := rfl
theorem in_Queues : ∀ w ∈ u_ws RX5 TX5 5, w ∈ jw_t := fun w h => jj_in ((show ∀ w ∈ u_ws RX5 TX5 5, w ∈ lw_tbl by decide +kernel) w h) ((show ∀ w ∈ u_ws RX5 TX5 5, goodWord w = true by decide +kernel) w h)
theorem k_Queues : vwCl[5]? = some (RX5, TX5, 5) := rfl
theorem in_Routers : ∀ w ∈ u_ws RX6 TX6 10, w ∈ jw_t := fun w h => jj_in ((show ∀ w ∈ u_ws RX6 TX6 10, w ∈ lw_tbl by decide +kernel) w h) ((show ∀ w ∈ u_ws RX6 TX6 10, goodWord w = true by decide +kernel) w h)
theorem k_Routers : vwCl[6]? = some (RX6, TX6, 10) := rfl
set_option maxRecDepth 100000 in
theorem fl_Mesh_12 : Cond.fieldLink RX7 12 (TX7 0).1 (TX7 0).2.1 (TX7 0).2.2.1 ∈ jw_t := jj_in (List.mem_of_getElem? (i := 320) rfl) rfl
set_option maxRecDepth 100000 in
theorem fl_Mesh_23 : Cond.fieldLink RX7 23 (TX7 1).1 (TX7 1).2.1 (TX7 1).2.2.1 ∈ jw_t := jj_in (List.mem_of_getElem? (i := 321) rfl) rfl
set_option maxRecDepth 100000 in
theorem fl_Mesh_30 : Cond.fieldLink RX7 30 (TX7 2).1 (TX7 2).2.1 (TX7 2).2.2.1 ∈ jw_t := jj_in (List.mem_of_getElem? (i := 322) rfl) rfl
set_option maxRecDepth 100000 in
theorem fl_Mesh_39 : Cond.fieldLink RX7 39 (TX7 3).1 (TX7 3).2.1 (TX7 3).2.2.1 ∈ jw_t := jj_in (List.mem_of_getElem? (i := 323) rfl) rfl
set_option maxRecDepth 100000 in
theorem fl_Mesh_46 : Cond.fieldLink RX7 46 (TX7 4).1 (TX7 4).2.1 (TX7 4).2.2.1 ∈ jw_t := jj_in (List.mem_of_getElem? (i := 324) rfl) rfl
set_option maxRecDepth 100000 in
theorem fl_Mesh_50 : Cond.fieldLink RX7 50 (TX1 5).1 (TX1 5).2.1 (TX1 5).2.2.1 ∈ jw_t := jj_in (List.mem_of_getElem? (i := 81) rfl) rfl
set_option maxRecDepth 100000 in
theorem fl_Mesh_61 : Cond.fieldLink RX7 61 (TX2 3).1 (TX2 3).2.1 (TX2 3).2.2.1 ∈ jw_t := jj_in (List.mem_of_getElem? (i := 254) rfl) rfl
set_option maxRecDepth 100000 in
theorem fl_Mesh_80 : Cond.fieldLink RX7 80 (TX2 7).1 (TX2 7).2.1 (TX2 7).2.2.1 ∈ jw_t := jj_in (List.mem_of_getElem? (i := 262) rfl) rfl
set_option maxRecDepth 100000 in
theorem fl_Mesh_84 : Cond.fieldLink RX7 84 (TX2 5).1 (TX2 5).2.1 (TX2 5).2.2.1 ∈ jw_t := jj_in (List.mem_of_getElem? (i := 258) rfl) rfl
set_option maxRecDepth 100000 in
theorem fl_Mesh_88 : Cond.fieldLink RX7 88 (TX0 2).1 (TX0 2).2.1 (TX0 2).2.2.1 ∈ jw_t := jj_in (List.mem_of_getElem? (i := 216) rfl) rfl
set_option maxRecDepth 100000 in
theorem fl_Mesh_96 : Cond.fieldLink RX7 96 (TX7 5).1 (TX7 5).2.1 (TX7 5).2.2.1 ∈ jw_t := jj_in (List.mem_of_getElem? (i := 325) rfl) rfl
set_option maxRecDepth 100000 in
theorem fl_Mesh_99 : Cond.fieldLink RX7 99 (TX0 0).1 (TX0 0).2.1 (TX0 0).2.2.1 ∈ jw_t := jj_in (List.mem_of_getElem? (i := 212) rfl) rfl
set_option maxRecDepth 100000 in
theorem fl_Mesh_103 : Cond.fieldLink RX7 103 (TX4 5).1 (TX4 5).2.1 (TX4 5).2.2.1 ∈ jw_t := jj_in (List.mem_of_getElem? (i := 181) rfl) rfl
set_option maxRecDepth 100000 in
theorem fl_Mesh_106 : Cond.fieldLink RX7 106 (TX0 1).1 (TX0 1).2.1 (TX0 1).2.2.1 ∈ jw_t := jj_in (List.mem_of_getElem? (i := 214) rfl) rfl
set_option maxRecDepth 100000 in
theorem fl_Mesh_108 : Cond.fieldLink RX7 108 (TX2 6).1 (TX2 6).2.1 (TX2 6).2.2.1 ∈ jw_t := jj_in (List.mem_of_getElem? (i := 260) rfl) rfl
set_option maxRecDepth 100000 in
theorem fl_Mesh_111 : Cond.fieldLink RX7 111 (TX5 3).1 (TX5 3).2.1 (TX5 3).2.2.1 ∈ jw_t := jj_in (List.mem_of_getElem? (i := 236) rfl) rfl
set_option maxRecDepth 100000 in
theorem fl_Mesh_113 : Cond.fieldLink RX7 113 (TX2 4).1 (TX2 4).2.1 (TX2 4).2.2.1 ∈ jw_t := jj_in (List.mem_of_getElem? (i := 256) rfl) rfl
set_option maxRecDepth 100000 in
theorem fl_Mesh_124 : Cond.fieldLink RX7 124 (TX6 3).1 (TX6 3).2.1 (TX6 3).2.2.1 ∈ jw_t := jj_in (List.mem_of_getElem? (i := 290) rfl) rfl
set_option maxRecDepth 100000 in
theorem fl_Mesh_127 : Cond.fieldLink RX7 127 (TX6 4).1 (TX6 4).2.1 (TX6 4).2.2.1 ∈ jw_t := jj_in (List.mem_of_getElem? (i := 292) rfl) rfl
set_option maxRecDepth 100000 in
theorem fl_Mesh_130 : Cond.fieldLink RX7 130 (TX3 4).1 (TX3 4).2.1 (TX3 4).2.2.1 ∈ jw_t := jj_in (List.mem_of_getElem? (i := 137) rfl) rfl
set_option maxRecDepth 100000 in
theorem fl_Mesh_131 : Cond.fieldLink RX7 131 (TX3 5).1 (TX3 5).2.1 (TX3 5).2.2.1 ∈ jw_t := jj_in (List.mem_of_getElem? (i := 141) rfl) rfl
set_option maxRecDepth 100000 in
theorem fl_Mesh_134 : Cond.fieldLink RX7 134 (TX6 5).1 (TX6 5).2.1 (TX6 5).2.2.1 ∈ jw_t := jj_in (List.mem_of_getElem? (i := 294) rfl) rfl
set_option maxRecDepth 100000 in
theorem fl_Mesh_140 : Cond.fieldLink RX7 140 (TX3 8).1 (TX3 8).2.1 (TX3 8).2.2.1 ∈ jw_t := jj_in (List.mem_of_getElem? (i := 145) rfl) rfl
set_option maxRecDepth 100000 in
theorem fl_Complete_9 : Cond.fieldLink RX0 9 (TX0 0).1 (TX0 0).2.1 (TX0 0).2.2.1 ∈ jw_t := jj_in (List.mem_of_getElem? (i := 211) rfl) rfl
set_option maxRecDepth 100000 in
theorem fl_Complete_15 : Cond.fieldLink RX0 15 (TX0 1).1 (TX0 1).2.1 (TX0 1).2.2.1 ∈ jw_t := jj_in (List.mem_of_getElem? (i := 213) rfl) rfl
set_option maxRecDepth 100000 in
theorem fl_Complete_18 : Cond.fieldLink RX0 18 (TX0 2).1 (TX0 2).2.1 (TX0 2).2.2.1 ∈ jw_t := jj_in (List.mem_of_getElem? (i := 215) rfl) rfl
set_option maxRecDepth 100000 in
theorem fl_Grid_15 : Cond.fieldLink RX1 15 (TX1 0).1 (TX1 0).2.1 (TX1 0).2.2.1 ∈ jw_t := jj_in (List.mem_of_getElem? (i := 67) rfl) rfl
set_option maxRecDepth 100000 in
theorem fl_Grid_28 : Cond.fieldLink RX1 28 (TX1 4).1 (TX1 4).2.1 (TX1 4).2.2.1 ∈ jw_t := jj_in (List.mem_of_getElem? (i := 73) rfl) rfl
set_option maxRecDepth 100000 in
theorem fl_Grid_31 : Cond.fieldLink RX1 31 (TX1 5).1 (TX1 5).2.1 (TX1 5).2.2.1 ∈ jw_t := jj_in (List.mem_of_getElem? (i := 78) rfl) rfl
set_option maxRecDepth 100000 in
theorem fl_Ifs_12 : Cond.fieldLink RX2 12 (TX2 5).1 (TX2 5).2.1 (TX2 5).2.2.1 ∈ jw_t := jj_in (List.mem_of_getElem? (i := 257) rfl) rfl
set_option maxRecDepth 100000 in
theorem fl_Ifs_18 : Cond.fieldLink RX2 18 (TX2 0).1 (TX2 0).2.1 (TX2 0).2.2.1 ∈ jw_t := jj_in (List.mem_of_getElem? (i := 250) rfl) rfl
set_option maxRecDepth 100000 in
theorem fl_Ifs_22 : Cond.fieldLink RX2 22 (TX2 1).1 (TX2 1).2.1 (TX2 1).2.2.1 ∈ jw_t := jj_in (List.mem_of_getElem? (i := 251) rfl) rfl
set_option maxRecDepth 100000 in
theorem fl_Ifs_26 : Cond.fieldLink RX2 26 (TX2 2).1 (TX2 2).2.1 (TX2 2).2.2.1 ∈ jw_t := jj_in (List.mem_of_getElem? (i := 252) rfl) rfl
set_option maxRecDepth 100000 in
theorem fl_Ifs_32 : Cond.fieldLink RX2 32 (TX1 5).1 (TX1 5).2.1 (TX1 5).2.2.1 ∈ jw_t := jj_in (List.mem_of_getElem? (i := 77) rfl) rfl
set_option maxRecDepth 100000 in
theorem fl_Ifs_41 : Cond.fieldLink RX2 41 (TX2 3).1 (TX2 3).2.1 (TX2 3).2.2.1 ∈ jw_t := jj_in (List.mem_of_getElem? (i := 253) rfl) rfl
set_option maxRecDepth 100000 in
theorem fl_Ifs_45 : Cond.fieldLink RX2 45 (TX2 4).1 (TX2 4).2.1 (TX2 4).2.2.1 ∈ jw_t := jj_in (List.mem_of_getElem? (i := 255) rfl) rfl
set_option maxRecDepth 100000 in
theorem fl_Ifs_48 : Cond.fieldLink RX2 48 (TX2 6).1 (TX2 6).2.1 (TX2 6).2.2.1 ∈ jw_t := jj_in (List.mem_of_getElem? (i := 259) rfl) rfl
set_option maxRecDepth 100000 in
theorem fl_Ifs_52 : Cond.fieldLink RX2 52 (TX2 7).1 (TX2 7).2.1 (TX2 7).2.2.1 ∈ jw_t := jj_in (List.mem_of_getElem? (i := 261) rfl) rfl
set_option maxRecDepth 100000 in
theorem fl_Ifs_56 : Cond.fieldLink RX2 56 (TX1 4).1 (TX1 4).2.1 (TX1 4).2.2.1 ∈ jw_t := jj_in (List.mem_of_getElem? (i := 75) rfl) rfl
set_option maxRecDepth 100000 in
theorem fl_Ifs_63 : Cond.fieldLink RX2 63 (TX3 4).1 (TX3 4).2.1 (TX3 4).2.2.1 ∈ jw_t := jj_in (List.mem_of_getElem? (i := 135) rfl) rfl
set_option maxRecDepth 100000 in
theorem fl_Ifs_106 : Cond.fieldLink RX2 106 (TX4 4).1 (TX4 4).2.1 (TX4 4).2.2.1 ∈ jw_t := jj_in (List.mem_of_getElem? (i := 178) rfl) rfl
set_option maxRecDepth 100000 in
theorem fl_Ifs_109 : Cond.fieldLink RX2 109 (TX4 3).1 (TX4 3).2.1 (TX4 3).2.2.1 ∈ jw_t := jj_in (List.mem_of_getElem? (i := 176) rfl) rfl
set_option maxRecDepth 100000 in
theorem fl_Ifs_112 : Cond.fieldLink RX2 112 (TX4 5).1 (TX4 5).2.1 (TX4 5).2.2.1 ∈ jw_t := jj_in (List.mem_of_getElem? (i := 180) rfl) rfl
set_option maxRecDepth 100000 in
theorem fl_Ifs_119 : Cond.fieldLink RX2 119 (TX5 3).1 (TX5 3).2.1 (TX5 3).2.2.1 ∈ jw_t := jj_in (List.mem_of_getElem? (i := 235) rfl) rfl
set_option maxRecDepth 100000 in
theorem fl_Ifs_123 : Cond.fieldLink RX2 123 (TX5 0).1 (TX5 0).2.1 (TX5 0).2.2.1 ∈ jw_t := jj_in (List.mem_of_getElem? (i := 231) rfl) rfl
set_option maxRecDepth 100000 in
theorem fl_Ifs_131 : Cond.fieldLink RX2 131 (TX3 5).1 (TX3 5).2.1 (TX3 5).2.2.1 ∈ jw_t := jj_in (List.mem_of_getElem? (i := 140) rfl) rfl
set_option maxRecDepth 100000 in
theorem fl_Ifs_134 : Cond.fieldLink RX2 134 (TX5 4).1 (TX5 4).2.1 (TX5 4).2.2.1 ∈ jw_t := jj_in (List.mem_of_getElem? (i := 238) rfl) rfl
set_option maxRecDepth 100000 in
theorem fl_Links_15 : Cond.fieldLink RX3 15 (TX3 0).1 (TX3 0).2.1 (TX3 0).2.2.1 ∈ jw_t := jj_in (List.mem_of_getElem? (i := 130) rfl) rfl
set_option maxRecDepth 100000 in
theorem fl_Links_21 : Cond.fieldLink RX3 21 (TX3 1).1 (TX3 1).2.1 (TX3 1).2.2.1 ∈ jw_t := jj_in (List.mem_of_getElem? (i := 131) rfl) rfl
set_option maxRecDepth 100000 in
theorem fl_Links_25 : Cond.fieldLink RX3 25 (TX3 2).1 (TX3 2).2.1 (TX3 2).2.2.1 ∈ jw_t := jj_in (List.mem_of_getElem? (i := 132) rfl) rfl
set_option maxRecDepth 100000 in
theorem fl_Links_28 : Cond.fieldLink RX3 28 (TX3 3).1 (TX3 3).2.1 (TX3 3).2.2.1 ∈ jw_t := jj_in (List.mem_of_getElem? (i := 133) rfl) rfl
set_option maxRecDepth 100000 in
theorem fl_Links_31 : Cond.fieldLink RX3 31 (TX3 4).1 (TX3 4).2.1 (TX3 4).2.2.1 ∈ jw_t := jj_in (List.mem_of_getElem? (i := 134) rfl) rfl
set_option maxRecDepth 100000 in
theorem fl_Links_34 : Cond.fieldLink RX3 34 (TX3 5).1 (TX3 5).2.1 (TX3 5).2.2.1 ∈ jw_t := jj_in (List.mem_of_getElem? (i := 138) rfl) rfl
set_option maxRecDepth 100000 in
theorem fl_Links_37 : Cond.fieldLink RX3 37 (TX3 6).1 (TX3 6).2.1 (TX3 6).2.2.1 ∈ jw_t := jj_in (List.mem_of_getElem? (i := 142) rfl) rfl
set_option maxRecDepth 100000 in
theorem fl_Links_40 : Cond.fieldLink RX3 40 (TX3 7).1 (TX3 7).2.1 (TX3 7).2.2.1 ∈ jw_t := jj_in (List.mem_of_getElem? (i := 143) rfl) rfl
set_option maxRecDepth 100000 in
theorem fl_Links_56 : Cond.fieldLink RX3 56 (TX3 8).1 (TX3 8).2.1 (TX3 8).2.2.1 ∈ jw_t := jj_in (List.mem_of_getElem? (i := 144) rfl) rfl
set_option maxRecDepth 100000 in
theorem fl_Packets_9 : Cond.fieldLink RX4 9 (TX4 1).1 (TX4 1).2.1 (TX4 1).2.2.1 ∈ jw_t := jj_in (List.mem_of_getElem? (i := 173) rfl) rfl
set_option maxRecDepth 100000 in
theorem fl_Packets_15 : Cond.fieldLink RX4 15 (TX4 2).1 (TX4 2).2.1 (TX4 2).2.2.1 ∈ jw_t := jj_in (List.mem_of_getElem? (i := 174) rfl) rfl
set_option maxRecDepth 100000 in
theorem fl_Packets_18 : Cond.fieldLink RX4 18 (TX4 3).1 (TX4 3).2.1 (TX4 3).2.2.1 ∈ jw_t := jj_in (List.mem_of_getElem? (i := 175) rfl) rfl
set_option maxRecDepth 100000 in
theorem fl_Packets_22 : Cond.fieldLink RX4 22 (TX4 4).1 (TX4 4).2.1 (TX4 4).2.2.1 ∈ jw_t := jj_in (List.mem_of_getElem? (i := 177) rfl) rfl
set_option maxRecDepth 100000 in
theorem fl_Packets_25 : Cond.fieldLink RX4 25 (TX4 5).1 (TX4 5).2.1 (TX4 5).2.2.1 ∈ jw_t := jj_in (List.mem_of_getElem? (i := 179) rfl) rfl
set_option maxRecDepth 100000 in
theorem fl_Packets_28 : Cond.fieldLink RX4 28 (TX4 0).1 (TX4 0).2.1 (TX4 0).2.2.1 ∈ jw_t := jj_in (List.mem_of_getElem? (i := 172) rfl) rfl
set_option maxRecDepth 100000 in
theorem fl_Packets_32 : Cond.fieldLink RX4 32 (TX4 6).1 (TX4 6).2.1 (TX4 6).2.2.1 ∈ jw_t := jj_in (List.mem_of_getElem? (i := 182) rfl) rfl
set_option maxRecDepth 100000 in
theorem fl_Packets_44 : Cond.fieldLink RX4 44 (TX1 3).1 (TX1 3).2.1 (TX1 3).2.2.1 ∈ jw_t := jj_in (List.mem_of_getElem? (i := 72) rfl) rfl
set_option maxRecDepth 100000 in
theorem fl_Queues_13 : Cond.fieldLink RX5 13 (TX5 1).1 (TX5 1).2.1 (TX5 1).2.2.1 ∈ jw_t := jj_in (List.mem_of_getElem? (i := 232) rfl) rfl
set_option maxRecDepth 100000 in
theorem fl_Queues_17 : Cond.fieldLink RX5 17 (TX5 2).1 (TX5 2).2.1 (TX5 2).2.2.1 ∈ jw_t := jj_in (List.mem_of_getElem? (i := 233) rfl) rfl
set_option maxRecDepth 100000 in
theorem fl_Queues_21 : Cond.fieldLink RX5 21 (TX5 3).1 (TX5 3).2.1 (TX5 3).2.2.1 ∈ jw_t := jj_in (List.mem_of_getElem? (i := 234) rfl) rfl
set_option maxRecDepth 100000 in
theorem fl_Queues_24 : Cond.fieldLink RX5 24 (TX5 4).1 (TX5 4).2.1 (TX5 4).2.2.1 ∈ jw_t := jj_in (List.mem_of_getElem? (i := 237) rfl) rfl
set_option maxRecDepth 100000 in
theorem fl_Routers_9 : Cond.fieldLink RX6 9 (TX6 9).1 (TX6 9).2.1 (TX6 9).2.2.1 ∈ jw_t := jj_in (List.mem_of_getElem? (i := 298) rfl) rfl
set_option maxRecDepth 100000 in
theorem fl_Routers_15 : Cond.fieldLink RX6 15 (TX6 0).1 (TX6 0).2.1 (TX6 0).2.2.1 ∈ jw_t := jj_in (List.mem_of_getElem? (i := 286) rfl) rfl
set_option maxRecDepth 100000 in
theorem fl_Routers_19 : Cond.fieldLink RX6 19 (TX6 1).1 (TX6 1).2.1 (TX6 1).2.2.1 ∈ jw_t := jj_in (List.mem_of_getElem? (i := 287) rfl) rfl
set_option maxRecDepth 100000 in
theorem fl_Routers_23 : Cond.fieldLink RX6 23 (TX6 2).1 (TX6 2).2.1 (TX6 2).2.2.1 ∈ jw_t := jj_in (List.mem_of_getElem? (i := 288) rfl) rfl
set_option maxRecDepth 100000 in
theorem fl_Routers_33 : Cond.fieldLink RX6 33 (TX6 3).1 (TX6 3).2.1 (TX6 3).2.2.1 ∈ jw_t := jj_in (List.mem_of_getElem? (i := 289) rfl) rfl
set_option maxRecDepth 100000 in
theorem fl_Routers_36 : Cond.fieldLink RX6 36 (TX6 4).1 (TX6 4).2.1 (TX6 4).2.2.1 ∈ jw_t := jj_in (List.mem_of_getElem? (i := 291) rfl) rfl
set_option maxRecDepth 100000 in
theorem fl_Routers_39 : Cond.fieldLink RX6 39 (TX6 5).1 (TX6 5).2.1 (TX6 5).2.2.1 ∈ jw_t := jj_in (List.mem_of_getElem? (i := 293) rfl) rfl
set_option maxRecDepth 100000 in
theorem fl_Routers_43 : Cond.fieldLink RX6 43 (TX6 6).1 (TX6 6).2.1 (TX6 6).2.2.1 ∈ jw_t := jj_in (List.mem_of_getElem? (i := 295) rfl) rfl
set_option maxRecDepth 100000 in
theorem fl_Routers_46 : Cond.fieldLink RX6 46 (TX1 5).1 (TX1 5).2.1 (TX1 5).2.2.1 ∈ jw_t := jj_in (List.mem_of_getElem? (i := 79) rfl) rfl
set_option maxRecDepth 100000 in
theorem fl_Routers_49 : Cond.fieldLink RX6 49 (TX6 7).1 (TX6 7).2.1 (TX6 7).2.2.1 ∈ jw_t := jj_in (List.mem_of_getElem? (i := 296) rfl) rfl
set_option maxRecDepth 100000 in
theorem fl_Routers_52 : Cond.fieldLink RX6 52 (TX6 8).1 (TX6 8).2.1 (TX6 8).2.2.1 ∈ jw_t := jj_in (List.mem_of_getElem? (i := 297) rfl) rfl
set_option maxRecDepth 100000 in
theorem fl_Routers_66 : Cond.fieldLink RX6 66 (TX1 4).1 (TX1 4).2.1 (TX1 4).2.2.1 ∈ jw_t := jj_in (List.mem_of_getElem? (i := 76) rfl) rfl
set_option maxRecDepth 100000 in
theorem fl_Routers_77 : Cond.fieldLink RX6 77 (TX3 4).1 (TX3 4).2.1 (TX3 4).2.2.1 ∈ jw_t := jj_in (List.mem_of_getElem? (i := 136) rfl) rfl
set_option maxRecDepth 100000 in
theorem fl_Routers_82 : Cond.fieldLink RX6 82 (TX3 5).1 (TX3 5).2.1 (TX3 5).2.2.1 ∈ jw_t := jj_in (List.mem_of_getElem? (i := 139) rfl) rfl
set_option maxRecDepth 100000 in
theorem q_Mesh_54 {R : Room} {s : State} {args : Array Value} (hts : ∀ w ∈ jw_t, w.before args s = true) {rm : Room} (h1 : rm.cells = 0) (h2 : rm.slots = 0) (hR : rm.frames + 1 ≤ R.frames ∧ 8 + (2 + 11) + rm.locals ≤ R.locals) : CallW R s args RX7 yX1_hasNode.cls 54 yX1_hasNode cX1_hasNode 2 (some .boolean) (Cond.code yX1_hasNode cX1_hasNode 2 (some .boolean) :: jw_t) rm 0 0 1 := cwV 1 hts (jj_gV jj_gT (jj_in (List.mem_of_getElem? (i := 347) rfl) rfl) (jj_in (List.mem_of_getElem? (i := 348) rfl) rfl) (jj_in (List.mem_of_getElem? (i := 349) rfl) rfl) (jj_in (List.mem_of_getElem? (i := 35) rfl) rfl) (jj_in (List.mem_of_getElem? (i := 350) rfl) rfl)) rfl h1 h2 (by decide +kernel) hR
set_option maxRecDepth 100000 in
theorem q_Mesh_58 {R : Room} {s : State} {args : Array Value} (hts : ∀ w ∈ jw_t, w.before args s = true) {rm : Room} (h1 : rm.cells = 0) (h2 : rm.slots = 0) (hR : rm.frames + 1 ≤ R.frames ∧ 8 + (1 + 11) + rm.locals ≤ R.locals) : CallB R s args RX7 58 yX7_isWord cX7_isWord 1 (some .boolean) (Cond.code yX7_isWord cX7_isWord 1 (some .boolean) :: jw_t) rm 0 0 1 ∧ (Cond.static yX7_isWord).before args s = true := va_cwS 1 hts (jj_gS jj_gT (jj_in (List.mem_of_getElem? (i := 351) rfl) rfl) (jj_in (List.mem_of_getElem? (i := 352) rfl) rfl) (jj_in (List.mem_of_getElem? (i := 34) rfl) rfl) (jj_in (List.mem_of_getElem? (i := 353) rfl) rfl)) rfl h1 h2 (by decide +kernel) hR
set_option maxRecDepth 100000 in
theorem q_Mesh_65 {R : Room} {s : State} {args : Array Value} (hts : ∀ w ∈ jw_t, w.before args s = true) {rm : Room} (h1 : rm.cells = 0) (h2 : rm.slots = 0) (hR : rm.frames + 1 ≤ R.frames ∧ 8 + (2 + 11) + rm.locals ≤ R.locals) : CallW R s args RX7 yX5_isFull.cls 65 yX5_isFull cX5_isFull 2 (some .boolean) (Cond.code yX5_isFull cX5_isFull 2 (some .boolean) :: jw_t) rm 0 0 1 := cwV 1 hts (jj_gV jj_gT (jj_in (List.mem_of_getElem? (i := 354) rfl) rfl) (jj_in (List.mem_of_getElem? (i := 355) rfl) rfl) (jj_in (List.mem_of_getElem? (i := 356) rfl) rfl) (jj_in (List.mem_of_getElem? (i := 41) rfl) rfl) (jj_in (List.mem_of_getElem? (i := 357) rfl) rfl)) rfl h1 h2 (by decide +kernel) hR
set_option maxRecDepth 100000 in
theorem q_Mesh_70 {R : Room} {s : State} {args : Array Value} (hts : ∀ w ∈ jw_t, w.before args s = true) {rm : Room} (h1 : rm.cells = 0) (h2 : rm.slots = 0) (hR : rm.frames + 1 ≤ R.frames ∧ 8 + (1 + 11) + rm.locals ≤ R.locals) : CallW R s args RX7 yX4_isFull.cls 70 yX4_isFull cX4_isFull 1 (some .boolean) (Cond.code yX4_isFull cX4_isFull 1 (some .boolean) :: jw_t) rm 0 0 0 := cwV 0 hts (jj_gV jj_gT (jj_in (List.mem_of_getElem? (i := 358) rfl) rfl) (jj_in (List.mem_of_getElem? (i := 359) rfl) rfl) (jj_in (List.mem_of_getElem? (i := 360) rfl) rfl) (jj_in (List.mem_of_getElem? (i := 38) rfl) rfl) (jj_in (List.mem_of_getElem? (i := 361) rfl) rfl)) rfl h1 h2 (by decide +kernel) hR
set_option maxRecDepth 100000 in
theorem q_Mesh_73 {R : Room} {s : State} {args : Array Value} (hts : ∀ w ∈ jw_t, w.before args s = true) {rm : Room} (h1 : rm.cells = 0) (h2 : rm.slots = 0) (hR : rm.frames + 1 ≤ R.frames ∧ 8 + (7 + 11) + rm.locals ≤ R.locals) : CallW R s args RX7 yX4_add.cls 73 yX4_add cX4_add 7 (some .int) (Cond.code yX4_add cX4_add 7 (some .int) :: jw_t) rm 0 0 5 := cwV 5 hts (jj_gV jj_gT (jj_in (List.mem_of_getElem? (i := 362) rfl) rfl) (jj_in (List.mem_of_getElem? (i := 363) rfl) rfl) (jj_in (List.mem_of_getElem? (i := 364) rfl) rfl) (jj_in (List.mem_of_getElem? (i := 38) rfl) rfl) (jj_in (List.mem_of_getElem? (i := 365) rfl) rfl)) rfl h1 h2 (by decide +kernel) hR
set_option maxRecDepth 100000 in
theorem q_Mesh_77 {R : Room} {s : State} {args : Array Value} (hts : ∀ w ∈ jw_t, w.before args s = true) {rm : Room} (h1 : rm.cells = 0) (h2 : rm.slots = 0) (hR : rm.frames + 1 ≤ R.frames ∧ 8 + (3 + 11) + rm.locals ≤ R.locals) : CallW R s args RX7 yX5_add.cls 77 yX5_add cX5_add 3 none (Cond.code yX5_add cX5_add 3 none :: jw_t) rm 0 0 2 := cwV 2 hts (jj_gV jj_gT (jj_in (List.mem_of_getElem? (i := 366) rfl) rfl) (jj_in (List.mem_of_getElem? (i := 367) rfl) rfl) (jj_in (List.mem_of_getElem? (i := 368) rfl) rfl) (jj_in (List.mem_of_getElem? (i := 41) rfl) rfl) (jj_in (List.mem_of_getElem? (i := 369) rfl) rfl)) rfl h1 h2 (by decide +kernel) hR
set_option maxRecDepth 100000 in
theorem q_Mesh_93 {R : Room} {s : State} {args : Array Value} (hts : ∀ w ∈ jw_t, w.before args s = true) {rm : Room} (h1 : rm.cells = 0) (h2 : rm.slots = 0) (hR : rm.frames + 1 ≤ R.frames ∧ 8 + (1 + 11) + rm.locals ≤ R.locals) : CallW R s args RX7 yX7_tick.cls 93 yX7_tick cX7_tick 1 none (Cond.code yX7_tick cX7_tick 1 none :: jw_t) rm 0 0 0 := cwV 0 hts (jj_gV jj_gT (jj_in (List.mem_of_getElem? (i := 378) rfl) rfl) (jj_in (List.mem_of_getElem? (i := 380) rfl) rfl) (jj_in (List.mem_of_getElem? (i := 1) rfl) rfl) (jj_in (List.mem_of_getElem? (i := 34) rfl) rfl) (jj_in (List.mem_of_getElem? (i := 381) rfl) rfl)) rfl h1 h2 (by decide +kernel) hR
set_option maxRecDepth 100000 in
theorem q_Mesh_116 {R : Room} {s : State} {args : Array Value} (hts : ∀ w ∈ jw_t, w.before args s = true) {rm : Room} (h1 : rm.cells = 0) (h2 : rm.slots = 0) (hR : rm.frames + 1 ≤ R.frames ∧ 8 + (4 + 11) + rm.locals ≤ R.locals) : CallW R s args RX7 yX7_isRouterPlace.cls 116 yX7_isRouterPlace cX7_isRouterPlace 4 (some .boolean) (Cond.code yX7_isRouterPlace cX7_isRouterPlace 4 (some .boolean) :: jw_t) rm 0 0 3 := cwV 3 hts (jj_gV jj_gT (jj_in (List.mem_of_getElem? (i := 531) rfl) rfl) (jj_in (List.mem_of_getElem? (i := 533) rfl) rfl) (jj_in (List.mem_of_getElem? (i := 12) rfl) rfl) (jj_in (List.mem_of_getElem? (i := 34) rfl) rfl) (jj_in (List.mem_of_getElem? (i := 534) rfl) rfl)) rfl h1 h2 (by decide +kernel) hR
set_option maxRecDepth 100000 in
theorem q_Mesh_120 {R : Room} {s : State} {args : Array Value} (hts : ∀ w ∈ jw_t, w.before args s = true) {rm : Room} (h1 : rm.cells = 0) (h2 : rm.slots = 0) (hR : rm.frames + 1 ≤ R.frames ∧ 8 + (4 + 11) + rm.locals ≤ R.locals) : CallW R s args RX7 yX1_slot.cls 120 yX1_slot cX1_slot 4 (some .int) (Cond.code yX1_slot cX1_slot 4 (some .int) :: jw_t) rm 0 0 3 := cwV 3 hts (jj_gV jj_gT (jj_in (List.mem_of_getElem? (i := 539) rfl) rfl) (jj_in (List.mem_of_getElem? (i := 107) rfl) rfl) (jj_in (List.mem_of_getElem? (i := 108) rfl) rfl) (jj_in (List.mem_of_getElem? (i := 35) rfl) rfl) (jj_in (List.mem_of_getElem? (i := 109) rfl) rfl)) rfl h1 h2 (by decide +kernel) hR
set_option maxRecDepth 100000 in
theorem q_Mesh_137 {R : Room} {s : State} {args : Array Value} (hts : ∀ w ∈ jw_t, w.before args s = true) {rm : Room} (h1 : rm.cells = 0) (h2 : rm.slots = 0) (hR : rm.frames + 1 ≤ R.frames ∧ 8 + (2 + 11) + rm.locals ≤ R.locals) : CallW R s args RX7 yX1_hasChannel.cls 137 yX1_hasChannel cX1_hasChannel 2 (some .boolean) (Cond.code yX1_hasChannel cX1_hasChannel 2 (some .boolean) :: jw_t) rm 0 0 1 := cwV 1 hts (jj_gV jj_gT (jj_in (List.mem_of_getElem? (i := 535) rfl) rfl) (jj_in (List.mem_of_getElem? (i := 536) rfl) rfl) (jj_in (List.mem_of_getElem? (i := 537) rfl) rfl) (jj_in (List.mem_of_getElem? (i := 35) rfl) rfl) (jj_in (List.mem_of_getElem? (i := 538) rfl) rfl)) rfl h1 h2 (by decide +kernel) hR
set_option maxRecDepth 100000 in
theorem q_Mesh_143 {R : Room} {s : State} {args : Array Value} (hts : ∀ w ∈ jw_t, w.before args s = true) {rm : Room} (h1 : rm.cells = 0) (h2 : rm.slots = 0) (hR : rm.frames + 1 ≤ R.frames ∧ 8 + (2 + 11) + rm.locals ≤ R.locals) : CallW R s args RX7 yX3_arriveAll.cls 143 yX3_arriveAll cX3_arriveAll 2 none (Cond.code yX3_arriveAll cX3_arriveAll 2 none :: jw_t) rm 0 0 0 := cwV 0 hts (jj_gV jj_gT (jj_in (List.mem_of_getElem? (i := 382) rfl) rfl) (jj_in (List.mem_of_getElem? (i := 383) rfl) rfl) (jj_in (List.mem_of_getElem? (i := 384) rfl) rfl) (jj_in (List.mem_of_getElem? (i := 37) rfl) rfl) (jj_in (List.mem_of_getElem? (i := 385) rfl) rfl)) rfl h1 h2 (by decide +kernel) hR
set_option maxRecDepth 100000 in
theorem q_Mesh_146 {R : Room} {s : State} {args : Array Value} (hts : ∀ w ∈ jw_t, w.before args s = true) {rm : Room} (h1 : rm.cells = 0) (h2 : rm.slots = 0) (hR : rm.frames + 1 ≤ R.frames ∧ 8 + (5 + 11) + rm.locals ≤ R.locals) : CallW R s args RX7 yX2_takeAll.cls 146 yX2_takeAll cX2_takeAll 5 none (Cond.code yX2_takeAll cX2_takeAll 5 none :: jw_t) rm 0 0 1 := cwV 1 hts (jj_gV jj_gT (jj_in (List.mem_of_getElem? (i := 386) rfl) rfl) (jj_in (List.mem_of_getElem? (i := 387) rfl) rfl) (jj_in (List.mem_of_getElem? (i := 388) rfl) rfl) (jj_in (List.mem_of_getElem? (i := 39) rfl) rfl) (jj_in (List.mem_of_getElem? (i := 389) rfl) rfl)) rfl h1 h2 (by decide +kernel) hR
set_option maxRecDepth 100000 in
theorem q_Mesh_150 {R : Room} {s : State} {args : Array Value} (hts : ∀ w ∈ jw_t, w.before args s = true) {rm : Room} (h1 : rm.cells = 0) (h2 : rm.slots = 0) (hR : rm.frames + 1 ≤ R.frames ∧ 8 + (2 + 11) + rm.locals ≤ R.locals) : CallW R s args RX7 yX2_sendAll.cls 150 yX2_sendAll cX2_sendAll 2 none (Cond.code yX2_sendAll cX2_sendAll 2 none :: jw_t) rm 0 0 0 := cwV 0 hts (jj_gV jj_gT (jj_in (List.mem_of_getElem? (i := 427) rfl) rfl) (jj_in (List.mem_of_getElem? (i := 428) rfl) rfl) (jj_in (List.mem_of_getElem? (i := 429) rfl) rfl) (jj_in (List.mem_of_getElem? (i := 39) rfl) rfl) (jj_in (List.mem_of_getElem? (i := 430) rfl) rfl)) rfl h1 h2 (by decide +kernel) hR
set_option maxRecDepth 100000 in
theorem q_Mesh_153 {R : Room} {s : State} {args : Array Value} (hts : ∀ w ∈ jw_t, w.before args s = true) {rm : Room} (h1 : rm.cells = 0) (h2 : rm.slots = 0) (hR : rm.frames + 1 ≤ R.frames ∧ 8 + (4 + 11) + rm.locals ≤ R.locals) : CallW R s args RX7 yX6_moveAll.cls 153 yX6_moveAll cX6_moveAll 4 none (Cond.code yX6_moveAll cX6_moveAll 4 none :: jw_t) rm 0 0 0 := cwV 0 hts (jj_gV jj_gT (jj_in (List.mem_of_getElem? (i := 458) rfl) rfl) (jj_in (List.mem_of_getElem? (i := 459) rfl) rfl) (jj_in (List.mem_of_getElem? (i := 460) rfl) rfl) (jj_in (List.mem_of_getElem? (i := 42) rfl) rfl) (jj_in (List.mem_of_getElem? (i := 461) rfl) rfl)) rfl h1 h2 (by decide +kernel) hR
set_option maxRecDepth 100000 in
theorem q_Mesh_156 {R : Room} {s : State} {args : Array Value} (hts : ∀ w ∈ jw_t, w.before args s = true) {rm : Room} (h1 : rm.cells = 0) (h2 : rm.slots = 0) (hR : rm.frames + 1 ≤ R.frames ∧ 8 + (5 + 11) + rm.locals ≤ R.locals) : CallW R s args RX7 yX6_grantAll.cls 156 yX6_grantAll cX6_grantAll 5 none (Cond.code yX6_grantAll cX6_grantAll 5 none :: jw_t) rm 0 0 0 := cwV 0 hts (jj_gV jj_gT (jj_in (List.mem_of_getElem? (i := 482) rfl) rfl) (jj_in (List.mem_of_getElem? (i := 483) rfl) rfl) (jj_in (List.mem_of_getElem? (i := 484) rfl) rfl) (jj_in (List.mem_of_getElem? (i := 42) rfl) rfl) (jj_in (List.mem_of_getElem? (i := 485) rfl) rfl)) rfl h1 h2 (by decide +kernel) hR
set_option maxRecDepth 100000 in
theorem q_Mesh_159 {R : Room} {s : State} {args : Array Value} (hts : ∀ w ∈ jw_t, w.before args s = true) {rm : Room} (h1 : rm.cells = 0) (h2 : rm.slots = 0) (hR : rm.frames + 1 ≤ R.frames ∧ 8 + (5 + 11) + rm.locals ≤ R.locals) : CallW R s args RX7 yX6_routeAll.cls 159 yX6_routeAll cX6_routeAll 5 none (Cond.code yX6_routeAll cX6_routeAll 5 none :: jw_t) rm 0 0 0 := cwV 0 hts (jj_gV jj_gT (jj_in (List.mem_of_getElem? (i := 490) rfl) rfl) (jj_in (List.mem_of_getElem? (i := 491) rfl) rfl) (jj_in (List.mem_of_getElem? (i := 492) rfl) rfl) (jj_in (List.mem_of_getElem? (i := 42) rfl) rfl) (jj_in (List.mem_of_getElem? (i := 493) rfl) rfl)) rfl h1 h2 (by decide +kernel) hR
set_option maxRecDepth 100000 in
theorem q_Ifs_59 {R : Room} {s : State} {args : Array Value} (hts : ∀ w ∈ jw_t, w.before args s = true) {rm : Room} (h1 : rm.cells = 0) (h2 : rm.slots = 0) (hR : rm.frames + 1 ≤ R.frames ∧ 8 + (4 + 11) + rm.locals ≤ R.locals) : CallW R s args RX2 yX1_slot.cls 59 yX1_slot cX1_slot 4 (some .int) (Cond.code yX1_slot cX1_slot 4 (some .int) :: jw_t) rm 0 0 3 := cwV 3 hts (jj_gV jj_gT (jj_in (List.mem_of_getElem? (i := 390) rfl) rfl) (jj_in (List.mem_of_getElem? (i := 107) rfl) rfl) (jj_in (List.mem_of_getElem? (i := 108) rfl) rfl) (jj_in (List.mem_of_getElem? (i := 35) rfl) rfl) (jj_in (List.mem_of_getElem? (i := 109) rfl) rfl)) rfl h1 h2 (by decide +kernel) hR
set_option maxRecDepth 100000 in
theorem q_Ifs_68 {R : Room} {s : State} {args : Array Value} (hts : ∀ w ∈ jw_t, w.before args s = true) {rm : Room} (h1 : rm.cells = 0) (h2 : rm.slots = 0) (hR : rm.frames + 1 ≤ R.frames ∧ 8 + (2 + 11) + rm.locals ≤ R.locals) : CallW R s args RX2 yX3_firstFlit.cls 68 yX3_firstFlit cX3_firstFlit 2 (some .int) (Cond.code yX3_firstFlit cX3_firstFlit 2 (some .int) :: jw_t) rm 0 0 1 := cwV 1 hts (jj_gV jj_gT (jj_in (List.mem_of_getElem? (i := 391) rfl) rfl) (jj_in (List.mem_of_getElem? (i := 392) rfl) rfl) (jj_in (List.mem_of_getElem? (i := 393) rfl) rfl) (jj_in (List.mem_of_getElem? (i := 37) rfl) rfl) (jj_in (List.mem_of_getElem? (i := 394) rfl) rfl)) rfl h1 h2 (by decide +kernel) hR
set_option maxRecDepth 100000 in
theorem q_Ifs_72 {R : Room} {s : State} {args : Array Value} (hts : ∀ w ∈ jw_t, w.before args s = true) {rm : Room} (h1 : rm.cells = 0) (h2 : rm.slots = 0) (hR : rm.frames + 1 ≤ R.frames ∧ 8 + (3 + 11) + rm.locals ≤ R.locals) : CallW R s args RX2 yX2_mayTake.cls 72 yX2_mayTake cX2_mayTake 3 (some .boolean) (Cond.code yX2_mayTake cX2_mayTake 3 (some .boolean) :: jw_t) rm 0 0 2 := cwV 2 hts (jj_gV jj_gT (jj_in (List.mem_of_getElem? (i := 395) rfl) rfl) (jj_in (List.mem_of_getElem? (i := 397) rfl) rfl) (jj_in (List.mem_of_getElem? (i := 2) rfl) rfl) (jj_in (List.mem_of_getElem? (i := 39) rfl) rfl) (jj_in (List.mem_of_getElem? (i := 398) rfl) rfl)) rfl h1 h2 (by decide +kernel) hR
set_option maxRecDepth 100000 in
theorem q_Ifs_76 {R : Room} {s : State} {args : Array Value} (hts : ∀ w ∈ jw_t, w.before args s = true) {rm : Room} (h1 : rm.cells = 0) (h2 : rm.slots = 0) (hR : rm.frames + 1 ≤ R.frames ∧ 8 + (3 + 11) + rm.locals ≤ R.locals) : CallW R s args RX2 yX3_takeOut.cls 76 yX3_takeOut cX3_takeOut 3 (some .int) (Cond.code yX3_takeOut cX3_takeOut 3 (some .int) :: jw_t) rm 0 0 1 := cwV 1 hts (jj_gV jj_gT (jj_in (List.mem_of_getElem? (i := 406) rfl) rfl) (jj_in (List.mem_of_getElem? (i := 407) rfl) rfl) (jj_in (List.mem_of_getElem? (i := 408) rfl) rfl) (jj_in (List.mem_of_getElem? (i := 37) rfl) rfl) (jj_in (List.mem_of_getElem? (i := 409) rfl) rfl)) rfl h1 h2 (by decide +kernel) hR
set_option maxRecDepth 100000 in
theorem q_Ifs_79 {R : Room} {s : State} {args : Array Value} (hts : ∀ w ∈ jw_t, w.before args s = true) {rm : Room} (h1 : rm.cells = 0) (h2 : rm.slots = 0) (hR : rm.frames + 1 ≤ R.frames ∧ 8 + (5 + 11) + rm.locals ≤ R.locals) : CallW R s args RX2 yX2_accept.cls 79 yX2_accept cX2_accept 5 none (Cond.code yX2_accept cX2_accept 5 none :: jw_t) rm 0 0 3 := cwV 3 hts (jj_gV jj_gT (jj_in (List.mem_of_getElem? (i := 411) rfl) rfl) (jj_in (List.mem_of_getElem? (i := 413) rfl) rfl) (jj_in (List.mem_of_getElem? (i := 3) rfl) rfl) (jj_in (List.mem_of_getElem? (i := 39) rfl) rfl) (jj_in (List.mem_of_getElem? (i := 414) rfl) rfl)) rfl h1 h2 (by decide +kernel) hR
set_option maxRecDepth 100000 in
theorem q_Ifs_83 {R : Room} {s : State} {args : Array Value} (hts : ∀ w ∈ jw_t, w.before args s = true) {rm : Room} (h1 : rm.cells = 0) (h2 : rm.slots = 0) (hR : rm.frames + 1 ≤ R.frames ∧ 8 + (1 + 11) + rm.locals ≤ R.locals) : CallB R s args RX2 83 yX4_isOfReply cX4_isOfReply 1 (some .boolean) (Cond.code yX4_isOfReply cX4_isOfReply 1 (some .boolean) :: jw_t) rm 0 0 1 ∧ (Cond.static yX4_isOfReply).before args s = true := va_cwS 1 hts (jj_gS jj_gT (jj_in (List.mem_of_getElem? (i := 399) rfl) rfl) (jj_in (List.mem_of_getElem? (i := 400) rfl) rfl) (jj_in (List.mem_of_getElem? (i := 38) rfl) rfl) (jj_in (List.mem_of_getElem? (i := 401) rfl) rfl)) rfl h1 h2 (by decide +kernel) hR
set_option maxRecDepth 100000 in
theorem q_Ifs_89 {R : Room} {s : State} {args : Array Value} (hts : ∀ w ∈ jw_t, w.before args s = true) {rm : Room} (h1 : rm.cells = 0) (h2 : rm.slots = 0) (hR : rm.frames + 1 ≤ R.frames ∧ 8 + (1 + 11) + rm.locals ≤ R.locals) : CallB R s args RX2 89 yX4_isLast cX4_isLast 1 (some .boolean) (Cond.code yX4_isLast cX4_isLast 1 (some .boolean) :: jw_t) rm 0 0 1 ∧ (Cond.static yX4_isLast).before args s = true := va_cwS 1 hts (jj_gS jj_gT (jj_in (List.mem_of_getElem? (i := 402) rfl) rfl) (jj_in (List.mem_of_getElem? (i := 403) rfl) rfl) (jj_in (List.mem_of_getElem? (i := 38) rfl) rfl) (jj_in (List.mem_of_getElem? (i := 404) rfl) rfl)) rfl h1 h2 (by decide +kernel) hR
set_option maxRecDepth 100000 in
theorem q_Ifs_92 {R : Room} {s : State} {args : Array Value} (hts : ∀ w ∈ jw_t, w.before args s = true) {rm : Room} (h1 : rm.cells = 0) (h2 : rm.slots = 0) (hR : rm.frames + 1 ≤ R.frames ∧ 8 + (2 + 11) + rm.locals ≤ R.locals) : CallW R s args RX2 yX5_isFull.cls 92 yX5_isFull cX5_isFull 2 (some .boolean) (Cond.code yX5_isFull cX5_isFull 2 (some .boolean) :: jw_t) rm 0 0 1 := cwV 1 hts (jj_gV jj_gT (jj_in (List.mem_of_getElem? (i := 405) rfl) rfl) (jj_in (List.mem_of_getElem? (i := 355) rfl) rfl) (jj_in (List.mem_of_getElem? (i := 356) rfl) rfl) (jj_in (List.mem_of_getElem? (i := 41) rfl) rfl) (jj_in (List.mem_of_getElem? (i := 357) rfl) rfl)) rfl h1 h2 (by decide +kernel) hR
set_option maxRecDepth 100000 in
theorem q_Ifs_95 {R : Room} {s : State} {args : Array Value} (hts : ∀ w ∈ jw_t, w.before args s = true) {rm : Room} (h1 : rm.cells = 0) (h2 : rm.slots = 0) (hR : rm.frames + 1 ≤ R.frames ∧ 8 + (1 + 11) + rm.locals ≤ R.locals) : CallB R s args RX2 95 yX4_number cX4_number 1 (some .int) (Cond.code yX4_number cX4_number 1 (some .int) :: jw_t) rm 0 0 1 ∧ (Cond.static yX4_number).before args s = true := va_cwS 1 hts (jj_gS jj_gT (jj_in (List.mem_of_getElem? (i := 415) rfl) rfl) (jj_in (List.mem_of_getElem? (i := 416) rfl) rfl) (jj_in (List.mem_of_getElem? (i := 38) rfl) rfl) (jj_in (List.mem_of_getElem? (i := 417) rfl) rfl)) rfl h1 h2 (by decide +kernel) hR
set_option maxRecDepth 100000 in
theorem q_Ifs_98 {R : Room} {s : State} {args : Array Value} (hts : ∀ w ∈ jw_t, w.before args s = true) {rm : Room} (h1 : rm.cells = 0) (h2 : rm.slots = 0) (hR : rm.frames + 1 ≤ R.frames ∧ 8 + (3 + 11) + rm.locals ≤ R.locals) : CallW R s args RX2 yX0_add.cls 98 yX0_add cX0_add 3 none (Cond.code yX0_add cX0_add 3 none :: jw_t) rm 0 0 2 := cwV 2 hts (jj_gV jj_gT (jj_in (List.mem_of_getElem? (i := 418) rfl) rfl) (jj_in (List.mem_of_getElem? (i := 419) rfl) rfl) (jj_in (List.mem_of_getElem? (i := 420) rfl) rfl) (jj_in (List.mem_of_getElem? (i := 40) rfl) rfl) (jj_in (List.mem_of_getElem? (i := 421) rfl) rfl)) rfl h1 h2 (by decide +kernel) hR
set_option maxRecDepth 100000 in
theorem q_Ifs_102 {R : Room} {s : State} {args : Array Value} (hts : ∀ w ∈ jw_t, w.before args s = true) {rm : Room} (h1 : rm.cells = 0) (h2 : rm.slots = 0) (hR : rm.frames + 1 ≤ R.frames ∧ 8 + (5 + 11) + rm.locals ≤ R.locals) : CallW R s args RX2 yX2_serve.cls 102 yX2_serve cX2_serve 5 none (Cond.code yX2_serve cX2_serve 5 none :: jw_t) rm 0 0 2 := cwV 2 hts (jj_gV jj_gT (jj_in (List.mem_of_getElem? (i := 422) rfl) rfl) (jj_in (List.mem_of_getElem? (i := 424) rfl) rfl) (jj_in (List.mem_of_getElem? (i := 4) rfl) rfl) (jj_in (List.mem_of_getElem? (i := 39) rfl) rfl) (jj_in (List.mem_of_getElem? (i := 425) rfl) rfl)) rfl h1 h2 (by decide +kernel) hR
set_option maxRecDepth 100000 in
theorem q_Ifs_105 {R : Room} {s : State} {args : Array Value} (hts : ∀ w ∈ jw_t, w.before args s = true) {rm : Room} (h1 : rm.cells = 0) (h2 : rm.slots = 0) (hR : rm.frames + 1 ≤ R.frames ∧ 8 + (3 + 11) + rm.locals ≤ R.locals) : CallW R s args RX2 yX5_add.cls 105 yX5_add cX5_add 3 none (Cond.code yX5_add cX5_add 3 none :: jw_t) rm 0 0 2 := cwV 2 hts (jj_gV jj_gT (jj_in (List.mem_of_getElem? (i := 426) rfl) rfl) (jj_in (List.mem_of_getElem? (i := 367) rfl) rfl) (jj_in (List.mem_of_getElem? (i := 368) rfl) rfl) (jj_in (List.mem_of_getElem? (i := 41) rfl) rfl) (jj_in (List.mem_of_getElem? (i := 369) rfl) rfl)) rfl h1 h2 (by decide +kernel) hR
set_option maxRecDepth 100000 in
theorem q_Ifs_115 {R : Room} {s : State} {args : Array Value} (hts : ∀ w ∈ jw_t, w.before args s = true) {rm : Room} (h1 : rm.cells = 0) (h2 : rm.slots = 0) (hR : rm.frames + 1 ≤ R.frames ∧ 8 + (7 + 11) + rm.locals ≤ R.locals) : CallW R s args RX2 yX2_sendFirst.cls 115 yX2_sendFirst cX2_sendFirst 7 (some .boolean) (Cond.code yX2_sendFirst cX2_sendFirst 7 (some .boolean) :: jw_t) rm 0 0 2 := cwV 2 hts (jj_gV jj_gT (jj_in (List.mem_of_getElem? (i := 431) rfl) rfl) (jj_in (List.mem_of_getElem? (i := 433) rfl) rfl) (jj_in (List.mem_of_getElem? (i := 5) rfl) rfl) (jj_in (List.mem_of_getElem? (i := 39) rfl) rfl) (jj_in (List.mem_of_getElem? (i := 434) rfl) rfl)) rfl h1 h2 (by decide +kernel) hR
set_option maxRecDepth 100000 in
theorem q_Ifs_120 {R : Room} {s : State} {args : Array Value} (hts : ∀ w ∈ jw_t, w.before args s = true) {rm : Room} (h1 : rm.cells = 0) (h2 : rm.slots = 0) (hR : rm.frames + 1 ≤ R.frames ∧ 8 + (2 + 11) + rm.locals ≤ R.locals) : CallW R s args RX2 yX5_firstNumber.cls 120 yX5_firstNumber cX5_firstNumber 2 (some .int) (Cond.code yX5_firstNumber cX5_firstNumber 2 (some .int) :: jw_t) rm 0 0 1 := cwV 1 hts (jj_gV jj_gT (jj_in (List.mem_of_getElem? (i := 435) rfl) rfl) (jj_in (List.mem_of_getElem? (i := 436) rfl) rfl) (jj_in (List.mem_of_getElem? (i := 437) rfl) rfl) (jj_in (List.mem_of_getElem? (i := 41) rfl) rfl) (jj_in (List.mem_of_getElem? (i := 438) rfl) rfl)) rfl h1 h2 (by decide +kernel) hR
set_option maxRecDepth 100000 in
theorem q_Ifs_127 {R : Room} {s : State} {args : Array Value} (hts : ∀ w ∈ jw_t, w.before args s = true) {rm : Room} (h1 : rm.cells = 0) (h2 : rm.slots = 0) (hR : rm.frames + 1 ≤ R.frames ∧ 8 + (4 + 11) + rm.locals ≤ R.locals) : CallW R s args RX2 yX4_channel.cls 127 yX4_channel cX4_channel 4 (some .int) (Cond.code yX4_channel cX4_channel 4 (some .int) :: jw_t) rm 0 0 2 := cwV 2 hts (jj_gV jj_gT (jj_in (List.mem_of_getElem? (i := 439) rfl) rfl) (jj_in (List.mem_of_getElem? (i := 440) rfl) rfl) (jj_in (List.mem_of_getElem? (i := 441) rfl) rfl) (jj_in (List.mem_of_getElem? (i := 38) rfl) rfl) (jj_in (List.mem_of_getElem? (i := 442) rfl) rfl)) rfl h1 h2 (by decide +kernel) hR
set_option maxRecDepth 100000 in
theorem q_Ifs_137 {R : Room} {s : State} {args : Array Value} (hts : ∀ w ∈ jw_t, w.before args s = true) {rm : Room} (h1 : rm.cells = 0) (h2 : rm.slots = 0) (hR : rm.frames + 1 ≤ R.frames ∧ 8 + (3 + 11) + rm.locals ≤ R.locals) : CallW R s args RX2 yX4_length.cls 137 yX4_length cX4_length 3 (some .int) (Cond.code yX4_length cX4_length 3 (some .int) :: jw_t) rm 0 0 2 := cwV 2 hts (jj_gV jj_gT (jj_in (List.mem_of_getElem? (i := 443) rfl) rfl) (jj_in (List.mem_of_getElem? (i := 444) rfl) rfl) (jj_in (List.mem_of_getElem? (i := 445) rfl) rfl) (jj_in (List.mem_of_getElem? (i := 38) rfl) rfl) (jj_in (List.mem_of_getElem? (i := 446) rfl) rfl)) rfl h1 h2 (by decide +kernel) hR
set_option maxRecDepth 100000 in
theorem q_Ifs_140 {R : Room} {s : State} {args : Array Value} (hts : ∀ w ∈ jw_t, w.before args s = true) {rm : Room} (h1 : rm.cells = 0) (h2 : rm.slots = 0) (hR : rm.frames + 1 ≤ R.frames ∧ 8 + (3 + 11) + rm.locals ≤ R.locals) : CallB R s args RX2 140 yX4_flit cX4_flit 3 (some .int) (Cond.code yX4_flit cX4_flit 3 (some .int) :: jw_t) rm 0 0 3 ∧ (Cond.static yX4_flit).before args s = true := va_cwS 3 hts (jj_gS jj_gT (jj_in (List.mem_of_getElem? (i := 447) rfl) rfl) (jj_in (List.mem_of_getElem? (i := 448) rfl) rfl) (jj_in (List.mem_of_getElem? (i := 38) rfl) rfl) (jj_in (List.mem_of_getElem? (i := 449) rfl) rfl)) rfl h1 h2 (by decide +kernel) hR
set_option maxRecDepth 100000 in
theorem q_Ifs_144 {R : Room} {s : State} {args : Array Value} (hts : ∀ w ∈ jw_t, w.before args s = true) {rm : Room} (h1 : rm.cells = 0) (h2 : rm.slots = 0) (hR : rm.frames + 1 ≤ R.frames ∧ 8 + (3 + 11) + rm.locals ≤ R.locals) : CallW R s args RX2 yX3_send.cls 144 yX3_send cX3_send 3 none (Cond.code yX3_send cX3_send 3 none :: jw_t) rm 0 0 2 := cwV 2 hts (jj_gV jj_gT (jj_in (List.mem_of_getElem? (i := 450) rfl) rfl) (jj_in (List.mem_of_getElem? (i := 451) rfl) rfl) (jj_in (List.mem_of_getElem? (i := 452) rfl) rfl) (jj_in (List.mem_of_getElem? (i := 37) rfl) rfl) (jj_in (List.mem_of_getElem? (i := 453) rfl) rfl)) rfl h1 h2 (by decide +kernel) hR
set_option maxRecDepth 100000 in
theorem q_Ifs_147 {R : Room} {s : State} {args : Array Value} (hts : ∀ w ∈ jw_t, w.before args s = true) {rm : Room} (h1 : rm.cells = 0) (h2 : rm.slots = 0) (hR : rm.frames + 1 ≤ R.frames ∧ 8 + (4 + 11) + rm.locals ≤ R.locals) : CallW R s args RX2 yX5_removeFirst.cls 147 yX5_removeFirst cX5_removeFirst 4 none (Cond.code yX5_removeFirst cX5_removeFirst 4 none :: jw_t) rm 0 0 1 := cwV 1 hts (jj_gV jj_gT (jj_in (List.mem_of_getElem? (i := 454) rfl) rfl) (jj_in (List.mem_of_getElem? (i := 455) rfl) rfl) (jj_in (List.mem_of_getElem? (i := 456) rfl) rfl) (jj_in (List.mem_of_getElem? (i := 41) rfl) rfl) (jj_in (List.mem_of_getElem? (i := 457) rfl) rfl)) rfl h1 h2 (by decide +kernel) hR
set_option maxRecDepth 100000 in
theorem q_Links_59 {R : Room} {s : State} {args : Array Value} (hts : ∀ w ∈ jw_t, w.before args s = true) {rm : Room} (h1 : rm.cells = 0) (h2 : rm.slots = 0) (hR : rm.frames + 1 ≤ R.frames ∧ 8 + (2 + 11) + rm.locals ≤ R.locals) : CallW R s args RX3 yX3_firstFlit.cls 59 yX3_firstFlit cX3_firstFlit 2 (some .int) (Cond.code yX3_firstFlit cX3_firstFlit 2 (some .int) :: jw_t) rm 0 0 1 := cwV 1 hts (jj_gV jj_gT (jj_in (List.mem_of_getElem? (i := 410) rfl) rfl) (jj_in (List.mem_of_getElem? (i := 392) rfl) rfl) (jj_in (List.mem_of_getElem? (i := 393) rfl) rfl) (jj_in (List.mem_of_getElem? (i := 37) rfl) rfl) (jj_in (List.mem_of_getElem? (i := 394) rfl) rfl)) rfl h1 h2 (by decide +kernel) hR
set_option maxRecDepth 100000 in
theorem q_Packets_36 {R : Room} {s : State} {args : Array Value} (hts : ∀ w ∈ jw_t, w.before args s = true) {rm : Room} (h1 : rm.cells = 0) (h2 : rm.slots = 0) (hR : rm.frames + 1 ≤ R.frames ∧ 8 + (1 + 11) + rm.locals ≤ R.locals) : CallB R s args RX4 36 yX4_isOfReply cX4_isOfReply 1 (some .boolean) (Cond.code yX4_isOfReply cX4_isOfReply 1 (some .boolean) :: jw_t) rm 0 0 1 ∧ (Cond.static yX4_isOfReply).before args s = true := va_cwS 1 hts (jj_gS jj_gT (jj_in (List.mem_of_getElem? (i := 499) rfl) rfl) (jj_in (List.mem_of_getElem? (i := 400) rfl) rfl) (jj_in (List.mem_of_getElem? (i := 38) rfl) rfl) (jj_in (List.mem_of_getElem? (i := 401) rfl) rfl)) rfl h1 h2 (by decide +kernel) hR
set_option maxRecDepth 100000 in
theorem q_Packets_40 {R : Room} {s : State} {args : Array Value} (hts : ∀ w ∈ jw_t, w.before args s = true) {rm : Room} (h1 : rm.cells = 0) (h2 : rm.slots = 0) (hR : rm.frames + 1 ≤ R.frames ∧ 8 + (1 + 11) + rm.locals ≤ R.locals) : CallB R s args RX4 40 yX4_number cX4_number 1 (some .int) (Cond.code yX4_number cX4_number 1 (some .int) :: jw_t) rm 0 0 1 ∧ (Cond.static yX4_number).before args s = true := va_cwS 1 hts (jj_gS jj_gT (jj_in (List.mem_of_getElem? (i := 500) rfl) rfl) (jj_in (List.mem_of_getElem? (i := 416) rfl) rfl) (jj_in (List.mem_of_getElem? (i := 38) rfl) rfl) (jj_in (List.mem_of_getElem? (i := 417) rfl) rfl)) rfl h1 h2 (by decide +kernel) hR
set_option maxRecDepth 100000 in
theorem q_Routers_55 {R : Room} {s : State} {args : Array Value} (hts : ∀ w ∈ jw_t, w.before args s = true) {rm : Room} (h1 : rm.cells = 0) (h2 : rm.slots = 0) (hR : rm.frames + 1 ≤ R.frames ∧ 8 + (6 + 11) + rm.locals ≤ R.locals) : CallW R s args RX6 yX6_readyChannel.cls 55 yX6_readyChannel cX6_readyChannel 6 (some .int) (Cond.code yX6_readyChannel cX6_readyChannel 6 (some .int) :: jw_t) rm 0 0 2 := cwV 2 hts (jj_gV jj_gT (jj_in (List.mem_of_getElem? (i := 462) rfl) rfl) (jj_in (List.mem_of_getElem? (i := 464) rfl) rfl) (jj_in (List.mem_of_getElem? (i := 6) rfl) rfl) (jj_in (List.mem_of_getElem? (i := 42) rfl) rfl) (jj_in (List.mem_of_getElem? (i := 465) rfl) rfl)) rfl h1 h2 (by decide +kernel) hR
set_option maxRecDepth 100000 in
theorem q_Routers_59 {R : Room} {s : State} {args : Array Value} (hts : ∀ w ∈ jw_t, w.before args s = true) {rm : Room} (h1 : rm.cells = 0) (h2 : rm.slots = 0) (hR : rm.frames + 1 ≤ R.frames ∧ 8 + (6 + 11) + rm.locals ≤ R.locals) : CallW R s args RX6 yX6_chosenPort.cls 59 yX6_chosenPort cX6_chosenPort 6 (some .int) (Cond.code yX6_chosenPort cX6_chosenPort 6 (some .int) :: jw_t) rm 0 0 2 := cwV 2 hts (jj_gV jj_gT (jj_in (List.mem_of_getElem? (i := 471) rfl) rfl) (jj_in (List.mem_of_getElem? (i := 473) rfl) rfl) (jj_in (List.mem_of_getElem? (i := 8) rfl) rfl) (jj_in (List.mem_of_getElem? (i := 42) rfl) rfl) (jj_in (List.mem_of_getElem? (i := 474) rfl) rfl)) rfl h1 h2 (by decide +kernel) hR
set_option maxRecDepth 100000 in
theorem q_Routers_62 {R : Room} {s : State} {args : Array Value} (hts : ∀ w ∈ jw_t, w.before args s = true) {rm : Room} (h1 : rm.cells = 0) (h2 : rm.slots = 0) (hR : rm.frames + 1 ≤ R.frames ∧ 8 + (8 + 11) + rm.locals ≤ R.locals) : CallW R s args RX6 yX6_move.cls 62 yX6_move cX6_move 8 none (Cond.code yX6_move cX6_move 8 none :: jw_t) rm 0 0 3 := cwV 3 hts (jj_gV jj_gT (jj_in (List.mem_of_getElem? (i := 475) rfl) rfl) (jj_in (List.mem_of_getElem? (i := 477) rfl) rfl) (jj_in (List.mem_of_getElem? (i := 9) rfl) rfl) (jj_in (List.mem_of_getElem? (i := 42) rfl) rfl) (jj_in (List.mem_of_getElem? (i := 478) rfl) rfl)) rfl h1 h2 (by decide +kernel) hR
set_option maxRecDepth 100000 in
theorem q_Routers_69 {R : Room} {s : State} {args : Array Value} (hts : ∀ w ∈ jw_t, w.before args s = true) {rm : Room} (h1 : rm.cells = 0) (h2 : rm.slots = 0) (hR : rm.frames + 1 ≤ R.frames ∧ 8 + (5 + 11) + rm.locals ≤ R.locals) : CallW R s args RX6 yX6_isReady.cls 69 yX6_isReady cX6_isReady 5 (some .boolean) (Cond.code yX6_isReady cX6_isReady 5 (some .boolean) :: jw_t) rm 0 0 3 := cwV 3 hts (jj_gV jj_gT (jj_in (List.mem_of_getElem? (i := 466) rfl) rfl) (jj_in (List.mem_of_getElem? (i := 468) rfl) rfl) (jj_in (List.mem_of_getElem? (i := 7) rfl) rfl) (jj_in (List.mem_of_getElem? (i := 42) rfl) rfl) (jj_in (List.mem_of_getElem? (i := 469) rfl) rfl)) rfl h1 h2 (by decide +kernel) hR
set_option maxRecDepth 100000 in
theorem q_Routers_73 {R : Room} {s : State} {args : Array Value} (hts : ∀ w ∈ jw_t, w.before args s = true) {rm : Room} (h1 : rm.cells = 0) (h2 : rm.slots = 0) (hR : rm.frames + 1 ≤ R.frames ∧ 8 + (4 + 11) + rm.locals ≤ R.locals) : CallW R s args RX6 yX1_slot.cls 73 yX1_slot cX1_slot 4 (some .int) (Cond.code yX1_slot cX1_slot 4 (some .int) :: jw_t) rm 0 0 3 := cwV 3 hts (jj_gV jj_gT (jj_in (List.mem_of_getElem? (i := 470) rfl) rfl) (jj_in (List.mem_of_getElem? (i := 107) rfl) rfl) (jj_in (List.mem_of_getElem? (i := 108) rfl) rfl) (jj_in (List.mem_of_getElem? (i := 35) rfl) rfl) (jj_in (List.mem_of_getElem? (i := 109) rfl) rfl)) rfl h1 h2 (by decide +kernel) hR
set_option maxRecDepth 100000 in
theorem q_Routers_85 {R : Room} {s : State} {args : Array Value} (hts : ∀ w ∈ jw_t, w.before args s = true) {rm : Room} (h1 : rm.cells = 0) (h2 : rm.slots = 0) (hR : rm.frames + 1 ≤ R.frames ∧ 8 + (3 + 11) + rm.locals ≤ R.locals) : CallW R s args RX6 yX3_takeOut.cls 85 yX3_takeOut cX3_takeOut 3 (some .int) (Cond.code yX3_takeOut cX3_takeOut 3 (some .int) :: jw_t) rm 0 0 1 := cwV 1 hts (jj_gV jj_gT (jj_in (List.mem_of_getElem? (i := 479) rfl) rfl) (jj_in (List.mem_of_getElem? (i := 407) rfl) rfl) (jj_in (List.mem_of_getElem? (i := 408) rfl) rfl) (jj_in (List.mem_of_getElem? (i := 37) rfl) rfl) (jj_in (List.mem_of_getElem? (i := 409) rfl) rfl)) rfl h1 h2 (by decide +kernel) hR
set_option maxRecDepth 100000 in
theorem q_Routers_89 {R : Room} {s : State} {args : Array Value} (hts : ∀ w ∈ jw_t, w.before args s = true) {rm : Room} (h1 : rm.cells = 0) (h2 : rm.slots = 0) (hR : rm.frames + 1 ≤ R.frames ∧ 8 + (3 + 11) + rm.locals ≤ R.locals) : CallW R s args RX6 yX3_send.cls 89 yX3_send cX3_send 3 none (Cond.code yX3_send cX3_send 3 none :: jw_t) rm 0 0 2 := cwV 2 hts (jj_gV jj_gT (jj_in (List.mem_of_getElem? (i := 480) rfl) rfl) (jj_in (List.mem_of_getElem? (i := 451) rfl) rfl) (jj_in (List.mem_of_getElem? (i := 452) rfl) rfl) (jj_in (List.mem_of_getElem? (i := 37) rfl) rfl) (jj_in (List.mem_of_getElem? (i := 453) rfl) rfl)) rfl h1 h2 (by decide +kernel) hR
set_option maxRecDepth 100000 in
theorem q_Routers_93 {R : Room} {s : State} {args : Array Value} (hts : ∀ w ∈ jw_t, w.before args s = true) {rm : Room} (h1 : rm.cells = 0) (h2 : rm.slots = 0) (hR : rm.frames + 1 ≤ R.frames ∧ 8 + (1 + 11) + rm.locals ≤ R.locals) : CallB R s args RX6 93 yX4_isLast cX4_isLast 1 (some .boolean) (Cond.code yX4_isLast cX4_isLast 1 (some .boolean) :: jw_t) rm 0 0 1 ∧ (Cond.static yX4_isLast).before args s = true := va_cwS 1 hts (jj_gS jj_gT (jj_in (List.mem_of_getElem? (i := 481) rfl) rfl) (jj_in (List.mem_of_getElem? (i := 403) rfl) rfl) (jj_in (List.mem_of_getElem? (i := 38) rfl) rfl) (jj_in (List.mem_of_getElem? (i := 404) rfl) rfl)) rfl h1 h2 (by decide +kernel) hR
set_option maxRecDepth 100000 in
theorem q_Routers_99 {R : Room} {s : State} {args : Array Value} (hts : ∀ w ∈ jw_t, w.before args s = true) {rm : Room} (h1 : rm.cells = 0) (h2 : rm.slots = 0) (hR : rm.frames + 1 ≤ R.frames ∧ 8 + (9 + 11) + rm.locals ≤ R.locals) : CallW R s args RX6 yX6_grantIfFree.cls 99 yX6_grantIfFree cX6_grantIfFree 9 none (Cond.code yX6_grantIfFree cX6_grantIfFree 9 none :: jw_t) rm 0 0 3 := cwV 3 hts (jj_gV jj_gT (jj_in (List.mem_of_getElem? (i := 486) rfl) rfl) (jj_in (List.mem_of_getElem? (i := 488) rfl) rfl) (jj_in (List.mem_of_getElem? (i := 10) rfl) rfl) (jj_in (List.mem_of_getElem? (i := 42) rfl) rfl) (jj_in (List.mem_of_getElem? (i := 489) rfl) rfl)) rfl h1 h2 (by decide +kernel) hR
set_option maxRecDepth 100000 in
theorem q_Routers_102 {R : Room} {s : State} {args : Array Value} (hts : ∀ w ∈ jw_t, w.before args s = true) {rm : Room} (h1 : rm.cells = 0) (h2 : rm.slots = 0) (hR : rm.frames + 1 ≤ R.frames ∧ 8 + (2 + 11) + rm.locals ≤ R.locals) : CallW R s args RX6 yX3_firstFlit.cls 102 yX3_firstFlit cX3_firstFlit 2 (some .int) (Cond.code yX3_firstFlit cX3_firstFlit 2 (some .int) :: jw_t) rm 0 0 1 := cwV 1 hts (jj_gV jj_gT (jj_in (List.mem_of_getElem? (i := 494) rfl) rfl) (jj_in (List.mem_of_getElem? (i := 392) rfl) rfl) (jj_in (List.mem_of_getElem? (i := 393) rfl) rfl) (jj_in (List.mem_of_getElem? (i := 37) rfl) rfl) (jj_in (List.mem_of_getElem? (i := 394) rfl) rfl)) rfl h1 h2 (by decide +kernel) hR
set_option maxRecDepth 100000 in
theorem q_Routers_105 {R : Room} {s : State} {args : Array Value} (hts : ∀ w ∈ jw_t, w.before args s = true) {rm : Room} (h1 : rm.cells = 0) (h2 : rm.slots = 0) (hR : rm.frames + 1 ≤ R.frames ∧ 8 + (2 + 11) + rm.locals ≤ R.locals) : CallW R s args RX6 yX4_goal.cls 105 yX4_goal cX4_goal 2 (some .int) (Cond.code yX4_goal cX4_goal 2 (some .int) :: jw_t) rm 0 0 1 := cwV 1 hts (jj_gV jj_gT (jj_in (List.mem_of_getElem? (i := 495) rfl) rfl) (jj_in (List.mem_of_getElem? (i := 496) rfl) rfl) (jj_in (List.mem_of_getElem? (i := 497) rfl) rfl) (jj_in (List.mem_of_getElem? (i := 38) rfl) rfl) (jj_in (List.mem_of_getElem? (i := 498) rfl) rfl)) rfl h1 h2 (by decide +kernel) hR
set_option maxRecDepth 100000 in
theorem q_Routers_108 {R : Room} {s : State} {args : Array Value} (hts : ∀ w ∈ jw_t, w.before args s = true) {rm : Room} (h1 : rm.cells = 0) (h2 : rm.slots = 0) (hR : rm.frames + 1 ≤ R.frames ∧ 8 + (5 + 11) + rm.locals ≤ R.locals) : CallW R s args RX6 yX6_wayTo.cls 108 yX6_wayTo cX6_wayTo 5 (some .int) (Cond.code yX6_wayTo cX6_wayTo 5 (some .int) :: jw_t) rm 0 0 2 := cwV 2 hts (jj_gV jj_gT (jj_in (List.mem_of_getElem? (i := 501) rfl) rfl) (jj_in (List.mem_of_getElem? (i := 503) rfl) rfl) (jj_in (List.mem_of_getElem? (i := 11) rfl) rfl) (jj_in (List.mem_of_getElem? (i := 42) rfl) rfl) (jj_in (List.mem_of_getElem? (i := 504) rfl) rfl)) rfl h1 h2 (by decide +kernel) hR
set_option maxRecDepth 100000 in
theorem q_Routers_111 {R : Room} {s : State} {args : Array Value} (hts : ∀ w ∈ jw_t, w.before args s = true) {rm : Room} (h1 : rm.cells = 0) (h2 : rm.slots = 0) (hR : rm.frames + 1 ≤ R.frames ∧ 8 + (2 + 11) + rm.locals ≤ R.locals) : CallW R s args RX6 yX1_column.cls 111 yX1_column cX1_column 2 (some .int) (Cond.code yX1_column cX1_column 2 (some .int) :: jw_t) rm 0 0 1 := cwV 1 hts (jj_gV jj_gT (jj_in (List.mem_of_getElem? (i := 505) rfl) rfl) (jj_in (List.mem_of_getElem? (i := 119) rfl) rfl) (jj_in (List.mem_of_getElem? (i := 120) rfl) rfl) (jj_in (List.mem_of_getElem? (i := 35) rfl) rfl) (jj_in (List.mem_of_getElem? (i := 121) rfl) rfl)) rfl h1 h2 (by decide +kernel) hR
set_option maxRecDepth 100000 in
theorem q_Routers_114 {R : Room} {s : State} {args : Array Value} (hts : ∀ w ∈ jw_t, w.before args s = true) {rm : Room} (h1 : rm.cells = 0) (h2 : rm.slots = 0) (hR : rm.frames + 1 ≤ R.frames ∧ 8 + (2 + 11) + rm.locals ≤ R.locals) : CallW R s args RX6 yX1_row.cls 114 yX1_row cX1_row 2 (some .int) (Cond.code yX1_row cX1_row 2 (some .int) :: jw_t) rm 0 0 1 := cwV 1 hts (jj_gV jj_gT (jj_in (List.mem_of_getElem? (i := 506) rfl) rfl) (jj_in (List.mem_of_getElem? (i := 123) rfl) rfl) (jj_in (List.mem_of_getElem? (i := 124) rfl) rfl) (jj_in (List.mem_of_getElem? (i := 35) rfl) rfl) (jj_in (List.mem_of_getElem? (i := 125) rfl) rfl)) rfl h1 h2 (by decide +kernel) hR
def gc (n S SD : Nat) : List jj_H := [.inl (7, [some 1, some 2, some 10, some 16, some 30, none]), .inl (1, [none, none, none, none, none, none, none]), .inl (3, [none, some 3, some 4, some 5, some 6, some 7, some 8, some 9, none]), .inr (.int, S), .inr (.int, SD), .inr (.int, S), .inr (.int, S), .inr (.int, S), .inr (.int, S), .inr (.int, S), .inl (4, [some 1, some 11, some 12, some 13, some 14, some 15, none]), .inr (.int, 400), .inr (.int, 400), .inr (.boolean, 400), .inr (.int, 400), .inr (.int, 400), .inl (2, [some 1, some 2, some 10, some 20, some 24, some 17, some 28, some 29]), .inl (0, [some 18, some 19, none]), .inr (.int, 400), .inr (.int, 400), .inl (5, [none, none, some 21, some 22, some 23]), .inr (.int, n * 4), .inr (.int, n), .inr (.int, n), .inl (5, [none, none, some 25, some 26, some 27]), .inr (.int, n * 2), .inr (.int, n), .inr (.int, n), .inr (.int, n * 8), .inr (.boolean, n), .inl (6, [some 1, some 2, some 10, some 32, some 33, some 34, some 35, some 36, some 37, some 31]), .inr (.int, 5), .inr (.int, S), .inr (.int, S), .inr (.boolean, S), .inr (.int, S), .inr (.int, n * 5), .inr (.int, n * 5)]
theorem g_0 (n S SD : Nat) : (gc n S SD)[0]? = some (.inl (7, [some 1, some 2, some 10, some 16, some 30, none])) := rfl
theorem g_1 (n S SD : Nat) : (gc n S SD)[1]? = some (.inl (1, [none, none, none, none, none, none, none])) := rfl
theorem g_2 (n S SD : Nat) : (gc n S SD)[2]? = some (.inl (3, [none, some 3, some 4, some 5, some 6, some 7, some 8, some 9, none])) := rfl
theorem g_3 (n S SD : Nat) : (gc n S SD)[3]? = some (.inr (.int, S)) := rfl
theorem g_4 (n S SD : Nat) : (gc n S SD)[4]? = some (.inr (.int, SD)) := rfl
theorem g_5 (n S SD : Nat) : (gc n S SD)[5]? = some (.inr (.int, S)) := rfl
theorem g_6 (n S SD : Nat) : (gc n S SD)[6]? = some (.inr (.int, S)) := rfl
theorem g_7 (n S SD : Nat) : (gc n S SD)[7]? = some (.inr (.int, S)) := rfl
theorem g_8 (n S SD : Nat) : (gc n S SD)[8]? = some (.inr (.int, S)) := rfl
theorem g_9 (n S SD : Nat) : (gc n S SD)[9]? = some (.inr (.int, S)) := rfl
theorem g_10 (n S SD : Nat) : (gc n S SD)[10]? = some (.inl (4, [some 1, some 11, some 12, some 13, some 14, some 15, none])) := rfl
theorem g_11 (n S SD : Nat) : (gc n S SD)[11]? = some (.inr (.int, 400)) := rfl
theorem g_12 (n S SD : Nat) : (gc n S SD)[12]? = some (.inr (.int, 400)) := rfl
theorem g_13 (n S SD : Nat) : (gc n S SD)[13]? = some (.inr (.boolean, 400)) := rfl
theorem g_14 (n S SD : Nat) : (gc n S SD)[14]? = some (.inr (.int, 400)) := rfl
theorem g_15 (n S SD : Nat) : (gc n S SD)[15]? = some (.inr (.int, 400)) := rfl
theorem g_16 (n S SD : Nat) : (gc n S SD)[16]? = some (.inl (2, [some 1, some 2, some 10, some 20, some 24, some 17, some 28, some 29])) := rfl
theorem g_17 (n S SD : Nat) : (gc n S SD)[17]? = some (.inl (0, [some 18, some 19, none])) := rfl
theorem g_18 (n S SD : Nat) : (gc n S SD)[18]? = some (.inr (.int, 400)) := rfl
theorem g_19 (n S SD : Nat) : (gc n S SD)[19]? = some (.inr (.int, 400)) := rfl
theorem g_20 (n S SD : Nat) : (gc n S SD)[20]? = some (.inl (5, [none, none, some 21, some 22, some 23])) := rfl
theorem g_21 (n S SD : Nat) : (gc n S SD)[21]? = some (.inr (.int, n * 4)) := rfl
theorem g_22 (n S SD : Nat) : (gc n S SD)[22]? = some (.inr (.int, n)) := rfl
theorem g_23 (n S SD : Nat) : (gc n S SD)[23]? = some (.inr (.int, n)) := rfl
theorem g_24 (n S SD : Nat) : (gc n S SD)[24]? = some (.inl (5, [none, none, some 25, some 26, some 27])) := rfl
theorem g_25 (n S SD : Nat) : (gc n S SD)[25]? = some (.inr (.int, n * 2)) := rfl
theorem g_26 (n S SD : Nat) : (gc n S SD)[26]? = some (.inr (.int, n)) := rfl
theorem g_27 (n S SD : Nat) : (gc n S SD)[27]? = some (.inr (.int, n)) := rfl
theorem g_28 (n S SD : Nat) : (gc n S SD)[28]? = some (.inr (.int, n * 8)) := rfl
theorem g_29 (n S SD : Nat) : (gc n S SD)[29]? = some (.inr (.boolean, n)) := rfl
theorem g_30 (n S SD : Nat) : (gc n S SD)[30]? = some (.inl (6, [some 1, some 2, some 10, some 32, some 33, some 34, some 35, some 36, some 37, some 31])) := rfl
theorem g_31 (n S SD : Nat) : (gc n S SD)[31]? = some (.inr (.int, 5)) := rfl
theorem g_32 (n S SD : Nat) : (gc n S SD)[32]? = some (.inr (.int, S)) := rfl
theorem g_33 (n S SD : Nat) : (gc n S SD)[33]? = some (.inr (.int, S)) := rfl
theorem g_34 (n S SD : Nat) : (gc n S SD)[34]? = some (.inr (.boolean, S)) := rfl
theorem g_35 (n S SD : Nat) : (gc n S SD)[35]? = some (.inr (.int, S)) := rfl
theorem g_36 (n S SD : Nat) : (gc n S SD)[36]? = some (.inr (.int, n * 5)) := rfl
theorem g_37 (n S SD : Nat) : (gc n S SD)[37]? = some (.inr (.int, n * 5)) := rfl
end
section
def f_Mesh_nodes (n S SD F : Nat) (σ : jj_S) : Option (Int32 × jj_S) :=
  some (σ 1 5, σ)

def f_Grid_hasNode (n S SD F : Nat) (σ : jj_S) (a1 : Int32) : Option (Int32 × jj_S) :=
  if a1 < 0 then (some ((0 : Int32), σ)) else (if (σ 1 5) ≤ a1 then (some ((0 : Int32), σ)) else (some ((1 : Int32), σ)))

def f_Mesh_isWord (n S SD F : Nat) (σ : jj_S) (a0 : Int32) : Option (Int32 × jj_S) :=
  if a0 < 0 then (some ((0 : Int32), σ)) else (if (8 : Int32) ≤ a0 then (some ((0 : Int32), σ)) else (some ((1 : Int32), σ)))

def f_Queues_isFullq (n S SD F : Nat) (σ : jj_S) (a1 : Int32) : Option (Int32 × jj_S) :=
  jj_ck n a1 (if (σ 22 a1.toNatClampNeg) < (σ 20 1) then (some ((0 : Int32), σ)) else (some ((1 : Int32), σ)))

def f_Packets_isFull (n S SD F : Nat) (σ : jj_S) : Option (Int32 × jj_S) :=
  if (σ 10 6) < (400 : Int32) then (some ((0 : Int32), σ)) else (some ((1 : Int32), σ))

def f_Packets_add (n S SD F : Nat) (σ : jj_S) (a1 a2 a3 a4 a5 : Int32) : Option (Int32 × jj_S) :=
  jj_lt (σ 10 6) (fun v6_1 => jj_ck 400 v6_1 (jj_st (jj_up σ 11 v6_1.toNatClampNeg a1) (fun σ2 => jj_ck 400 v6_1 (jj_st (jj_up σ2 12 v6_1.toNatClampNeg a2) (fun σ3 => jj_ck 400 v6_1 (jj_st (jj_up σ3 13 v6_1.toNatClampNeg (vp_nar .boolean a3)) (fun σ4 => jj_ck 400 v6_1 (jj_st (jj_up σ4 14 v6_1.toNatClampNeg a4) (fun σ5 => jj_ck 400 v6_1 (jj_st (jj_up σ5 15 v6_1.toNatClampNeg a5) (fun σ6 => jj_st (jj_up σ6 10 6 ((σ6 10 6) + (1 : Int32))) (fun σ7 => some (v6_1, σ7)))))))))))))

def f_Queues_addq (n S SD F : Nat) (σ : jj_S) (a1 a2 : Int32) : Option jj_S :=
  jj_ck n a1 (jj_ck (n * 4) ((a1 * (σ 20 1)) + (σ 22 a1.toNatClampNeg)) (jj_st (jj_up σ 21 ((a1 * (σ 20 1)) + (σ 22 a1.toNatClampNeg)).toNatClampNeg a2) (fun σ1 => jj_ck n a1 (jj_ck n a1 (jj_st (jj_up σ1 22 a1.toNatClampNeg ((σ1 22 a1.toNatClampNeg) + (1 : Int32))) (fun σ2 => some σ2))))))

def f_Mesh_request (n S SD F : Nat) (σ : jj_S) (a1 a2 a3 a4 a5 : Int32) : Option (Int32 × jj_S) :=
  jj_b2 (f_Grid_hasNode n S SD F σ a1) (fun r2 σ1 => if r2 = 0 then (some ((-1 : Int32), σ1)) else (jj_b2 (f_Grid_hasNode n S SD F σ1 a2) (fun r4 σ3 => if r4 = 0 then (some ((-1 : Int32), σ3)) else (jj_b2 (f_Mesh_isWord n S SD F σ3 a4) (fun r6 σ5 => if r6 = 0 then (some ((-1 : Int32), σ5)) else (jj_b2 (f_Queues_isFullq n S SD F σ5 a1) (fun r8 σ7 => if r8 = 0 then (jj_b2 (f_Packets_isFull n S SD F σ7) (fun r10 σ9 => if r10 = 0 then (jj_b2 (f_Packets_add n S SD F σ9 a1 a2 a3 a4 a5) (fun r12 σ11 => jj_b1 (f_Queues_addq n S SD F σ11 a1 r12) (fun σ13 => some (r12, σ13)))) else (some ((-2 : Int32), σ9)))) else (some ((-2 : Int32), σ7)))))))))

def f_Mesh_hold (n S SD F : Nat) (σ : jj_S) (a1 a2 : Int32) : Option (Int32 × jj_S) :=
  jj_b2 (f_Grid_hasNode n S SD F σ a1) (fun r2 σ1 => if r2 = 0 then (some ((0 : Int32), σ1)) else (jj_ck n a1 (jj_st (jj_up σ1 29 a1.toNatClampNeg (vp_nar .boolean a2)) (fun σ3 => some ((1 : Int32), σ3)))))

def b_Links_arriveAll_7 (n S SD F : Nat) (K : jj_S → Int32 → Option jj_S) (rec : jj_S → Int32 → Option jj_S) (σ : jj_S) (x1 : Int32) : Option jj_S :=
  if (nI S) ≤ x1 then (K σ x1) else (jj_ck S x1 (if (σ 8 x1.toNatClampNeg) = (-1 : Int32) then (jj_ck S x1 (jj_ck S x1 (jj_ck S x1 (jj_st (jj_up σ 7 x1.toNatClampNeg ((σ 7 x1.toNatClampNeg) + (σ 9 x1.toNatClampNeg))) (fun σ2 => jj_ck S x1 (jj_st (jj_up σ2 9 x1.toNatClampNeg (0 : Int32)) (fun σ3 => rec σ3 (x1 + (1 : Int32))))))))) else (jj_ck S x1 (jj_ck S x1 (jj_nz (σ 2 0) (jj_ck S x1 (jj_ck SD ((x1 * (σ 2 0)) + (((σ 5 x1.toNatClampNeg) + (σ 6 x1.toNatClampNeg)) - ((σ 5 x1.toNatClampNeg) + (σ 6 x1.toNatClampNeg)) / (σ 2 0) * (σ 2 0))) (jj_st (jj_up σ 4 ((x1 * (σ 2 0)) + (((σ 5 x1.toNatClampNeg) + (σ 6 x1.toNatClampNeg)) - ((σ 5 x1.toNatClampNeg) + (σ 6 x1.toNatClampNeg)) / (σ 2 0) * (σ 2 0))).toNatClampNeg (σ 8 x1.toNatClampNeg)) (fun σ4 => jj_ck S x1 (jj_ck S x1 (jj_st (jj_up σ4 6 x1.toNatClampNeg ((σ4 6 x1.toNatClampNeg) + (1 : Int32))) (fun σ5 => jj_ck S x1 (jj_st (jj_up σ5 8 x1.toNatClampNeg (-1 : Int32)) (fun σ6 => jj_ck S x1 (jj_ck S x1 (jj_ck S x1 (jj_st (jj_up σ6 7 x1.toNatClampNeg ((σ6 7 x1.toNatClampNeg) + (σ6 9 x1.toNatClampNeg))) (fun σ7 => jj_ck S x1 (jj_st (jj_up σ7 9 x1.toNatClampNeg (0 : Int32)) (fun σ8 => rec σ8 (x1 + (1 : Int32))))))))))))))))))))))

def f_Links_arriveAll (n S SD F : Nat) (σ : jj_S) : Option jj_S :=
  jj_st (jj_up σ 2 8 (0 : Int32)) (fun σ1 => jj_lp1 (b_Links_arriveAll_7 n S SD F (fun σ9 x1_10 => some σ9)) F σ1 (0 : Int32))

def f_Grid_slot (n S SD F : Nat) (σ : jj_S) (a1 a2 a3 : Int32) : Option (Int32 × jj_S) :=
  some ((((a1 * (6 : Int32)) + a2) * (σ 1 4)) + a3, σ)

def f_Links_firstFlit (n S SD F : Nat) (σ : jj_S) (a1 : Int32) : Option (Int32 × jj_S) :=
  jj_ck S a1 (jj_ck SD ((a1 * (σ 2 0)) + (σ 5 a1.toNatClampNeg)) (some (σ 4 ((a1 * (σ 2 0)) + (σ 5 a1.toNatClampNeg)).toNatClampNeg, σ)))

def f_Packets_isOfReply (n S SD F : Nat) (σ : jj_S) (a0 : Int32) : Option (Int32 × jj_S) :=
  if (a0 &&& (2 : Int32)) = 0 then (some ((0 : Int32), σ)) else (some ((1 : Int32), σ))

def f_Packets_isLast (n S SD F : Nat) (σ : jj_S) (a0 : Int32) : Option (Int32 × jj_S) :=
  if (a0 &&& (1 : Int32)) = 0 then (some ((0 : Int32), σ)) else (some ((1 : Int32), σ))

def f_Queues_isFullp (n S SD F : Nat) (σ : jj_S) (a1 : Int32) : Option (Int32 × jj_S) :=
  jj_ck n a1 (if (σ 26 a1.toNatClampNeg) < (σ 24 1) then (some ((0 : Int32), σ)) else (some ((1 : Int32), σ)))

def f_Ifs_mayTake (n S SD F : Nat) (σ : jj_S) (a1 a2 : Int32) : Option (Int32 × jj_S) :=
  jj_b2 (f_Packets_isOfReply n S SD F σ a2) (fun r2 σ1 => if r2 = 0 then (jj_b2 (f_Packets_isLast n S SD F σ1 a2) (fun r4 σ3 => if r4 = 0 then (some ((1 : Int32), σ3)) else (jj_ck n a1 (if (σ3 29 a1.toNatClampNeg) = 0 then (jj_b2 (f_Queues_isFullp n S SD F σ3 a1) (fun r6 σ5 => if r6 = 0 then (some ((1 : Int32), σ5)) else (some ((0 : Int32), σ5)))) else (some ((0 : Int32), σ3)))))) else (some ((1 : Int32), σ1)))

def f_Links_takeOut (n S SD F : Nat) (σ : jj_S) (a1 : Int32) : Option (Int32 × jj_S) :=
  jj_b2 (f_Links_firstFlit n S SD F σ a1) (fun r2 σ1 => jj_ck S a1 (jj_nz (σ1 2 0) (jj_ck S a1 (jj_st (jj_up σ1 5 a1.toNatClampNeg (((σ1 5 a1.toNatClampNeg) + (1 : Int32)) - ((σ1 5 a1.toNatClampNeg) + (1 : Int32)) / (σ1 2 0) * (σ1 2 0))) (fun σ3 => jj_ck S a1 (jj_ck S a1 (jj_st (jj_up σ3 6 a1.toNatClampNeg ((σ3 6 a1.toNatClampNeg) - (1 : Int32))) (fun σ4 => jj_ck S a1 (jj_ck S (σ4 3 a1.toNatClampNeg) (jj_ck S (σ4 3 a1.toNatClampNeg) (jj_st (jj_up σ4 9 (σ4 3 a1.toNatClampNeg).toNatClampNeg ((σ4 9 (σ4 3 a1.toNatClampNeg).toNatClampNeg) + (1 : Int32))) (fun σ5 => some (r2, σ5)))))))))))))

def f_Packets_number (n S SD F : Nat) (σ : jj_S) (a0 : Int32) : Option (Int32 × jj_S) :=
  jj_nz (4 : Int32) (some (a0 / (4 : Int32), σ))

def f_Ifs_serve (n S SD F : Nat) (σ : jj_S) (a1 a2 : Int32) : Option jj_S :=
  jj_ck 400 a2 (jj_lt ((a1 * (8 : Int32)) + (σ 14 a2.toNatClampNeg)) (fun v3_1 => jj_ck (n * 8) v3_1 (jj_lt (σ 28 v3_1.toNatClampNeg) (fun v4_2 => jj_ck 400 a2 (if (σ 13 a2.toNatClampNeg) = 0 then (jj_ck 400 a2 (jj_st (jj_up σ 15 a2.toNatClampNeg v4_2) (fun σ3 => some σ3))) else (jj_ck 400 a2 (jj_ck (n * 8) v3_1 (jj_st (jj_up σ 28 v3_1.toNatClampNeg (σ 15 a2.toNatClampNeg)) (fun σ4 => jj_ck 400 a2 (jj_st (jj_up σ4 15 a2.toNatClampNeg v4_2) (fun σ5 => some σ5)))))))))))

def f_Queues_addp (n S SD F : Nat) (σ : jj_S) (a1 a2 : Int32) : Option jj_S :=
  jj_ck n a1 (jj_ck (n * 2) ((a1 * (σ 24 1)) + (σ 26 a1.toNatClampNeg)) (jj_st (jj_up σ 25 ((a1 * (σ 24 1)) + (σ 26 a1.toNatClampNeg)).toNatClampNeg a2) (fun σ1 => jj_ck n a1 (jj_ck n a1 (jj_st (jj_up σ1 26 a1.toNatClampNeg ((σ1 26 a1.toNatClampNeg) + (1 : Int32))) (fun σ2 => some σ2))))))

def f_Complete_add (n S SD F : Nat) (σ : jj_S) (a1 a2 : Int32) : Option jj_S :=
  jj_ck 400 (σ 17 2) (jj_st (jj_up σ 18 (σ 17 2).toNatClampNeg a1) (fun σ1 => jj_ck 400 (σ1 17 2) (jj_st (jj_up σ1 19 (σ1 17 2).toNatClampNeg a2) (fun σ2 => jj_st (jj_up σ2 17 2 ((σ2 17 2) + (1 : Int32))) (fun σ3 => some σ3)))))

def f_Ifs_accept (n S SD F : Nat) (σ : jj_S) (a1 a2 a3 : Int32) : Option jj_S :=
  jj_b2 (f_Packets_isLast n S SD F σ a2) (fun r2 σ1 => if r2 = 0 then (some σ1) else (jj_b2 (f_Packets_number n S SD F σ1 a2) (fun r4 σ3 => jj_b2 (f_Packets_isOfReply n S SD F σ3 a2) (fun r6 σ5 => if r6 = 0 then (jj_b1 (f_Ifs_serve n S SD F σ5 a1 r4) (fun σ7 => jj_b1 (f_Queues_addp n S SD F σ7 a1 r4) (fun σ8 => some σ8))) else (jj_b1 (f_Complete_add n S SD F σ5 r4 a3) (fun σ9 => some σ9))))))

def b_Ifs_takeAll_15 (n S SD F : Nat) (K : jj_S → Int32 → Int32 → Int32 → Option jj_S) (rec : jj_S → Int32 → Int32 → Int32 → Option jj_S) (σ : jj_S) (x1 x2 x3 : Int32) : Option jj_S :=
  if (σ 1 4) ≤ x3 then (K σ x1 x2 x3) else (jj_b2 (f_Grid_slot n S SD F σ x2 (5 : Int32) x3) (fun r2 σ1 => jj_ck S r2 (if (σ1 6 r2.toNatClampNeg) ≤ 0 then (rec σ1 x1 x2 (x3 + (1 : Int32))) else (jj_b2 (f_Links_firstFlit n S SD F σ1 r2) (fun r4 σ3 => jj_b2 (f_Ifs_mayTake n S SD F σ3 x2 r4) (fun r6 σ5 => if r6 = 0 then (rec σ5 x1 x2 (x3 + (1 : Int32))) else (jj_b2 (f_Links_takeOut n S SD F σ5 r2) (fun r8 σ7 => jj_b1 (f_Ifs_accept n S SD F σ7 x2 r8 x1) (fun σ9 => rec σ9 x1 x2 (x3 + (1 : Int32)))))))))))

def b_Ifs_takeAll_2 (n S SD F : Nat) (K : jj_S → Int32 → Int32 → Option jj_S) (rec : jj_S → Int32 → Int32 → Option jj_S) (σ : jj_S) (x1 x2 : Int32) : Option jj_S :=
  if (σ 1 5) ≤ x2 then (K σ x1 x2) else (jj_lp3 (b_Ifs_takeAll_15 n S SD F (fun σ10 x1_11 x2_12 x3_13 => rec σ10 x1_11 (x2_12 + (1 : Int32)))) F σ x1 x2 (0 : Int32))

def f_Ifs_takeAll (n S SD F : Nat) (σ : jj_S) (a1 : Int32) : Option jj_S :=
  jj_lp2 (b_Ifs_takeAll_2 n S SD F (fun σ14 x1_15 x2_16 => some σ14)) F σ a1 (0 : Int32)

def f_Queues_firstNumberp (n S SD F : Nat) (σ : jj_S) (a1 : Int32) : Option (Int32 × jj_S) :=
  jj_ck (n * 2) (a1 * (σ 24 1)) (some (σ 25 (a1 * (σ 24 1)).toNatClampNeg, σ))

def f_Packets_channel (n S SD F : Nat) (σ : jj_S) (a1 a2 : Int32) : Option (Int32 × jj_S) :=
  jj_ck 400 a1 (jj_ck 400 a1 (jj_nz (σ 1 3) (jj_lt (((σ 11 a1.toNatClampNeg) + (σ 12 a1.toNatClampNeg)) - ((σ 11 a1.toNatClampNeg) + (σ 12 a1.toNatClampNeg)) / (σ 1 3) * (σ 1 3)) (fun v3_1 => if a2 = 0 then (some (v3_1, σ)) else (some (v3_1 + (σ 1 3), σ))))))

def f_Packets_length (n S SD F : Nat) (σ : jj_S) (a1 a2 : Int32) : Option (Int32 × jj_S) :=
  jj_ck 400 a1 (if (σ 13 a1.toNatClampNeg) = 0 then (some ((2 : Int32), σ)) else (if a2 = 0 then (some ((3 : Int32), σ)) else (some ((1 : Int32), σ))))

def f_Packets_flit (n S SD F : Nat) (σ : jj_S) (a0 a1 a2 : Int32) : Option (Int32 × jj_S) :=
  if a1 = 0 then (if a2 = 0 then (some ((((4 : Int32) * a0) + (0 : Int32)) + (0 : Int32), σ)) else (some ((((4 : Int32) * a0) + (0 : Int32)) + (1 : Int32), σ))) else (if a2 = 0 then (some ((((4 : Int32) * a0) + (2 : Int32)) + (0 : Int32), σ)) else (some ((((4 : Int32) * a0) + (2 : Int32)) + (1 : Int32), σ)))

def f_Links_send (n S SD F : Nat) (σ : jj_S) (a1 a2 : Int32) : Option jj_S :=
  jj_ck S a1 (jj_ck S a1 (jj_st (jj_up σ 7 a1.toNatClampNeg ((σ 7 a1.toNatClampNeg) - (1 : Int32))) (fun σ1 => jj_ck S a1 (jj_ck S (σ1 3 a1.toNatClampNeg) (jj_st (jj_up σ1 8 (σ1 3 a1.toNatClampNeg).toNatClampNeg a2) (fun σ2 => jj_st (jj_up σ2 2 8 ((σ2 2 8) + (1 : Int32))) (fun σ3 => some σ3)))))))

def b_Queues_removeFirstp_9 (n S SD F : Nat) (K : jj_S → Int32 → Int32 → Int32 → Option jj_S) (rec : jj_S → Int32 → Int32 → Int32 → Option jj_S) (σ : jj_S) (x1 x2 x3 : Int32) : Option jj_S :=
  jj_ck n x1 (if (σ 26 x1.toNatClampNeg) ≤ x3 then (K σ x1 x2 x3) else (jj_ck (n * 2) (x2 + x3) (jj_ck (n * 2) ((x2 + x3) - (1 : Int32)) (jj_st (jj_up σ 25 ((x2 + x3) - (1 : Int32)).toNatClampNeg (σ 25 (x2 + x3).toNatClampNeg)) (fun σ2 => rec σ2 x1 x2 (x3 + (1 : Int32)))))))

def f_Queues_removeFirstp (n S SD F : Nat) (σ : jj_S) (a1 : Int32) : Option jj_S :=
  jj_lt (a1 * (σ 24 1)) (fun v2_1 => jj_lp3 (b_Queues_removeFirstp_9 n S SD F (fun σ3 x1_4 x2_5 x3_6 => jj_ck n x1_4 (jj_ck n x1_4 (jj_st (jj_up σ3 26 x1_4.toNatClampNeg ((σ3 26 x1_4.toNatClampNeg) - (1 : Int32))) (fun σ7 => jj_ck n x1_4 (jj_st (jj_up σ7 27 x1_4.toNatClampNeg (0 : Int32)) (fun σ8 => some σ8))))))) F σ a1 v2_1 (1 : Int32))

def f_Ifs_sendFirstp (n S SD F : Nat) (σ : jj_S) (a1 : Int32) : Option (Int32 × jj_S) :=
  jj_ck n a1 (if (σ 26 a1.toNatClampNeg) = 0 then (some ((0 : Int32), σ)) else (jj_b2 (f_Queues_firstNumberp n S SD F σ a1) (fun r2 σ1 => jj_b2 (f_Packets_channel n S SD F σ1 r2 (σ1 24 0)) (fun r4 σ3 => jj_b2 (f_Grid_slot n S SD F σ3 a1 (5 : Int32) r4) (fun r6 σ5 => jj_ck S r6 (if (σ5 7 r6.toNatClampNeg) = 0 then (some ((0 : Int32), σ5)) else (jj_ck n a1 (jj_ck n a1 (jj_st (jj_up σ5 27 a1.toNatClampNeg ((σ5 27 a1.toNatClampNeg) + (1 : Int32))) (fun σ7 => jj_ck n a1 (jj_b2 (f_Packets_length n S SD F σ7 r2 (σ7 24 0)) (fun r9 σ8 => if (σ7 27 a1.toNatClampNeg) = r9 then (jj_b2 (f_Packets_flit n S SD F σ8 r2 (σ8 24 0) (1 : Int32)) (fun r14 σ13 => jj_b1 (f_Links_send n S SD F σ13 r6 r14) (fun σ15 => jj_b1 (f_Queues_removeFirstp n S SD F σ15 a1) (fun σ16 => some ((1 : Int32), σ16))))) else (jj_b2 (f_Packets_flit n S SD F σ8 r2 (σ8 24 0) (0 : Int32)) (fun r11 σ10 => jj_b1 (f_Links_send n S SD F σ10 r6 r11) (fun σ12 => some ((1 : Int32), σ12))))))))))))))))

def f_Queues_firstNumberq (n S SD F : Nat) (σ : jj_S) (a1 : Int32) : Option (Int32 × jj_S) :=
  jj_ck (n * 4) (a1 * (σ 20 1)) (some (σ 21 (a1 * (σ 20 1)).toNatClampNeg, σ))

def b_Queues_removeFirstq_9 (n S SD F : Nat) (K : jj_S → Int32 → Int32 → Int32 → Option jj_S) (rec : jj_S → Int32 → Int32 → Int32 → Option jj_S) (σ : jj_S) (x1 x2 x3 : Int32) : Option jj_S :=
  jj_ck n x1 (if (σ 22 x1.toNatClampNeg) ≤ x3 then (K σ x1 x2 x3) else (jj_ck (n * 4) (x2 + x3) (jj_ck (n * 4) ((x2 + x3) - (1 : Int32)) (jj_st (jj_up σ 21 ((x2 + x3) - (1 : Int32)).toNatClampNeg (σ 21 (x2 + x3).toNatClampNeg)) (fun σ2 => rec σ2 x1 x2 (x3 + (1 : Int32)))))))

def f_Queues_removeFirstq (n S SD F : Nat) (σ : jj_S) (a1 : Int32) : Option jj_S :=
  jj_lt (a1 * (σ 20 1)) (fun v2_1 => jj_lp3 (b_Queues_removeFirstq_9 n S SD F (fun σ3 x1_4 x2_5 x3_6 => jj_ck n x1_4 (jj_ck n x1_4 (jj_st (jj_up σ3 22 x1_4.toNatClampNeg ((σ3 22 x1_4.toNatClampNeg) - (1 : Int32))) (fun σ7 => jj_ck n x1_4 (jj_st (jj_up σ7 23 x1_4.toNatClampNeg (0 : Int32)) (fun σ8 => some σ8))))))) F σ a1 v2_1 (1 : Int32))

def f_Ifs_sendFirstq (n S SD F : Nat) (σ : jj_S) (a1 : Int32) : Option (Int32 × jj_S) :=
  jj_ck n a1 (if (σ 22 a1.toNatClampNeg) = 0 then (some ((0 : Int32), σ)) else (jj_b2 (f_Queues_firstNumberq n S SD F σ a1) (fun r2 σ1 => jj_b2 (f_Packets_channel n S SD F σ1 r2 (σ1 20 0)) (fun r4 σ3 => jj_b2 (f_Grid_slot n S SD F σ3 a1 (5 : Int32) r4) (fun r6 σ5 => jj_ck S r6 (if (σ5 7 r6.toNatClampNeg) = 0 then (some ((0 : Int32), σ5)) else (jj_ck n a1 (jj_ck n a1 (jj_st (jj_up σ5 23 a1.toNatClampNeg ((σ5 23 a1.toNatClampNeg) + (1 : Int32))) (fun σ7 => jj_ck n a1 (jj_b2 (f_Packets_length n S SD F σ7 r2 (σ7 20 0)) (fun r9 σ8 => if (σ7 23 a1.toNatClampNeg) = r9 then (jj_b2 (f_Packets_flit n S SD F σ8 r2 (σ8 20 0) (1 : Int32)) (fun r14 σ13 => jj_b1 (f_Links_send n S SD F σ13 r6 r14) (fun σ15 => jj_b1 (f_Queues_removeFirstq n S SD F σ15 a1) (fun σ16 => some ((1 : Int32), σ16))))) else (jj_b2 (f_Packets_flit n S SD F σ8 r2 (σ8 20 0) (0 : Int32)) (fun r11 σ10 => jj_b1 (f_Links_send n S SD F σ10 r6 r11) (fun σ12 => some ((1 : Int32), σ12))))))))))))))))

def b_Ifs_sendAll_2 (n S SD F : Nat) (K : jj_S → Int32 → Option jj_S) (rec : jj_S → Int32 → Option jj_S) (σ : jj_S) (x1 : Int32) : Option jj_S :=
  if (σ 1 5) ≤ x1 then (K σ x1) else (jj_b2 (f_Ifs_sendFirstp n S SD F σ x1) (fun r2 σ1 => if r2 = 0 then (jj_b2 (f_Ifs_sendFirstq n S SD F σ1 x1) (fun r4 σ3 => rec σ3 (x1 + (1 : Int32)))) else (rec σ1 (x1 + (1 : Int32)))))

def f_Ifs_sendAll (n S SD F : Nat) (σ : jj_S) : Option jj_S :=
  jj_lp1 (b_Ifs_sendAll_2 n S SD F (fun σ5 x1_6 => some σ5)) F σ (0 : Int32)

def f_Routers_isReady (n S SD F : Nat) (σ : jj_S) (a1 a2 a3 : Int32) : Option (Int32 × jj_S) :=
  jj_b2 (f_Grid_slot n S SD F σ a1 a2 a3) (fun r2 σ1 => jj_ck S r2 (if (σ1 6 r2.toNatClampNeg) ≤ 0 then (some ((0 : Int32), σ1)) else (jj_ck S r2 (if (σ1 32 r2.toNatClampNeg) = (2 : Int32) then (jj_ck S r2 (jj_b2 (f_Grid_slot n S SD F σ1 a1 (σ1 33 r2.toNatClampNeg) a3) (fun r4 σ3 => jj_ck S r4 (if (σ3 7 r4.toNatClampNeg) ≤ 0 then (some ((0 : Int32), σ3)) else (some ((1 : Int32), σ3)))))) else (some ((0 : Int32), σ1))))))

def b_Routers_readyChannel_14 (n S SD F : Nat) (K : jj_S → Int32 → Int32 → Int32 → Int32 → Option (Int32 × jj_S)) (rec : jj_S → Int32 → Int32 → Int32 → Int32 → Option (Int32 × jj_S)) (σ : jj_S) (x1 x2 x3 x4 : Int32) : Option (Int32 × jj_S) :=
  if (σ 1 4) ≤ x4 then (K σ x1 x2 x3 x4) else (jj_nz (σ 1 4) (jj_lt ((x3 + x4) - (x3 + x4) / (σ 1 4) * (σ 1 4)) (fun v5_2 => jj_b2 (f_Routers_isReady n S SD F σ x1 x2 v5_2) (fun r4 σ3 => if r4 = 0 then (rec σ3 x1 x2 x3 (x4 + (1 : Int32))) else (some (v5_2, σ3))))))

def f_Routers_readyChannel (n S SD F : Nat) (σ : jj_S) (a1 a2 : Int32) : Option (Int32 × jj_S) :=
  jj_ck (n * 5) ((a1 * (5 : Int32)) + a2) (jj_lt (σ 36 ((a1 * (5 : Int32)) + a2).toNatClampNeg) (fun v3_1 => jj_lp4 (b_Routers_readyChannel_14 n S SD F (fun σ5 x1_6 x2_7 x3_8 x4_9 => some ((-1 : Int32), σ5))) F σ a1 a2 v3_1 (0 : Int32)))

def b_Routers_chosenPort_14 (n S SD F : Nat) (K : jj_S → Int32 → Int32 → Int32 → Int32 → Option (Int32 × jj_S)) (rec : jj_S → Int32 → Int32 → Int32 → Int32 → Option (Int32 × jj_S)) (σ : jj_S) (x1 x2 x3 x4 : Int32) : Option (Int32 × jj_S) :=
  if (5 : Int32) ≤ x4 then (K σ x1 x2 x3 x4) else (jj_nz (5 : Int32) (jj_lt ((x3 + x4) - (x3 + x4) / (5 : Int32) * (5 : Int32)) (fun v5_2 => jj_ck 5 v5_2 (if (σ 31 v5_2.toNatClampNeg) = (-1 : Int32) then (rec σ x1 x2 x3 (x4 + (1 : Int32))) else (jj_ck 5 v5_2 (jj_b2 (f_Grid_slot n S SD F σ x1 v5_2 (σ 31 v5_2.toNatClampNeg)) (fun r4 σ3 => jj_ck S r4 (if (σ3 33 r4.toNatClampNeg) = x2 then (some (v5_2, σ3)) else (rec σ3 x1 x2 x3 (x4 + (1 : Int32)))))))))))

def f_Routers_chosenPort (n S SD F : Nat) (σ : jj_S) (a1 a2 : Int32) : Option (Int32 × jj_S) :=
  jj_ck (n * 5) ((a1 * (5 : Int32)) + a2) (jj_lt (σ 37 ((a1 * (5 : Int32)) + a2).toNatClampNeg) (fun v3_1 => jj_lp4 (b_Routers_chosenPort_14 n S SD F (fun σ5 x1_6 x2_7 x3_8 x4_9 => some ((-1 : Int32), σ5))) F σ a1 a2 v3_1 (0 : Int32)))

def f_Routers_move (n S SD F : Nat) (σ : jj_S) (a1 a2 a3 : Int32) : Option jj_S :=
  jj_ck 5 a2 (jj_lt (σ 31 a2.toNatClampNeg) (fun v4_1 => jj_b2 (f_Grid_slot n S SD F σ a1 a2 v4_1) (fun r3 σ2 => jj_b2 (f_Grid_slot n S SD F σ2 a1 a3 v4_1) (fun r5 σ4 => jj_b2 (f_Links_takeOut n S SD F σ4 r3) (fun r7 σ6 => jj_b1 (f_Links_send n S SD F σ6 r5 r7) (fun σ8 => jj_nz (5 : Int32) (jj_ck (n * 5) ((a1 * (5 : Int32)) + a3) (jj_st (jj_up σ8 37 ((a1 * (5 : Int32)) + a3).toNatClampNeg ((a2 + (1 : Int32)) - (a2 + (1 : Int32)) / (5 : Int32) * (5 : Int32))) (fun σ9 => jj_nz (σ9 1 4) (jj_ck (n * 5) ((a1 * (5 : Int32)) + a2) (jj_st (jj_up σ9 36 ((a1 * (5 : Int32)) + a2).toNatClampNeg ((v4_1 + (1 : Int32)) - (v4_1 + (1 : Int32)) / (σ9 1 4) * (σ9 1 4))) (fun σ10 => jj_b2 (f_Packets_isLast n S SD F σ10 r7) (fun r12 σ11 => if r12 = 0 then (some σ11) else (jj_ck S r5 (jj_st (jj_up σ11 34 r5.toNatClampNeg (vp_nar .boolean (0 : Int32))) (fun σ13 => jj_ck S r3 (jj_st (jj_up σ13 32 r3.toNatClampNeg (0 : Int32)) (fun σ14 => some σ14))))))))))))))))))

def b_Routers_moveAll_15 (n S SD F : Nat) (K : jj_S → Int32 → Int32 → Option jj_S) (rec : jj_S → Int32 → Int32 → Option jj_S) (σ : jj_S) (x1 x2 : Int32) : Option jj_S :=
  if (5 : Int32) ≤ x2 then (K σ x1 x2) else (jj_b2 (f_Routers_readyChannel n S SD F σ x1 x2) (fun r2 σ1 => jj_ck 5 x2 (jj_st (jj_up σ1 31 x2.toNatClampNeg r2) (fun σ3 => rec σ3 x1 (x2 + (1 : Int32))))))

def b_Routers_moveAll_40 (n S SD F : Nat) (K : jj_S → Int32 → Int32 → Option jj_S) (rec : jj_S → Int32 → Int32 → Option jj_S) (σ : jj_S) (x1 x2 : Int32) : Option jj_S :=
  if (5 : Int32) ≤ x2 then (K σ x1 x2) else (jj_b2 (f_Routers_chosenPort n S SD F σ x1 x2) (fun r8 σ7 => if r8 = (-1 : Int32) then (rec σ7 x1 (x2 + (1 : Int32))) else (jj_b1 (f_Routers_move n S SD F σ7 x1 r8 x2) (fun σ9 => rec σ9 x1 (x2 + (1 : Int32))))))

def b_Routers_moveAll_2 (n S SD F : Nat) (K : jj_S → Int32 → Option jj_S) (rec : jj_S → Int32 → Option jj_S) (σ : jj_S) (x1 : Int32) : Option jj_S :=
  if (σ 1 5) ≤ x1 then (K σ x1) else (jj_lp2 (b_Routers_moveAll_15 n S SD F (fun σ4 x1_5 x2_6 => jj_lp2 (b_Routers_moveAll_40 n S SD F (fun σ10 x1_11 x2_12 => rec σ10 (x1_11 + (1 : Int32)))) F σ4 x1_5 (0 : Int32))) F σ x1 (0 : Int32))

def f_Routers_moveAll (n S SD F : Nat) (σ : jj_S) : Option jj_S :=
  jj_lp1 (b_Routers_moveAll_2 n S SD F (fun σ13 x1_14 => some σ13)) F σ (0 : Int32)

def b_Routers_grantIfFree_35 (n S SD F : Nat) (K : jj_S → Int32 → Int32 → Int32 → Int32 → Int32 → Int32 → Option jj_S) (rec : jj_S → Int32 → Int32 → Int32 → Int32 → Int32 → Int32 → Option jj_S) (σ : jj_S) (x1 x2 x3 x4 x5 x6 : Int32) : Option jj_S :=
  if (5 : Int32) ≤ x6 then (K σ x1 x2 x3 x4 x5 x6) else (jj_nz (5 : Int32) (jj_lt ((x5 + x6) - (x5 + x6) / (5 : Int32) * (5 : Int32)) (fun v7_4 => jj_b2 (f_Grid_slot n S SD F σ x1 v7_4 x3) (fun r6 σ5 => jj_ck S r6 (if (σ5 32 r6.toNatClampNeg) = (1 : Int32) then (jj_ck S r6 (if (σ5 33 r6.toNatClampNeg) = x2 then (jj_ck S x4 (jj_st (jj_up σ5 34 x4.toNatClampNeg (vp_nar .boolean (1 : Int32))) (fun σ7 => jj_ck S r6 (jj_st (jj_up σ7 32 r6.toNatClampNeg (2 : Int32)) (fun σ8 => jj_nz (5 : Int32) (jj_ck S x4 (jj_st (jj_up σ8 35 x4.toNatClampNeg ((v7_4 + (1 : Int32)) - (v7_4 + (1 : Int32)) / (5 : Int32) * (5 : Int32))) (fun σ9 => some σ9)))))))) else (rec σ5 x1 x2 x3 x4 x5 (x6 + (1 : Int32))))) else (rec σ5 x1 x2 x3 x4 x5 (x6 + (1 : Int32))))))))

def f_Routers_grantIfFree (n S SD F : Nat) (σ : jj_S) (a1 a2 a3 : Int32) : Option jj_S :=
  jj_b2 (f_Grid_slot n S SD F σ a1 a2 a3) (fun r2 σ1 => jj_ck S r2 (if (σ1 34 r2.toNatClampNeg) = 0 then (jj_ck S r2 (jj_lt (σ1 35 r2.toNatClampNeg) (fun v5_3 => jj_lp6 (b_Routers_grantIfFree_35 n S SD F (fun σ10 x1_11 x2_12 x3_13 x4_14 x5_15 x6_16 => some σ10)) F σ1 a1 a2 a3 r2 v5_3 (0 : Int32)))) else (some σ1)))

def b_Routers_grantAll_22 (n S SD F : Nat) (K : jj_S → Int32 → Int32 → Int32 → Option jj_S) (rec : jj_S → Int32 → Int32 → Int32 → Option jj_S) (σ : jj_S) (x1 x2 x3 : Int32) : Option jj_S :=
  if (σ 1 4) ≤ x3 then (K σ x1 x2 x3) else (jj_b2 (f_Grid_slot n S SD F σ x1 x2 x3) (fun r2 σ1 => jj_ck S r2 (if (σ1 32 r2.toNatClampNeg) = (1 : Int32) then (jj_ck S r2 (jj_b1 (f_Routers_grantIfFree n S SD F σ1 x1 (σ1 33 r2.toNatClampNeg) x3) (fun σ3 => rec σ3 x1 x2 (x3 + (1 : Int32))))) else (rec σ1 x1 x2 (x3 + (1 : Int32))))))

def b_Routers_grantAll_15 (n S SD F : Nat) (K : jj_S → Int32 → Int32 → Option jj_S) (rec : jj_S → Int32 → Int32 → Option jj_S) (σ : jj_S) (x1 x2 : Int32) : Option jj_S :=
  if (5 : Int32) ≤ x2 then (K σ x1 x2) else (jj_lp3 (b_Routers_grantAll_22 n S SD F (fun σ4 x1_5 x2_6 x3_7 => rec σ4 x1_5 (x2_6 + (1 : Int32)))) F σ x1 x2 (0 : Int32))

def b_Routers_grantAll_2 (n S SD F : Nat) (K : jj_S → Int32 → Option jj_S) (rec : jj_S → Int32 → Option jj_S) (σ : jj_S) (x1 : Int32) : Option jj_S :=
  if (σ 1 5) ≤ x1 then (K σ x1) else (jj_lp2 (b_Routers_grantAll_15 n S SD F (fun σ8 x1_9 x2_10 => rec σ8 (x1_9 + (1 : Int32)))) F σ x1 (0 : Int32))

def f_Routers_grantAll (n S SD F : Nat) (σ : jj_S) : Option jj_S :=
  jj_lp1 (b_Routers_grantAll_2 n S SD F (fun σ11 x1_12 => some σ11)) F σ (0 : Int32)

def f_Packets_goal (n S SD F : Nat) (σ : jj_S) (a1 : Int32) : Option (Int32 × jj_S) :=
  jj_b2 (f_Packets_isOfReply n S SD F σ a1) (fun r2 σ1 => if r2 = 0 then (jj_b2 (f_Packets_number n S SD F σ1 a1) (fun r4 σ3 => jj_ck 400 r4 (some (σ3 12 r4.toNatClampNeg, σ3)))) else (jj_b2 (f_Packets_number n S SD F σ1 a1) (fun r6 σ5 => jj_ck 400 r6 (some (σ5 11 r6.toNatClampNeg, σ5)))))

def f_Grid_column (n S SD F : Nat) (σ : jj_S) (a1 : Int32) : Option (Int32 × jj_S) :=
  jj_nz (σ 1 0) (some (a1 - a1 / (σ 1 0) * (σ 1 0), σ))

def f_Grid_row (n S SD F : Nat) (σ : jj_S) (a1 : Int32) : Option (Int32 × jj_S) :=
  jj_nz (σ 1 0) (some (a1 / (σ 1 0), σ))

def f_Routers_wayTo (n S SD F : Nat) (σ : jj_S) (a1 a2 : Int32) : Option (Int32 × jj_S) :=
  jj_b2 (f_Grid_column n S SD F σ a2) (fun r2 σ1 => jj_b2 (f_Grid_column n S SD F σ1 a1) (fun r4 σ3 => jj_lt (r2 - r4) (fun v3_5 => if v3_5 = 0 then (jj_b2 (f_Grid_row n S SD F σ3 a2) (fun r7 σ6 => jj_b2 (f_Grid_row n S SD F σ6 a1) (fun r9 σ8 => jj_lt (r7 - r9) (fun v4_10 => if v4_10 = 0 then (some ((0 : Int32), σ8)) else (if v4_10 ≤ 0 then (some ((4 : Int32), σ8)) else (some ((3 : Int32), σ8))))))) else (if v3_5 ≤ 0 then (some ((2 : Int32), σ3)) else (some ((1 : Int32), σ3))))))

def b_Routers_routeAll_22 (n S SD F : Nat) (K : jj_S → Int32 → Int32 → Int32 → Option jj_S) (rec : jj_S → Int32 → Int32 → Int32 → Option jj_S) (σ : jj_S) (x1 x2 x3 : Int32) : Option jj_S :=
  if (σ 1 4) ≤ x3 then (K σ x1 x2 x3) else (jj_b2 (f_Grid_slot n S SD F σ x1 x2 x3) (fun r2 σ1 => jj_ck S r2 (if (σ1 32 r2.toNatClampNeg) = 0 then (jj_ck S r2 (if (σ1 6 r2.toNatClampNeg) ≤ 0 then (rec σ1 x1 x2 (x3 + (1 : Int32))) else (jj_b2 (f_Links_firstFlit n S SD F σ1 r2) (fun r4 σ3 => jj_b2 (f_Packets_goal n S SD F σ3 r4) (fun r6 σ5 => jj_b2 (f_Routers_wayTo n S SD F σ5 x1 r6) (fun r8 σ7 => jj_ck S r2 (jj_st (jj_up σ7 33 r2.toNatClampNeg r8) (fun σ9 => jj_ck S r2 (jj_st (jj_up σ9 32 r2.toNatClampNeg (1 : Int32)) (fun σ10 => rec σ10 x1 x2 (x3 + (1 : Int32)))))))))))) else (rec σ1 x1 x2 (x3 + (1 : Int32))))))

def b_Routers_routeAll_15 (n S SD F : Nat) (K : jj_S → Int32 → Int32 → Option jj_S) (rec : jj_S → Int32 → Int32 → Option jj_S) (σ : jj_S) (x1 x2 : Int32) : Option jj_S :=
  if (5 : Int32) ≤ x2 then (K σ x1 x2) else (jj_lp3 (b_Routers_routeAll_22 n S SD F (fun σ11 x1_12 x2_13 x3_14 => rec σ11 x1_12 (x2_13 + (1 : Int32)))) F σ x1 x2 (0 : Int32))

def b_Routers_routeAll_2 (n S SD F : Nat) (K : jj_S → Int32 → Option jj_S) (rec : jj_S → Int32 → Option jj_S) (σ : jj_S) (x1 : Int32) : Option jj_S :=
  if (σ 1 5) ≤ x1 then (K σ x1) else (jj_lp2 (b_Routers_routeAll_15 n S SD F (fun σ15 x1_16 x2_17 => rec σ15 (x1_16 + (1 : Int32)))) F σ x1 (0 : Int32))

def f_Routers_routeAll (n S SD F : Nat) (σ : jj_S) : Option jj_S :=
  jj_lp1 (b_Routers_routeAll_2 n S SD F (fun σ18 x1_19 => some σ18)) F σ (0 : Int32)

def f_Mesh_tick (n S SD F : Nat) (σ : jj_S) : Option jj_S :=
  jj_st (jj_up σ 0 5 ((σ 0 5) + (1 : Int32))) (fun σ1 => jj_b1 (f_Links_arriveAll n S SD F σ1) (fun σ2 => jj_b1 (f_Ifs_takeAll n S SD F σ2 (σ2 0 5)) (fun σ3 => jj_b1 (f_Ifs_sendAll n S SD F σ3) (fun σ4 => jj_b1 (f_Routers_moveAll n S SD F σ4) (fun σ5 => jj_b1 (f_Routers_grantAll n S SD F σ5) (fun σ6 => jj_b1 (f_Routers_routeAll n S SD F σ6) (fun σ7 => some σ7)))))))

def b_Mesh_run_25 (n S SD F : Nat) (K : jj_S → Int32 → Int32 → Int32 → Option (Int32 × jj_S)) (rec : jj_S → Int32 → Int32 → Int32 → Option (Int32 × jj_S)) (σ : jj_S) (x1 x2 x3 : Int32) : Option (Int32 × jj_S) :=
  if x1 ≤ x3 then (K σ x1 x2 x3) else (jj_b1 (f_Mesh_tick n S SD F σ) (fun σ2 => rec σ2 x1 x2 (x3 + (1 : Int32))))

def f_Mesh_run (n S SD F : Nat) (σ : jj_S) (a1 : Int32) : Option (Int32 × jj_S) :=
  if a1 < 0 then (some ((-1 : Int32), σ)) else (if a1 ≤ (60 : Int32) then (jj_lt (σ 17 2) (fun v2_1 => jj_lp3 (b_Mesh_run_25 n S SD F (fun σ3 x1_4 x2_5 x3_6 => some ((σ3 17 2) - x2_5, σ3))) F σ a1 v2_1 (0 : Int32))) else (some ((-1 : Int32), σ)))

def f_Mesh_ticks (n S SD F : Nat) (σ : jj_S) : Option (Int32 × jj_S) :=
  some (σ 0 5, σ)

def f_Mesh_replies (n S SD F : Nat) (σ : jj_S) : Option (Int32 × jj_S) :=
  some (σ 17 2, σ)

def f_Mesh_reply (n S SD F : Nat) (σ : jj_S) (a1 a2 : Int32) : Option (Int32 × jj_S) :=
  if a1 < 0 then (some ((-1 : Int32), σ)) else (if a1 < (σ 17 2) then (if a2 = (0 : Int32) then (jj_ck 400 a1 (some (σ 18 a1.toNatClampNeg, σ))) else (if a2 = (1 : Int32) then (jj_ck 400 a1 (jj_ck 400 (σ 18 a1.toNatClampNeg) (some (σ 15 (σ 18 a1.toNatClampNeg).toNatClampNeg, σ)))) else (if a2 = (2 : Int32) then (jj_ck 400 a1 (some (σ 19 a1.toNatClampNeg, σ))) else (some ((-1 : Int32), σ))))) else (some ((-1 : Int32), σ)))

def f_Mesh_memory (n S SD F : Nat) (σ : jj_S) (a1 a2 : Int32) : Option (Int32 × jj_S) :=
  jj_b2 (f_Grid_hasNode n S SD F σ a1) (fun r2 σ1 => if r2 = 0 then (some ((0 : Int32), σ1)) else (jj_b2 (f_Mesh_isWord n S SD F σ1 a2) (fun r4 σ3 => if r4 = 0 then (some ((0 : Int32), σ3)) else (jj_ck (n * 8) ((a1 * (8 : Int32)) + a2) (some (σ3 28 ((a1 * (8 : Int32)) + a2).toNatClampNeg, σ3))))))

def f_Mesh_waiting (n S SD F : Nat) (σ : jj_S) (a1 : Int32) : Option (Int32 × jj_S) :=
  jj_b2 (f_Grid_hasNode n S SD F σ a1) (fun r2 σ1 => if r2 = 0 then (some ((-1 : Int32), σ1)) else (jj_ck n a1 (jj_ck n a1 (some ((σ1 22 a1.toNatClampNeg) + ((8 : Int32) * (σ1 26 a1.toNatClampNeg)), σ1)))))

def f_Grid_hasChannel (n S SD F : Nat) (σ : jj_S) (a1 : Int32) : Option (Int32 × jj_S) :=
  if a1 < 0 then (some ((0 : Int32), σ)) else (if (σ 1 4) ≤ a1 then (some ((0 : Int32), σ)) else (some ((1 : Int32), σ)))

def f_Mesh_isRouterPlace (n S SD F : Nat) (σ : jj_S) (a1 a2 a3 : Int32) : Option (Int32 × jj_S) :=
  jj_b2 (f_Grid_hasNode n S SD F σ a1) (fun r2 σ1 => if r2 = 0 then (some ((0 : Int32), σ1)) else (if a2 < 0 then (some ((0 : Int32), σ1)) else (if (5 : Int32) ≤ a2 then (some ((0 : Int32), σ1)) else (jj_b2 (f_Grid_hasChannel n S SD F σ1 a3) (fun r4 σ3 => if r4 = 0 then (some ((0 : Int32), σ3)) else (some ((1 : Int32), σ3)))))))

def f_Mesh_lane (n S SD F : Nat) (σ : jj_S) (a1 a2 a3 : Int32) : Option (Int32 × jj_S) :=
  jj_b2 (f_Mesh_isRouterPlace n S SD F σ a1 a2 a3) (fun r2 σ1 => if r2 = 0 then (some ((-1 : Int32), σ1)) else (jj_b2 (f_Grid_slot n S SD F σ1 a1 a2 a3) (fun r4 σ3 => jj_ck S r4 (jj_lt (σ3 32 r4.toNatClampNeg) (fun v5_5 => if v5_5 = 0 then (jj_ck S r4 (some (((σ3 6 r4.toNatClampNeg) + ((8 : Int32) * v5_5)) + ((64 : Int32) * (0 : Int32)), σ3))) else (jj_ck S r4 (jj_lt (σ3 33 r4.toNatClampNeg) (fun v6_6 => jj_ck S r4 (some (((σ3 6 r4.toNatClampNeg) + ((8 : Int32) * v5_5)) + ((64 : Int32) * v6_6), σ3))))))))))

def f_Mesh_output (n S SD F : Nat) (σ : jj_S) (a1 a2 a3 : Int32) : Option (Int32 × jj_S) :=
  jj_b2 (f_Mesh_isRouterPlace n S SD F σ a1 a2 a3) (fun r2 σ1 => if r2 = 0 then (some ((-1 : Int32), σ1)) else (jj_b2 (f_Grid_slot n S SD F σ1 a1 a2 a3) (fun r4 σ3 => jj_ck S r4 (jj_ck S r4 (if (σ3 34 r4.toNatClampNeg) = 0 then (some ((σ3 7 r4.toNatClampNeg) + (0 : Int32), σ3)) else (some ((σ3 7 r4.toNatClampNeg) + (8 : Int32), σ3)))))))

def f_Mesh_arrival (n S SD F : Nat) (σ : jj_S) (a1 a2 : Int32) : Option (Int32 × jj_S) :=
  jj_b2 (f_Grid_hasNode n S SD F σ a1) (fun r2 σ1 => if r2 = 0 then (some ((-1 : Int32), σ1)) else (jj_b2 (f_Grid_hasChannel n S SD F σ1 a2) (fun r4 σ3 => if r4 = 0 then (some ((-1 : Int32), σ3)) else (jj_b2 (f_Grid_slot n S SD F σ3 a1 (5 : Int32) a2) (fun r6 σ5 => jj_ck S r6 (jj_ck S r6 (some ((σ5 6 r6.toNatClampNeg) + ((8 : Int32) * (σ5 7 r6.toNatClampNeg)), σ5))))))))

def f_Mesh_sent (n S SD F : Nat) (σ : jj_S) : Option (Int32 × jj_S) :=
  some (σ 2 8, σ)
end
section
set_option maxHeartbeats 4000000 in
set_option maxRecDepth 100000 in
theorem c_Mesh_nodes {l : Launch} {D : va_G} {ad : Nat → Nat} {cA : FieldType → ClassId} {n S SD F : Nat} {σ : jj_S} {z : (Int32 × jj_S)} (ho : f_Mesh_nodes n S SD F σ = some z) : jj_Mi l yX7_nodes (Cond.code yX7_nodes cX7_nodes 1 (some .int) :: jw_t) { frames := 0, cells := 0, slots := 0, locals := 0 } D vwCl ad cA (gc n S SD) [.ref (ad 0)] σ z := by
  refine jj_ofi (cc := cX7_nodes) (nL := 1) (ret := (some .int)) rfl ho (Nat.le_of_ble_eq_true rfl) ?_
  intro p e s m below meth c C hr hlocks
  generalize hA : va_A (jj_w ad cA (gc n S SD) σ) s.heap.size = A at C ⊢
  have hRm : 0 ≤ (headSpec (Cond.code yX7_nodes cX7_nodes 1 (some .int) :: jw_t) { frames := 0, cells := 0, slots := 0, locals := 0 }).room.frames ∧ 0 ≤ (headSpec (Cond.code yX7_nodes cX7_nodes 1 (some .int) :: jw_t) { frames := 0, cells := 0, slots := 0, locals := 0 }).room.locals := ⟨Nat.le_refl _, Nat.le_refl _⟩
  generalize (headSpec (Cond.code yX7_nodes cX7_nodes 1 (some .int) :: jw_t) { frames := 0, cells := 0, slots := 0, locals := 0 }).room = R at C hRm ⊢
  generalize List.toArray ([.ref (ad 0)] : List Value) = args at C ⊢
  refine jj_sub (lv' := [(0, .ref (ad 0))]) [0] rfl ?_
  unfold f_Mesh_nodes
  refine jj_aload_n C 0 dX7_nodes_0 rfl rfl ?_
  refine jj_getr C 0 0 in_Mesh (g_0 n S SD) k_Mesh (by decide) fl_Mesh_12 rfl dX7_nodes_1 ?_
  refine jj_geti C 1 5 in_Grid (g_1 n S SD) k_Grid (by decide) fl_Mesh_50 rfl dX7_nodes_4 ?_
  exact jj_iret C hr hlocks dX7_nodes_7

set_option maxHeartbeats 4000000 in
set_option maxRecDepth 100000 in
theorem c_Grid_hasNode {l : Launch} {D : va_G} {ad : Nat → Nat} {cA : FieldType → ClassId} {n S SD F : Nat} {σ : jj_S} {a1 : Int32} {z : (Int32 × jj_S)} (ho : f_Grid_hasNode n S SD F σ a1 = some z) : jj_Mi l yX1_hasNode (Cond.code yX1_hasNode cX1_hasNode 2 (some .boolean) :: jw_t) { frames := 0, cells := 0, slots := 0, locals := 0 } D vwCl ad cA (gc n S SD) [.ref (ad 1), .int a1] σ z := by
  refine jj_ofi (cc := cX1_hasNode) (nL := 2) (ret := (some .boolean)) rfl ho (Nat.le_of_ble_eq_true rfl) ?_
  intro p e s m below meth c C hr hlocks
  generalize hA : va_A (jj_w ad cA (gc n S SD) σ) s.heap.size = A at C ⊢
  have hRm : 0 ≤ (headSpec (Cond.code yX1_hasNode cX1_hasNode 2 (some .boolean) :: jw_t) { frames := 0, cells := 0, slots := 0, locals := 0 }).room.frames ∧ 0 ≤ (headSpec (Cond.code yX1_hasNode cX1_hasNode 2 (some .boolean) :: jw_t) { frames := 0, cells := 0, slots := 0, locals := 0 }).room.locals := ⟨Nat.le_refl _, Nat.le_refl _⟩
  generalize (headSpec (Cond.code yX1_hasNode cX1_hasNode 2 (some .boolean) :: jw_t) { frames := 0, cells := 0, slots := 0, locals := 0 }).room = R at C hRm ⊢
  generalize List.toArray ([.ref (ad 1), .int a1] : List Value) = args at C ⊢
  refine jj_sub (lv' := [(0, .ref (ad 1)), (1, .int a1)]) [0, 1] rfl ?_
  unfold f_Grid_hasNode
  refine jj_iload_n C 1 dX1_hasNode_0 rfl rfl ?_
  refine jj_if_lt C (tgt := 16) dX1_hasNode_1 (by decide) (fun _ => ?_) (fun _ => ?_)
  · refine jj_iconst C (v := (0 : Int32)) dX1_hasNode_16 (by decide) ?_
    exact jj_zret C hr hlocks (by first | rfl | decide +kernel) dX1_hasNode_17
  · refine jj_iload_n C 1 dX1_hasNode_4 rfl rfl ?_
    refine jj_aload_n C 0 dX1_hasNode_5 rfl rfl ?_
    refine jj_geti C 1 5 in_Grid (g_1 n S SD) k_Grid (by decide) fl_Grid_31 rfl dX1_hasNode_6 ?_
    refine jj_icmp_ge C (tgt := 16) dX1_hasNode_9 (by decide) (fun _ => ?_) (fun _ => ?_)
    · refine jj_iconst C (v := (0 : Int32)) dX1_hasNode_16 (by decide) ?_
      exact jj_zret C hr hlocks (by first | rfl | decide +kernel) dX1_hasNode_17
    · refine jj_iconst C (v := (1 : Int32)) dX1_hasNode_12 (by decide) ?_
      refine jj_goto C (tgt := 17) dX1_hasNode_13 (by decide) ?_
      exact jj_zret C hr hlocks (by first | rfl | decide +kernel) dX1_hasNode_17

set_option maxHeartbeats 4000000 in
set_option maxRecDepth 100000 in
theorem c_Mesh_isWord {l : Launch} {D : va_G} {ad : Nat → Nat} {cA : FieldType → ClassId} {n S SD F : Nat} {σ : jj_S} {a0 : Int32} {z : (Int32 × jj_S)} (ho : f_Mesh_isWord n S SD F σ a0 = some z) : jj_Mi l yX7_isWord (Cond.code yX7_isWord cX7_isWord 1 (some .boolean) :: jw_t) { frames := 0, cells := 0, slots := 0, locals := 0 } D vwCl ad cA (gc n S SD) [.int a0] σ z := by
  refine jj_ofi (cc := cX7_isWord) (nL := 1) (ret := (some .boolean)) rfl ho (Nat.le_of_ble_eq_true rfl) ?_
  intro p e s m below meth c C hr hlocks
  generalize hA : va_A (jj_w ad cA (gc n S SD) σ) s.heap.size = A at C ⊢
  have hRm : 0 ≤ (headSpec (Cond.code yX7_isWord cX7_isWord 1 (some .boolean) :: jw_t) { frames := 0, cells := 0, slots := 0, locals := 0 }).room.frames ∧ 0 ≤ (headSpec (Cond.code yX7_isWord cX7_isWord 1 (some .boolean) :: jw_t) { frames := 0, cells := 0, slots := 0, locals := 0 }).room.locals := ⟨Nat.le_refl _, Nat.le_refl _⟩
  generalize (headSpec (Cond.code yX7_isWord cX7_isWord 1 (some .boolean) :: jw_t) { frames := 0, cells := 0, slots := 0, locals := 0 }).room = R at C hRm ⊢
  generalize List.toArray ([.int a0] : List Value) = args at C ⊢
  refine jj_sub (lv' := [(0, .int a0)]) [0] rfl ?_
  unfold f_Mesh_isWord
  refine jj_iload_n C 0 dX7_isWord_0 rfl rfl ?_
  refine jj_if_lt C (tgt := 14) dX7_isWord_1 (by decide) (fun _ => ?_) (fun _ => ?_)
  · refine jj_iconst C (v := (0 : Int32)) dX7_isWord_14 (by decide) ?_
    exact jj_zret C hr hlocks (by first | rfl | decide +kernel) dX7_isWord_15
  · refine jj_iload_n C 0 dX7_isWord_4 rfl rfl ?_
    refine jj_bipush C (v := (8 : Int32)) dX7_isWord_5 (by decide) ?_
    refine jj_icmp_ge C (tgt := 14) dX7_isWord_7 (by decide) (fun _ => ?_) (fun _ => ?_)
    · refine jj_iconst C (v := (0 : Int32)) dX7_isWord_14 (by decide) ?_
      exact jj_zret C hr hlocks (by first | rfl | decide +kernel) dX7_isWord_15
    · refine jj_iconst C (v := (1 : Int32)) dX7_isWord_10 (by decide) ?_
      refine jj_goto C (tgt := 15) dX7_isWord_11 (by decide) ?_
      exact jj_zret C hr hlocks (by first | rfl | decide +kernel) dX7_isWord_15

set_option maxHeartbeats 4000000 in
set_option maxRecDepth 100000 in
theorem c_Queues_isFullq {l : Launch} {D : va_G} {ad : Nat → Nat} {cA : FieldType → ClassId} {n S SD F : Nat} {σ : jj_S} {a1 : Int32} {z : (Int32 × jj_S)} (ho : f_Queues_isFullq n S SD F σ a1 = some z) : jj_Mi l yX5_isFull (Cond.code yX5_isFull cX5_isFull 2 (some .boolean) :: jw_t) { frames := 0, cells := 0, slots := 0, locals := 0 } D vwCl ad cA (gc n S SD) [.ref (ad 20), .int a1] σ z := by
  refine jj_ofi (cc := cX5_isFull) (nL := 2) (ret := (some .boolean)) rfl ho (Nat.le_of_ble_eq_true rfl) ?_
  intro p e s m below meth c C hr hlocks
  generalize hA : va_A (jj_w ad cA (gc n S SD) σ) s.heap.size = A at C ⊢
  have hRm : 0 ≤ (headSpec (Cond.code yX5_isFull cX5_isFull 2 (some .boolean) :: jw_t) { frames := 0, cells := 0, slots := 0, locals := 0 }).room.frames ∧ 0 ≤ (headSpec (Cond.code yX5_isFull cX5_isFull 2 (some .boolean) :: jw_t) { frames := 0, cells := 0, slots := 0, locals := 0 }).room.locals := ⟨Nat.le_refl _, Nat.le_refl _⟩
  generalize (headSpec (Cond.code yX5_isFull cX5_isFull 2 (some .boolean) :: jw_t) { frames := 0, cells := 0, slots := 0, locals := 0 }).room = R at C hRm ⊢
  generalize List.toArray ([.ref (ad 20), .int a1] : List Value) = args at C ⊢
  refine jj_sub (lv' := [(0, .ref (ad 20)), (1, .int a1)]) [0, 1] rfl ?_
  unfold f_Queues_isFullq
  refine jj_aload_n C 0 dX5_isFull_0 rfl rfl ?_
  refine jj_getr C 20 3 in_Queues (g_20 n S SD) k_Queues (by decide) fl_Queues_21 rfl dX5_isFull_1 ?_
  refine jj_iload_n C 1 dX5_isFull_4 rfl rfl ?_
  refine jj_iald C 22 (g_22 n S SD) dX5_isFull_5 ?_
  refine jj_aload_n C 0 dX5_isFull_6 rfl rfl ?_
  refine jj_geti C 20 1 in_Queues (g_20 n S SD) k_Queues (by decide) fl_Queues_13 rfl dX5_isFull_7 ?_
  refine jj_icmp_lt C (tgt := 17) dX5_isFull_10 (by decide) (fun _ => ?_) (fun _ => ?_)
  · refine jj_iconst C (v := (0 : Int32)) dX5_isFull_17 (by decide) ?_
    exact jj_zret C hr hlocks (by first | rfl | decide +kernel) dX5_isFull_18
  · refine jj_iconst C (v := (1 : Int32)) dX5_isFull_13 (by decide) ?_
    refine jj_goto C (tgt := 18) dX5_isFull_14 (by decide) ?_
    exact jj_zret C hr hlocks (by first | rfl | decide +kernel) dX5_isFull_18

set_option maxHeartbeats 4000000 in
set_option maxRecDepth 100000 in
theorem c_Packets_isFull {l : Launch} {D : va_G} {ad : Nat → Nat} {cA : FieldType → ClassId} {n S SD F : Nat} {σ : jj_S} {z : (Int32 × jj_S)} (ho : f_Packets_isFull n S SD F σ = some z) : jj_Mi l yX4_isFull (Cond.code yX4_isFull cX4_isFull 1 (some .boolean) :: jw_t) { frames := 0, cells := 0, slots := 0, locals := 0 } D vwCl ad cA (gc n S SD) [.ref (ad 10)] σ z := by
  refine jj_ofi (cc := cX4_isFull) (nL := 1) (ret := (some .boolean)) rfl ho (Nat.le_of_ble_eq_true rfl) ?_
  intro p e s m below meth c C hr hlocks
  generalize hA : va_A (jj_w ad cA (gc n S SD) σ) s.heap.size = A at C ⊢
  have hRm : 0 ≤ (headSpec (Cond.code yX4_isFull cX4_isFull 1 (some .boolean) :: jw_t) { frames := 0, cells := 0, slots := 0, locals := 0 }).room.frames ∧ 0 ≤ (headSpec (Cond.code yX4_isFull cX4_isFull 1 (some .boolean) :: jw_t) { frames := 0, cells := 0, slots := 0, locals := 0 }).room.locals := ⟨Nat.le_refl _, Nat.le_refl _⟩
  generalize (headSpec (Cond.code yX4_isFull cX4_isFull 1 (some .boolean) :: jw_t) { frames := 0, cells := 0, slots := 0, locals := 0 }).room = R at C hRm ⊢
  generalize List.toArray ([.ref (ad 10)] : List Value) = args at C ⊢
  refine jj_sub (lv' := [(0, .ref (ad 10))]) [0] rfl ?_
  unfold f_Packets_isFull
  refine jj_aload_n C 0 dX4_isFull_0 rfl rfl ?_
  refine jj_geti C 10 6 in_Packets (g_10 n S SD) k_Packets (by decide) fl_Packets_32 rfl dX4_isFull_1 ?_
  refine jj_sipush C (v := (400 : Int32)) dX4_isFull_4 (by decide) ?_
  refine jj_icmp_lt C (tgt := 14) dX4_isFull_7 (by decide) (fun _ => ?_) (fun _ => ?_)
  · refine jj_iconst C (v := (0 : Int32)) dX4_isFull_14 (by decide) ?_
    exact jj_zret C hr hlocks (by first | rfl | decide +kernel) dX4_isFull_15
  · refine jj_iconst C (v := (1 : Int32)) dX4_isFull_10 (by decide) ?_
    refine jj_goto C (tgt := 15) dX4_isFull_11 (by decide) ?_
    exact jj_zret C hr hlocks (by first | rfl | decide +kernel) dX4_isFull_15

set_option maxHeartbeats 4000000 in
set_option maxRecDepth 100000 in
theorem c_Packets_add {l : Launch} {D : va_G} {ad : Nat → Nat} {cA : FieldType → ClassId} {n S SD F : Nat} {σ : jj_S} {a1 a2 a3 a4 a5 : Int32} {z : (Int32 × jj_S)} (ho : f_Packets_add n S SD F σ a1 a2 a3 a4 a5 = some z) : jj_Mi l yX4_add (Cond.code yX4_add cX4_add 7 (some .int) :: jw_t) { frames := 0, cells := 0, slots := 0, locals := 0 } D vwCl ad cA (gc n S SD) [.ref (ad 10), .int a1, .int a2, .int a3, .int a4, .int a5] σ z := by
  refine jj_ofi (cc := cX4_add) (nL := 7) (ret := (some .int)) rfl ho (Nat.le_of_ble_eq_true rfl) ?_
  intro p e s m below meth c C hr hlocks
  generalize hA : va_A (jj_w ad cA (gc n S SD) σ) s.heap.size = A at C ⊢
  have hRm : 0 ≤ (headSpec (Cond.code yX4_add cX4_add 7 (some .int) :: jw_t) { frames := 0, cells := 0, slots := 0, locals := 0 }).room.frames ∧ 0 ≤ (headSpec (Cond.code yX4_add cX4_add 7 (some .int) :: jw_t) { frames := 0, cells := 0, slots := 0, locals := 0 }).room.locals := ⟨Nat.le_refl _, Nat.le_refl _⟩
  generalize (headSpec (Cond.code yX4_add cX4_add 7 (some .int) :: jw_t) { frames := 0, cells := 0, slots := 0, locals := 0 }).room = R at C hRm ⊢
  generalize List.toArray ([.ref (ad 10), .int a1, .int a2, .int a3, .int a4, .int a5] : List Value) = args at C ⊢
  refine jj_sub (lv' := [(0, .ref (ad 10)), (1, .int a1), (2, .int a2), (3, .int a3), (4, .int a4), (5, .int a5)]) [0, 1, 2, 3, 4, 5] rfl ?_
  unfold f_Packets_add
  refine jj_aload_n C 0 dX4_add_0 rfl rfl ?_
  refine jj_geti C 10 6 in_Packets (g_10 n S SD) k_Packets (by decide) fl_Packets_32 rfl dX4_add_1 ?_
  refine jj_ltn (fun v6_1 => ?_)
  refine jj_istore C [(6, .int v6_1), (0, .ref (ad 10)), (1, .int a1), (2, .int a2), (3, .int a3), (4, .int a4), (5, .int a5)] dX4_add_4 (by decide) rfl ?_
  refine jj_aload_n C 1 dX4_add_6 rfl rfl ?_
  refine jj_getr C 10 1 in_Packets (g_10 n S SD) k_Packets (by decide) fl_Packets_9 rfl dX4_add_7 ?_
  refine jj_iload C 0 dX4_add_10 rfl ?_
  refine jj_iload_n C 2 dX4_add_12 rfl rfl ?_
  refine jj_iast C 11 (g_11 n S SD) dX4_add_13 ?_
  refine jj_stn (fun σ2 => ?_)
  refine jj_aload_n C 1 dX4_add_14 rfl rfl ?_
  refine jj_getr C 10 2 in_Packets (g_10 n S SD) k_Packets (by decide) fl_Packets_15 rfl dX4_add_15 ?_
  refine jj_iload C 0 dX4_add_18 rfl ?_
  refine jj_iload_n C 3 dX4_add_20 rfl rfl ?_
  refine jj_iast C 12 (g_12 n S SD) dX4_add_21 ?_
  refine jj_stn (fun σ3 => ?_)
  refine jj_aload_n C 1 dX4_add_22 rfl rfl ?_
  refine jj_getr C 10 3 in_Packets (g_10 n S SD) k_Packets (by decide) fl_Packets_18 rfl dX4_add_23 ?_
  refine jj_iload C 0 dX4_add_26 rfl ?_
  refine jj_iload_n C 4 dX4_add_28 rfl rfl ?_
  refine jj_zast C 13 (g_13 n S SD) dX4_add_29 ?_
  refine jj_stn (fun σ4 => ?_)
  refine jj_aload_n C 1 dX4_add_30 rfl rfl ?_
  refine jj_getr C 10 4 in_Packets (g_10 n S SD) k_Packets (by decide) fl_Packets_22 rfl dX4_add_31 ?_
  refine jj_iload C 0 dX4_add_34 rfl ?_
  refine jj_iload C 5 dX4_add_36 rfl ?_
  refine jj_iast C 14 (g_14 n S SD) dX4_add_38 ?_
  refine jj_stn (fun σ5 => ?_)
  refine jj_aload_n C 1 dX4_add_39 rfl rfl ?_
  refine jj_getr C 10 5 in_Packets (g_10 n S SD) k_Packets (by decide) fl_Packets_25 rfl dX4_add_40 ?_
  refine jj_iload C 0 dX4_add_43 rfl ?_
  refine jj_iload C 6 dX4_add_45 rfl ?_
  refine jj_iast C 15 (g_15 n S SD) dX4_add_47 ?_
  refine jj_stn (fun σ6 => ?_)
  refine jj_aload_n C 1 dX4_add_48 rfl rfl ?_
  refine jj_dup C dX4_add_49 rfl ?_
  refine jj_geti C 10 6 in_Packets (g_10 n S SD) k_Packets (by decide) fl_Packets_32 rfl dX4_add_50 ?_
  refine jj_iconst C (v := (1 : Int32)) dX4_add_53 (by decide) ?_
  refine jj_iadd C dX4_add_54 ?_
  refine jj_puti C 10 6 in_Packets (g_10 n S SD) k_Packets (by decide) fl_Packets_32 tyX4 tyX4_ok nmX4 rfl (by decide +kernel) rfl dX4_add_55 ?_
  refine jj_stn (fun σ7 => ?_)
  refine jj_iload C 0 dX4_add_58 rfl ?_
  exact jj_iret C hr hlocks dX4_add_60

set_option maxHeartbeats 4000000 in
set_option maxRecDepth 100000 in
theorem c_Queues_addq {l : Launch} {D : va_G} {ad : Nat → Nat} {cA : FieldType → ClassId} {n S SD F : Nat} {σ : jj_S} {a1 a2 : Int32} {z : jj_S} (ho : f_Queues_addq n S SD F σ a1 a2 = some z) : jj_Mv l yX5_add (Cond.code yX5_add cX5_add 3 none :: jw_t) { frames := 0, cells := 0, slots := 0, locals := 0 } D vwCl ad cA (gc n S SD) [.ref (ad 20), .int a1, .int a2] σ z := by
  refine jj_ofv (cc := cX5_add) (nL := 3) (ret := none) rfl ho (Nat.le_of_ble_eq_true rfl) ?_
  intro p e s m below meth c C hr hlocks
  generalize hA : va_A (jj_w ad cA (gc n S SD) σ) s.heap.size = A at C ⊢
  have hRm : 0 ≤ (headSpec (Cond.code yX5_add cX5_add 3 none :: jw_t) { frames := 0, cells := 0, slots := 0, locals := 0 }).room.frames ∧ 0 ≤ (headSpec (Cond.code yX5_add cX5_add 3 none :: jw_t) { frames := 0, cells := 0, slots := 0, locals := 0 }).room.locals := ⟨Nat.le_refl _, Nat.le_refl _⟩
  generalize (headSpec (Cond.code yX5_add cX5_add 3 none :: jw_t) { frames := 0, cells := 0, slots := 0, locals := 0 }).room = R at C hRm ⊢
  generalize List.toArray ([.ref (ad 20), .int a1, .int a2] : List Value) = args at C ⊢
  refine jj_sub (lv' := [(0, .ref (ad 20)), (1, .int a1), (2, .int a2)]) [0, 1, 2] rfl ?_
  unfold f_Queues_addq
  refine jj_aload_n C 0 dX5_add_0 rfl rfl ?_
  refine jj_getr C 20 2 in_Queues (g_20 n S SD) k_Queues (by decide) fl_Queues_17 rfl dX5_add_1 ?_
  refine jj_iload_n C 1 dX5_add_4 rfl rfl ?_
  refine jj_aload_n C 0 dX5_add_5 rfl rfl ?_
  refine jj_geti C 20 1 in_Queues (g_20 n S SD) k_Queues (by decide) fl_Queues_13 rfl dX5_add_6 ?_
  refine jj_imul C dX5_add_9 ?_
  refine jj_aload_n C 0 dX5_add_10 rfl rfl ?_
  refine jj_getr C 20 3 in_Queues (g_20 n S SD) k_Queues (by decide) fl_Queues_21 rfl dX5_add_11 ?_
  refine jj_iload_n C 1 dX5_add_14 rfl rfl ?_
  refine jj_iald C 22 (g_22 n S SD) dX5_add_15 ?_
  refine jj_iadd C dX5_add_16 ?_
  refine jj_iload_n C 2 dX5_add_17 rfl rfl ?_
  refine jj_iast C 21 (g_21 n S SD) dX5_add_18 ?_
  refine jj_stn (fun σ1 => ?_)
  refine jj_aload_n C 0 dX5_add_19 rfl rfl ?_
  refine jj_getr C 20 3 in_Queues (g_20 n S SD) k_Queues (by decide) fl_Queues_21 rfl dX5_add_20 ?_
  refine jj_iload_n C 1 dX5_add_23 rfl rfl ?_
  refine jj_dup2 C dX5_add_24 rfl rfl ?_
  refine jj_iald C 22 (g_22 n S SD) dX5_add_25 ?_
  refine jj_iconst C (v := (1 : Int32)) dX5_add_26 (by decide) ?_
  refine jj_iadd C dX5_add_27 ?_
  refine jj_iast C 22 (g_22 n S SD) dX5_add_28 ?_
  refine jj_stn (fun σ2 => ?_)
  exact jj_vret C hr hlocks dX5_add_29

set_option maxHeartbeats 4000000 in
set_option maxRecDepth 100000 in
theorem c_Mesh_request {l : Launch} {D : va_G} {ad : Nat → Nat} {cA : FieldType → ClassId} {n S SD F : Nat} {σ : jj_S} {a1 a2 a3 a4 a5 : Int32} {z : (Int32 × jj_S)} (ho : f_Mesh_request n S SD F σ a1 a2 a3 a4 a5 = some z) : jj_Mi l yX7_request (Cond.code yX7_request cX7_request 7 (some .int) :: jw_t) { frames := 1, cells := 0, slots := 0, locals := 40 } D vwCl ad cA (gc n S SD) [.ref (ad 0), .int a1, .int a2, .int a3, .int a4, .int a5] σ z := by
  refine jj_ofi (cc := cX7_request) (nL := 7) (ret := (some .int)) rfl ho (Nat.le_of_ble_eq_true rfl) ?_
  intro p e s m below meth c C hr hlocks
  generalize hA : va_A (jj_w ad cA (gc n S SD) σ) s.heap.size = A at C ⊢
  have hRm : 1 ≤ (headSpec (Cond.code yX7_request cX7_request 7 (some .int) :: jw_t) { frames := 1, cells := 0, slots := 0, locals := 40 }).room.frames ∧ 40 ≤ (headSpec (Cond.code yX7_request cX7_request 7 (some .int) :: jw_t) { frames := 1, cells := 0, slots := 0, locals := 40 }).room.locals := ⟨Nat.le_refl _, Nat.le_refl _⟩
  generalize (headSpec (Cond.code yX7_request cX7_request 7 (some .int) :: jw_t) { frames := 1, cells := 0, slots := 0, locals := 40 }).room = R at C hRm ⊢
  generalize List.toArray ([.ref (ad 0), .int a1, .int a2, .int a3, .int a4, .int a5] : List Value) = args at C ⊢
  refine jj_sub (lv' := [(0, .ref (ad 0)), (1, .int a1), (2, .int a2), (3, .int a3), (4, .int a4), (5, .int a5)]) [0, 1, 2, 3, 4, 5] rfl ?_
  unfold f_Mesh_request
  refine jj_aload_n C 0 dX7_request_0 rfl rfl ?_
  refine jj_getr C 0 0 in_Mesh (g_0 n S SD) k_Mesh (by decide) fl_Mesh_12 rfl dX7_request_1 ?_
  refine jj_iload_n C 1 dX7_request_4 rfl rfl ?_
  refine jj_callVi C (As := [.int a1]) (rest := []) (fun z hz => c_Grid_hasNode hz) (q_Mesh_54 C.2.2.2.2.1 (rm := { frames := 0, cells := 0, slots := 0, locals := 0 }) rfl rfl ⟨Nat.le_trans (by decide) hRm.1, Nat.le_trans (by decide) hRm.2⟩) (g_1 n S SD) k_Grid rfl rfl (Nat.le_of_ble_eq_true rfl) dX7_request_5 (fun r2 σ1 _ => ?_)
  refine jj_if_eq C (tgt := 30) dX7_request_8 (by decide) (fun _ => ?_) (fun _ => ?_)
  · refine jj_iconst C (v := (-1 : Int32)) dX7_request_30 (by decide) ?_
    exact jj_iret C hr hlocks dX7_request_31
  · refine jj_aload_n C 0 dX7_request_11 rfl rfl ?_
    refine jj_getr C 0 0 in_Mesh (g_0 n S SD) k_Mesh (by decide) fl_Mesh_12 rfl dX7_request_12 ?_
    refine jj_iload_n C 2 dX7_request_15 rfl rfl ?_
    refine jj_callVi C (As := [.int a2]) (rest := []) (fun z hz => c_Grid_hasNode hz) (q_Mesh_54 C.2.2.2.2.1 (rm := { frames := 0, cells := 0, slots := 0, locals := 0 }) rfl rfl ⟨Nat.le_trans (by decide) hRm.1, Nat.le_trans (by decide) hRm.2⟩) (g_1 n S SD) k_Grid rfl rfl (Nat.le_of_ble_eq_true rfl) dX7_request_16 (fun r4 σ3 _ => ?_)
    refine jj_if_eq C (tgt := 30) dX7_request_19 (by decide) (fun _ => ?_) (fun _ => ?_)
    · refine jj_iconst C (v := (-1 : Int32)) dX7_request_30 (by decide) ?_
      exact jj_iret C hr hlocks dX7_request_31
    · refine jj_iload C 4 dX7_request_22 rfl ?_
      refine jj_callSi C (As := [.int a4]) (rest := []) (fun z hz => c_Mesh_isWord hz) (q_Mesh_58 C.2.2.2.2.1 (rm := { frames := 0, cells := 0, slots := 0, locals := 0 }) rfl rfl ⟨Nat.le_trans (by decide) hRm.1, Nat.le_trans (by decide) hRm.2⟩) rfl rfl (Nat.le_of_ble_eq_true rfl) dX7_request_24 (fun r6 σ5 _ => ?_)
      refine jj_if_ne C (tgt := 32) dX7_request_27 (by decide) (fun _ => ?_) (fun _ => ?_)
      · refine jj_aload_n C 0 dX7_request_32 rfl rfl ?_
        refine jj_getr C 0 3 in_Mesh (g_0 n S SD) k_Mesh (by decide) fl_Mesh_39 rfl dX7_request_33 ?_
        refine jj_getr C 16 3 in_Ifs (g_16 n S SD) k_Ifs (by decide) fl_Mesh_61 rfl dX7_request_36 ?_
        refine jj_iload_n C 1 dX7_request_39 rfl rfl ?_
        refine jj_callVi C (As := [.int a1]) (rest := []) (fun z hz => c_Queues_isFullq hz) (q_Mesh_65 C.2.2.2.2.1 (rm := { frames := 0, cells := 0, slots := 0, locals := 0 }) rfl rfl ⟨Nat.le_trans (by decide) hRm.1, Nat.le_trans (by decide) hRm.2⟩) (g_20 n S SD) k_Queues rfl rfl (Nat.le_of_ble_eq_true rfl) dX7_request_40 (fun r8 σ7 _ => ?_)
        refine jj_if_ne C (tgt := 56) dX7_request_43 (by decide) (fun _ => ?_) (fun _ => ?_)
        · refine jj_bipush C (v := (-2 : Int32)) dX7_request_56 (by decide) ?_
          exact jj_iret C hr hlocks dX7_request_58
        · refine jj_aload_n C 0 dX7_request_46 rfl rfl ?_
          refine jj_getr C 0 2 in_Mesh (g_0 n S SD) k_Mesh (by decide) fl_Mesh_30 rfl dX7_request_47 ?_
          refine jj_callVi C (As := []) (rest := []) (fun z hz => c_Packets_isFull hz) (q_Mesh_70 C.2.2.2.2.1 (rm := { frames := 0, cells := 0, slots := 0, locals := 0 }) rfl rfl ⟨Nat.le_trans (by decide) hRm.1, Nat.le_trans (by decide) hRm.2⟩) (g_10 n S SD) k_Packets rfl rfl (Nat.le_of_ble_eq_true rfl) dX7_request_50 (fun r10 σ9 _ => ?_)
          refine jj_if_eq C (tgt := 59) dX7_request_53 (by decide) (fun _ => ?_) (fun _ => ?_)
          · refine jj_aload_n C 0 dX7_request_59 rfl rfl ?_
            refine jj_getr C 0 2 in_Mesh (g_0 n S SD) k_Mesh (by decide) fl_Mesh_30 rfl dX7_request_60 ?_
            refine jj_iload_n C 1 dX7_request_63 rfl rfl ?_
            refine jj_iload_n C 2 dX7_request_64 rfl rfl ?_
            refine jj_iload_n C 3 dX7_request_65 rfl rfl ?_
            refine jj_iload C 4 dX7_request_66 rfl ?_
            refine jj_iload C 5 dX7_request_68 rfl ?_
            refine jj_callVi C (As := [.int a1, .int a2, .int a3, .int a4, .int a5]) (rest := []) (fun z hz => c_Packets_add hz) (q_Mesh_73 C.2.2.2.2.1 (rm := { frames := 0, cells := 0, slots := 0, locals := 0 }) rfl rfl ⟨Nat.le_trans (by decide) hRm.1, Nat.le_trans (by decide) hRm.2⟩) (g_10 n S SD) k_Packets rfl rfl (Nat.le_of_ble_eq_true rfl) dX7_request_70 (fun r12 σ11 _ => ?_)
            refine jj_istore C [(6, .int r12), (0, .ref (ad 0)), (1, .int a1), (2, .int a2), (3, .int a3), (4, .int a4), (5, .int a5)] dX7_request_73 (by decide) rfl ?_
            refine jj_aload_n C 1 dX7_request_75 rfl rfl ?_
            refine jj_getr C 0 3 in_Mesh (g_0 n S SD) k_Mesh (by decide) fl_Mesh_39 rfl dX7_request_76 ?_
            refine jj_getr C 16 3 in_Ifs (g_16 n S SD) k_Ifs (by decide) fl_Mesh_61 rfl dX7_request_79 ?_
            refine jj_iload_n C 2 dX7_request_82 rfl rfl ?_
            refine jj_iload C 0 dX7_request_83 rfl ?_
            refine jj_callVv C (As := [.int a1, .int r12]) (rest := []) (fun z hz => c_Queues_addq hz) (q_Mesh_77 C.2.2.2.2.1 (rm := { frames := 0, cells := 0, slots := 0, locals := 0 }) rfl rfl ⟨Nat.le_trans (by decide) hRm.1, Nat.le_trans (by decide) hRm.2⟩) (g_20 n S SD) k_Queues rfl rfl (Nat.le_of_ble_eq_true rfl) dX7_request_85 (fun σ13 _ => ?_)
            refine jj_iload C 0 dX7_request_88 rfl ?_
            exact jj_iret C hr hlocks dX7_request_90
          · refine jj_bipush C (v := (-2 : Int32)) dX7_request_56 (by decide) ?_
            exact jj_iret C hr hlocks dX7_request_58
      · refine jj_iconst C (v := (-1 : Int32)) dX7_request_30 (by decide) ?_
        exact jj_iret C hr hlocks dX7_request_31

set_option maxHeartbeats 4000000 in
set_option maxRecDepth 100000 in
theorem c_Mesh_hold {l : Launch} {D : va_G} {ad : Nat → Nat} {cA : FieldType → ClassId} {n S SD F : Nat} {σ : jj_S} {a1 a2 : Int32} {z : (Int32 × jj_S)} (ho : f_Mesh_hold n S SD F σ a1 a2 = some z) : jj_Mi l yX7_hold (Cond.code yX7_hold cX7_hold 3 (some .boolean) :: jw_t) { frames := 1, cells := 0, slots := 0, locals := 40 } D vwCl ad cA (gc n S SD) [.ref (ad 0), .int a1, .int a2] σ z := by
  refine jj_ofi (cc := cX7_hold) (nL := 3) (ret := (some .boolean)) rfl ho (Nat.le_of_ble_eq_true rfl) ?_
  intro p e s m below meth c C hr hlocks
  generalize hA : va_A (jj_w ad cA (gc n S SD) σ) s.heap.size = A at C ⊢
  have hRm : 1 ≤ (headSpec (Cond.code yX7_hold cX7_hold 3 (some .boolean) :: jw_t) { frames := 1, cells := 0, slots := 0, locals := 40 }).room.frames ∧ 40 ≤ (headSpec (Cond.code yX7_hold cX7_hold 3 (some .boolean) :: jw_t) { frames := 1, cells := 0, slots := 0, locals := 40 }).room.locals := ⟨Nat.le_refl _, Nat.le_refl _⟩
  generalize (headSpec (Cond.code yX7_hold cX7_hold 3 (some .boolean) :: jw_t) { frames := 1, cells := 0, slots := 0, locals := 40 }).room = R at C hRm ⊢
  generalize List.toArray ([.ref (ad 0), .int a1, .int a2] : List Value) = args at C ⊢
  refine jj_sub (lv' := [(0, .ref (ad 0)), (1, .int a1), (2, .int a2)]) [0, 1, 2] rfl ?_
  unfold f_Mesh_hold
  refine jj_aload_n C 0 dX7_hold_0 rfl rfl ?_
  refine jj_getr C 0 0 in_Mesh (g_0 n S SD) k_Mesh (by decide) fl_Mesh_12 rfl dX7_hold_1 ?_
  refine jj_iload_n C 1 dX7_hold_4 rfl rfl ?_
  refine jj_callVi C (As := [.int a1]) (rest := []) (fun z hz => c_Grid_hasNode hz) (q_Mesh_54 C.2.2.2.2.1 (rm := { frames := 0, cells := 0, slots := 0, locals := 0 }) rfl rfl ⟨Nat.le_trans (by decide) hRm.1, Nat.le_trans (by decide) hRm.2⟩) (g_1 n S SD) k_Grid rfl rfl (Nat.le_of_ble_eq_true rfl) dX7_hold_5 (fun r2 σ1 _ => ?_)
  refine jj_if_ne C (tgt := 13) dX7_hold_8 (by decide) (fun _ => ?_) (fun _ => ?_)
  · refine jj_aload_n C 0 dX7_hold_13 rfl rfl ?_
    refine jj_getr C 0 3 in_Mesh (g_0 n S SD) k_Mesh (by decide) fl_Mesh_39 rfl dX7_hold_14 ?_
    refine jj_getr C 16 7 in_Ifs (g_16 n S SD) k_Ifs (by decide) fl_Mesh_80 rfl dX7_hold_17 ?_
    refine jj_iload_n C 1 dX7_hold_20 rfl rfl ?_
    refine jj_iload_n C 2 dX7_hold_21 rfl rfl ?_
    refine jj_zast C 29 (g_29 n S SD) dX7_hold_22 ?_
    refine jj_stn (fun σ3 => ?_)
    refine jj_iconst C (v := (1 : Int32)) dX7_hold_23 (by decide) ?_
    exact jj_zret C hr hlocks (by first | rfl | decide +kernel) dX7_hold_24
  · refine jj_iconst C (v := (0 : Int32)) dX7_hold_11 (by decide) ?_
    exact jj_zret C hr hlocks (by first | rfl | decide +kernel) dX7_hold_12

set_option maxHeartbeats 4000000 in
set_option maxRecDepth 100000 in
theorem l_Links_arriveAll_7 {p : Program} {l : Launch} {e : Env} {R : Room} {s : State} {m : MethodId} {args : Array Value} {below : List Frame} {meth : Method} {c : Code} {D : va_G} {A : Nat → Prop} {ad : Nat → Nat} {cA : FieldType → ClassId} {n S SD F : Nat} (C : jj_C p R s m args c D vwCl A ad cA (gc n S SD) 2 0 0 cX3_arriveAll RX3 jw_t) (hr : meth.sig.returnType = none) (hlocks : meth.locks = false) (hRm : 0 ≤ R.frames ∧ 0 ≤ R.locals) {K : jj_S → Int32 → Option jj_S} (hK : ∀ (σ : jj_S) (x1 : Int32), jj_J p l e R s m args below meth c D vwCl A ad cA (gc n S SD) 2 0 0 (jj_Qv below D vwCl A ad cA (gc n S SD) args s 0 0) (K σ x1) σ 107 [(0, .ref (ad 2)), (1, .int x1)] []) : ∀ (k : Nat) (σ : jj_S) (x1 : Int32), jj_J p l e R s m args below meth c D vwCl A ad cA (gc n S SD) 2 0 0 (jj_Qv below D vwCl A ad cA (gc n S SD) args s 0 0) (jj_lp1 (b_Links_arriveAll_7 n S SD F K) k σ x1) σ 7 [(0, .ref (ad 2)), (1, .int x1)] [] := by
  refine jj_loop1 (T := fun o σ x1 => jj_J p l e R s m args below meth c D vwCl A ad cA (gc n S SD) 2 0 0 (jj_Qv below D vwCl A ad cA (gc n S SD) args s 0 0) o σ 7 [(0, .ref (ad 2)), (1, .int x1)] []) (fun _ _ _ h => by cases h) ?_
  intro rec ih σ x1
  unfold b_Links_arriveAll_7
  refine jj_iload_n C 1 dX3_arriveAll_7 rfl rfl ?_
  refine jj_aload_n C 0 dX3_arriveAll_8 rfl rfl ?_
  refine jj_getr C 2 4 in_Links (g_2 n S SD) k_Links (by decide) fl_Links_31 rfl dX3_arriveAll_9 ?_
  refine jj_alen C 6 0 (g_6 n S SD) rfl dX3_arriveAll_12 ?_
  refine jj_icmp_ge C (tgt := 107) dX3_arriveAll_13 (by decide) (fun _ => ?_) (fun _ => ?_)
  · refine jj_sub [0, 1] rfl ?_
    exact hK σ x1
  · refine jj_aload_n C 0 dX3_arriveAll_16 rfl rfl ?_
    refine jj_getr C 2 6 in_Links (g_2 n S SD) k_Links (by decide) fl_Links_37 rfl dX3_arriveAll_17 ?_
    refine jj_iload_n C 1 dX3_arriveAll_20 rfl rfl ?_
    refine jj_iald C 8 (g_8 n S SD) dX3_arriveAll_21 ?_
    refine jj_iconst C (v := (-1 : Int32)) dX3_arriveAll_22 (by decide) ?_
    refine jj_icmp_eq C (tgt := 79) dX3_arriveAll_23 (by decide) (fun _ => ?_) (fun _ => ?_)
    · refine jj_aload_n C 0 dX3_arriveAll_79 rfl rfl ?_
      refine jj_getr C 2 5 in_Links (g_2 n S SD) k_Links (by decide) fl_Links_34 rfl dX3_arriveAll_80 ?_
      refine jj_iload_n C 1 dX3_arriveAll_83 rfl rfl ?_
      refine jj_dup2 C dX3_arriveAll_84 rfl rfl ?_
      refine jj_iald C 7 (g_7 n S SD) dX3_arriveAll_85 ?_
      refine jj_aload_n C 0 dX3_arriveAll_86 rfl rfl ?_
      refine jj_getr C 2 7 in_Links (g_2 n S SD) k_Links (by decide) fl_Links_40 rfl dX3_arriveAll_87 ?_
      refine jj_iload_n C 1 dX3_arriveAll_90 rfl rfl ?_
      refine jj_iald C 9 (g_9 n S SD) dX3_arriveAll_91 ?_
      refine jj_iadd C dX3_arriveAll_92 ?_
      refine jj_iast C 7 (g_7 n S SD) dX3_arriveAll_93 ?_
      refine jj_stn (fun σ2 => ?_)
      refine jj_aload_n C 0 dX3_arriveAll_94 rfl rfl ?_
      refine jj_getr C 2 7 in_Links (g_2 n S SD) k_Links (by decide) fl_Links_40 rfl dX3_arriveAll_95 ?_
      refine jj_iload_n C 1 dX3_arriveAll_98 rfl rfl ?_
      refine jj_iconst C (v := (0 : Int32)) dX3_arriveAll_99 (by decide) ?_
      refine jj_iast C 9 (g_9 n S SD) dX3_arriveAll_100 ?_
      refine jj_stn (fun σ3 => ?_)
      refine jj_iinc C (v := x1 + (1 : Int32)) [(1, .int (x1 + (1 : Int32))), (0, .ref (ad 2))] 1 dX3_arriveAll_101 rfl rfl (by decide) rfl ?_
      refine jj_goto C (tgt := 7) dX3_arriveAll_104 (by decide) ?_
      refine jj_sub [1, 0] rfl ?_
      exact ih σ3 (x1 + (1 : Int32))
    · refine jj_aload_n C 0 dX3_arriveAll_26 rfl rfl ?_
      refine jj_getr C 2 2 in_Links (g_2 n S SD) k_Links (by decide) fl_Links_25 rfl dX3_arriveAll_27 ?_
      refine jj_iload_n C 1 dX3_arriveAll_30 rfl rfl ?_
      refine jj_aload_n C 0 dX3_arriveAll_31 rfl rfl ?_
      refine jj_geti C 2 0 in_Links (g_2 n S SD) k_Links (by decide) fl_Links_15 rfl dX3_arriveAll_32 ?_
      refine jj_imul C dX3_arriveAll_35 ?_
      refine jj_aload_n C 0 dX3_arriveAll_36 rfl rfl ?_
      refine jj_getr C 2 3 in_Links (g_2 n S SD) k_Links (by decide) fl_Links_28 rfl dX3_arriveAll_37 ?_
      refine jj_iload_n C 1 dX3_arriveAll_40 rfl rfl ?_
      refine jj_iald C 5 (g_5 n S SD) dX3_arriveAll_41 ?_
      refine jj_aload_n C 0 dX3_arriveAll_42 rfl rfl ?_
      refine jj_getr C 2 4 in_Links (g_2 n S SD) k_Links (by decide) fl_Links_31 rfl dX3_arriveAll_43 ?_
      refine jj_iload_n C 1 dX3_arriveAll_46 rfl rfl ?_
      refine jj_iald C 6 (g_6 n S SD) dX3_arriveAll_47 ?_
      refine jj_iadd C dX3_arriveAll_48 ?_
      refine jj_aload_n C 0 dX3_arriveAll_49 rfl rfl ?_
      refine jj_geti C 2 0 in_Links (g_2 n S SD) k_Links (by decide) fl_Links_15 rfl dX3_arriveAll_50 ?_
      refine jj_irem C dX3_arriveAll_53 ?_
      refine jj_iadd C dX3_arriveAll_54 ?_
      refine jj_aload_n C 0 dX3_arriveAll_55 rfl rfl ?_
      refine jj_getr C 2 6 in_Links (g_2 n S SD) k_Links (by decide) fl_Links_37 rfl dX3_arriveAll_56 ?_
      refine jj_iload_n C 1 dX3_arriveAll_59 rfl rfl ?_
      refine jj_iald C 8 (g_8 n S SD) dX3_arriveAll_60 ?_
      refine jj_iast C 4 (g_4 n S SD) dX3_arriveAll_61 ?_
      refine jj_stn (fun σ4 => ?_)
      refine jj_aload_n C 0 dX3_arriveAll_62 rfl rfl ?_
      refine jj_getr C 2 4 in_Links (g_2 n S SD) k_Links (by decide) fl_Links_31 rfl dX3_arriveAll_63 ?_
      refine jj_iload_n C 1 dX3_arriveAll_66 rfl rfl ?_
      refine jj_dup2 C dX3_arriveAll_67 rfl rfl ?_
      refine jj_iald C 6 (g_6 n S SD) dX3_arriveAll_68 ?_
      refine jj_iconst C (v := (1 : Int32)) dX3_arriveAll_69 (by decide) ?_
      refine jj_iadd C dX3_arriveAll_70 ?_
      refine jj_iast C 6 (g_6 n S SD) dX3_arriveAll_71 ?_
      refine jj_stn (fun σ5 => ?_)
      refine jj_aload_n C 0 dX3_arriveAll_72 rfl rfl ?_
      refine jj_getr C 2 6 in_Links (g_2 n S SD) k_Links (by decide) fl_Links_37 rfl dX3_arriveAll_73 ?_
      refine jj_iload_n C 1 dX3_arriveAll_76 rfl rfl ?_
      refine jj_iconst C (v := (-1 : Int32)) dX3_arriveAll_77 (by decide) ?_
      refine jj_iast C 8 (g_8 n S SD) dX3_arriveAll_78 ?_
      refine jj_stn (fun σ6 => ?_)
      refine jj_aload_n C 0 dX3_arriveAll_79 rfl rfl ?_
      refine jj_getr C 2 5 in_Links (g_2 n S SD) k_Links (by decide) fl_Links_34 rfl dX3_arriveAll_80 ?_
      refine jj_iload_n C 1 dX3_arriveAll_83 rfl rfl ?_
      refine jj_dup2 C dX3_arriveAll_84 rfl rfl ?_
      refine jj_iald C 7 (g_7 n S SD) dX3_arriveAll_85 ?_
      refine jj_aload_n C 0 dX3_arriveAll_86 rfl rfl ?_
      refine jj_getr C 2 7 in_Links (g_2 n S SD) k_Links (by decide) fl_Links_40 rfl dX3_arriveAll_87 ?_
      refine jj_iload_n C 1 dX3_arriveAll_90 rfl rfl ?_
      refine jj_iald C 9 (g_9 n S SD) dX3_arriveAll_91 ?_
      refine jj_iadd C dX3_arriveAll_92 ?_
      refine jj_iast C 7 (g_7 n S SD) dX3_arriveAll_93 ?_
      refine jj_stn (fun σ7 => ?_)
      refine jj_aload_n C 0 dX3_arriveAll_94 rfl rfl ?_
      refine jj_getr C 2 7 in_Links (g_2 n S SD) k_Links (by decide) fl_Links_40 rfl dX3_arriveAll_95 ?_
      refine jj_iload_n C 1 dX3_arriveAll_98 rfl rfl ?_
      refine jj_iconst C (v := (0 : Int32)) dX3_arriveAll_99 (by decide) ?_
      refine jj_iast C 9 (g_9 n S SD) dX3_arriveAll_100 ?_
      refine jj_stn (fun σ8 => ?_)
      refine jj_iinc C (v := x1 + (1 : Int32)) [(1, .int (x1 + (1 : Int32))), (0, .ref (ad 2))] 1 dX3_arriveAll_101 rfl rfl (by decide) rfl ?_
      refine jj_goto C (tgt := 7) dX3_arriveAll_104 (by decide) ?_
      refine jj_sub [1, 0] rfl ?_
      exact ih σ8 (x1 + (1 : Int32))

set_option maxHeartbeats 4000000 in
set_option maxRecDepth 100000 in
theorem c_Links_arriveAll {l : Launch} {D : va_G} {ad : Nat → Nat} {cA : FieldType → ClassId} {n S SD F : Nat} {σ : jj_S} {z : jj_S} (ho : f_Links_arriveAll n S SD F σ = some z) : jj_Mv l yX3_arriveAll (Cond.code yX3_arriveAll cX3_arriveAll 2 none :: jw_t) { frames := 0, cells := 0, slots := 0, locals := 0 } D vwCl ad cA (gc n S SD) [.ref (ad 2)] σ z := by
  refine jj_ofv (cc := cX3_arriveAll) (nL := 2) (ret := none) rfl ho (Nat.le_of_ble_eq_true rfl) ?_
  intro p e s m below meth c C hr hlocks
  generalize hA : va_A (jj_w ad cA (gc n S SD) σ) s.heap.size = A at C ⊢
  have hRm : 0 ≤ (headSpec (Cond.code yX3_arriveAll cX3_arriveAll 2 none :: jw_t) { frames := 0, cells := 0, slots := 0, locals := 0 }).room.frames ∧ 0 ≤ (headSpec (Cond.code yX3_arriveAll cX3_arriveAll 2 none :: jw_t) { frames := 0, cells := 0, slots := 0, locals := 0 }).room.locals := ⟨Nat.le_refl _, Nat.le_refl _⟩
  generalize (headSpec (Cond.code yX3_arriveAll cX3_arriveAll 2 none :: jw_t) { frames := 0, cells := 0, slots := 0, locals := 0 }).room = R at C hRm ⊢
  generalize List.toArray ([.ref (ad 2)] : List Value) = args at C ⊢
  refine jj_sub (lv' := [(0, .ref (ad 2))]) [0] rfl ?_
  unfold f_Links_arriveAll
  refine jj_aload_n C 0 dX3_arriveAll_0 rfl rfl ?_
  refine jj_iconst C (v := (0 : Int32)) dX3_arriveAll_1 (by decide) ?_
  refine jj_puti C 2 8 in_Links (g_2 n S SD) k_Links (by decide) fl_Links_56 tyX3 tyX3_ok nmX3 rfl (by decide +kernel) rfl dX3_arriveAll_2 ?_
  refine jj_stn (fun σ1 => ?_)
  refine jj_iconst C (v := (0 : Int32)) dX3_arriveAll_5 (by decide) ?_
  refine jj_istore_n C [(1, .int (0 : Int32)), (0, .ref (ad 2))] dX3_arriveAll_6 rfl (by decide) rfl ?_
  refine jj_sub [1, 0] rfl ?_
  refine l_Links_arriveAll_7 C hr hlocks hRm (fun σ9 x1_10 => ?_) F σ1 (0 : Int32)
  exact jj_vret C hr hlocks dX3_arriveAll_107

set_option maxHeartbeats 4000000 in
set_option maxRecDepth 100000 in
theorem c_Grid_slot {l : Launch} {D : va_G} {ad : Nat → Nat} {cA : FieldType → ClassId} {n S SD F : Nat} {σ : jj_S} {a1 a2 a3 : Int32} {z : (Int32 × jj_S)} (ho : f_Grid_slot n S SD F σ a1 a2 a3 = some z) : jj_Mi l yX1_slot (Cond.code yX1_slot cX1_slot 4 (some .int) :: jw_t) { frames := 0, cells := 0, slots := 0, locals := 0 } D vwCl ad cA (gc n S SD) [.ref (ad 1), .int a1, .int a2, .int a3] σ z := by
  refine jj_ofi (cc := cX1_slot) (nL := 4) (ret := (some .int)) rfl ho (Nat.le_of_ble_eq_true rfl) ?_
  intro p e s m below meth c C hr hlocks
  generalize hA : va_A (jj_w ad cA (gc n S SD) σ) s.heap.size = A at C ⊢
  have hRm : 0 ≤ (headSpec (Cond.code yX1_slot cX1_slot 4 (some .int) :: jw_t) { frames := 0, cells := 0, slots := 0, locals := 0 }).room.frames ∧ 0 ≤ (headSpec (Cond.code yX1_slot cX1_slot 4 (some .int) :: jw_t) { frames := 0, cells := 0, slots := 0, locals := 0 }).room.locals := ⟨Nat.le_refl _, Nat.le_refl _⟩
  generalize (headSpec (Cond.code yX1_slot cX1_slot 4 (some .int) :: jw_t) { frames := 0, cells := 0, slots := 0, locals := 0 }).room = R at C hRm ⊢
  generalize List.toArray ([.ref (ad 1), .int a1, .int a2, .int a3] : List Value) = args at C ⊢
  refine jj_sub (lv' := [(0, .ref (ad 1)), (1, .int a1), (2, .int a2), (3, .int a3)]) [0, 1, 2, 3] rfl ?_
  unfold f_Grid_slot
  refine jj_iload_n C 1 dX1_slot_0 rfl rfl ?_
  refine jj_bipush C (v := (6 : Int32)) dX1_slot_1 (by decide) ?_
  refine jj_imul C dX1_slot_3 ?_
  refine jj_iload_n C 2 dX1_slot_4 rfl rfl ?_
  refine jj_iadd C dX1_slot_5 ?_
  refine jj_aload_n C 0 dX1_slot_6 rfl rfl ?_
  refine jj_geti C 1 4 in_Grid (g_1 n S SD) k_Grid (by decide) fl_Grid_28 rfl dX1_slot_7 ?_
  refine jj_imul C dX1_slot_10 ?_
  refine jj_iload_n C 3 dX1_slot_11 rfl rfl ?_
  refine jj_iadd C dX1_slot_12 ?_
  exact jj_iret C hr hlocks dX1_slot_13

set_option maxHeartbeats 4000000 in
set_option maxRecDepth 100000 in
theorem c_Links_firstFlit {l : Launch} {D : va_G} {ad : Nat → Nat} {cA : FieldType → ClassId} {n S SD F : Nat} {σ : jj_S} {a1 : Int32} {z : (Int32 × jj_S)} (ho : f_Links_firstFlit n S SD F σ a1 = some z) : jj_Mi l yX3_firstFlit (Cond.code yX3_firstFlit cX3_firstFlit 2 (some .int) :: jw_t) { frames := 0, cells := 0, slots := 0, locals := 0 } D vwCl ad cA (gc n S SD) [.ref (ad 2), .int a1] σ z := by
  refine jj_ofi (cc := cX3_firstFlit) (nL := 2) (ret := (some .int)) rfl ho (Nat.le_of_ble_eq_true rfl) ?_
  intro p e s m below meth c C hr hlocks
  generalize hA : va_A (jj_w ad cA (gc n S SD) σ) s.heap.size = A at C ⊢
  have hRm : 0 ≤ (headSpec (Cond.code yX3_firstFlit cX3_firstFlit 2 (some .int) :: jw_t) { frames := 0, cells := 0, slots := 0, locals := 0 }).room.frames ∧ 0 ≤ (headSpec (Cond.code yX3_firstFlit cX3_firstFlit 2 (some .int) :: jw_t) { frames := 0, cells := 0, slots := 0, locals := 0 }).room.locals := ⟨Nat.le_refl _, Nat.le_refl _⟩
  generalize (headSpec (Cond.code yX3_firstFlit cX3_firstFlit 2 (some .int) :: jw_t) { frames := 0, cells := 0, slots := 0, locals := 0 }).room = R at C hRm ⊢
  generalize List.toArray ([.ref (ad 2), .int a1] : List Value) = args at C ⊢
  refine jj_sub (lv' := [(0, .ref (ad 2)), (1, .int a1)]) [0, 1] rfl ?_
  unfold f_Links_firstFlit
  refine jj_aload_n C 0 dX3_firstFlit_0 rfl rfl ?_
  refine jj_getr C 2 2 in_Links (g_2 n S SD) k_Links (by decide) fl_Links_25 rfl dX3_firstFlit_1 ?_
  refine jj_iload_n C 1 dX3_firstFlit_4 rfl rfl ?_
  refine jj_aload_n C 0 dX3_firstFlit_5 rfl rfl ?_
  refine jj_geti C 2 0 in_Links (g_2 n S SD) k_Links (by decide) fl_Links_15 rfl dX3_firstFlit_6 ?_
  refine jj_imul C dX3_firstFlit_9 ?_
  refine jj_aload_n C 0 dX3_firstFlit_10 rfl rfl ?_
  refine jj_getr C 2 3 in_Links (g_2 n S SD) k_Links (by decide) fl_Links_28 rfl dX3_firstFlit_11 ?_
  refine jj_iload_n C 1 dX3_firstFlit_14 rfl rfl ?_
  refine jj_iald C 5 (g_5 n S SD) dX3_firstFlit_15 ?_
  refine jj_iadd C dX3_firstFlit_16 ?_
  refine jj_iald C 4 (g_4 n S SD) dX3_firstFlit_17 ?_
  exact jj_iret C hr hlocks dX3_firstFlit_18

set_option maxHeartbeats 4000000 in
set_option maxRecDepth 100000 in
theorem c_Packets_isOfReply {l : Launch} {D : va_G} {ad : Nat → Nat} {cA : FieldType → ClassId} {n S SD F : Nat} {σ : jj_S} {a0 : Int32} {z : (Int32 × jj_S)} (ho : f_Packets_isOfReply n S SD F σ a0 = some z) : jj_Mi l yX4_isOfReply (Cond.code yX4_isOfReply cX4_isOfReply 1 (some .boolean) :: jw_t) { frames := 0, cells := 0, slots := 0, locals := 0 } D vwCl ad cA (gc n S SD) [.int a0] σ z := by
  refine jj_ofi (cc := cX4_isOfReply) (nL := 1) (ret := (some .boolean)) rfl ho (Nat.le_of_ble_eq_true rfl) ?_
  intro p e s m below meth c C hr hlocks
  generalize hA : va_A (jj_w ad cA (gc n S SD) σ) s.heap.size = A at C ⊢
  have hRm : 0 ≤ (headSpec (Cond.code yX4_isOfReply cX4_isOfReply 1 (some .boolean) :: jw_t) { frames := 0, cells := 0, slots := 0, locals := 0 }).room.frames ∧ 0 ≤ (headSpec (Cond.code yX4_isOfReply cX4_isOfReply 1 (some .boolean) :: jw_t) { frames := 0, cells := 0, slots := 0, locals := 0 }).room.locals := ⟨Nat.le_refl _, Nat.le_refl _⟩
  generalize (headSpec (Cond.code yX4_isOfReply cX4_isOfReply 1 (some .boolean) :: jw_t) { frames := 0, cells := 0, slots := 0, locals := 0 }).room = R at C hRm ⊢
  generalize List.toArray ([.int a0] : List Value) = args at C ⊢
  refine jj_sub (lv' := [(0, .int a0)]) [0] rfl ?_
  unfold f_Packets_isOfReply
  refine jj_iload_n C 0 dX4_isOfReply_0 rfl rfl ?_
  refine jj_iconst C (v := (2 : Int32)) dX4_isOfReply_1 (by decide) ?_
  refine jj_iand C dX4_isOfReply_2 ?_
  refine jj_if_eq C (tgt := 10) dX4_isOfReply_3 (by decide) (fun _ => ?_) (fun _ => ?_)
  · refine jj_iconst C (v := (0 : Int32)) dX4_isOfReply_10 (by decide) ?_
    exact jj_zret C hr hlocks (by first | rfl | decide +kernel) dX4_isOfReply_11
  · refine jj_iconst C (v := (1 : Int32)) dX4_isOfReply_6 (by decide) ?_
    refine jj_goto C (tgt := 11) dX4_isOfReply_7 (by decide) ?_
    exact jj_zret C hr hlocks (by first | rfl | decide +kernel) dX4_isOfReply_11

set_option maxHeartbeats 4000000 in
set_option maxRecDepth 100000 in
theorem c_Packets_isLast {l : Launch} {D : va_G} {ad : Nat → Nat} {cA : FieldType → ClassId} {n S SD F : Nat} {σ : jj_S} {a0 : Int32} {z : (Int32 × jj_S)} (ho : f_Packets_isLast n S SD F σ a0 = some z) : jj_Mi l yX4_isLast (Cond.code yX4_isLast cX4_isLast 1 (some .boolean) :: jw_t) { frames := 0, cells := 0, slots := 0, locals := 0 } D vwCl ad cA (gc n S SD) [.int a0] σ z := by
  refine jj_ofi (cc := cX4_isLast) (nL := 1) (ret := (some .boolean)) rfl ho (Nat.le_of_ble_eq_true rfl) ?_
  intro p e s m below meth c C hr hlocks
  generalize hA : va_A (jj_w ad cA (gc n S SD) σ) s.heap.size = A at C ⊢
  have hRm : 0 ≤ (headSpec (Cond.code yX4_isLast cX4_isLast 1 (some .boolean) :: jw_t) { frames := 0, cells := 0, slots := 0, locals := 0 }).room.frames ∧ 0 ≤ (headSpec (Cond.code yX4_isLast cX4_isLast 1 (some .boolean) :: jw_t) { frames := 0, cells := 0, slots := 0, locals := 0 }).room.locals := ⟨Nat.le_refl _, Nat.le_refl _⟩
  generalize (headSpec (Cond.code yX4_isLast cX4_isLast 1 (some .boolean) :: jw_t) { frames := 0, cells := 0, slots := 0, locals := 0 }).room = R at C hRm ⊢
  generalize List.toArray ([.int a0] : List Value) = args at C ⊢
  refine jj_sub (lv' := [(0, .int a0)]) [0] rfl ?_
  unfold f_Packets_isLast
  refine jj_iload_n C 0 dX4_isLast_0 rfl rfl ?_
  refine jj_iconst C (v := (1 : Int32)) dX4_isLast_1 (by decide) ?_
  refine jj_iand C dX4_isLast_2 ?_
  refine jj_if_eq C (tgt := 10) dX4_isLast_3 (by decide) (fun _ => ?_) (fun _ => ?_)
  · refine jj_iconst C (v := (0 : Int32)) dX4_isLast_10 (by decide) ?_
    exact jj_zret C hr hlocks (by first | rfl | decide +kernel) dX4_isLast_11
  · refine jj_iconst C (v := (1 : Int32)) dX4_isLast_6 (by decide) ?_
    refine jj_goto C (tgt := 11) dX4_isLast_7 (by decide) ?_
    exact jj_zret C hr hlocks (by first | rfl | decide +kernel) dX4_isLast_11

set_option maxHeartbeats 4000000 in
set_option maxRecDepth 100000 in
theorem c_Queues_isFullp {l : Launch} {D : va_G} {ad : Nat → Nat} {cA : FieldType → ClassId} {n S SD F : Nat} {σ : jj_S} {a1 : Int32} {z : (Int32 × jj_S)} (ho : f_Queues_isFullp n S SD F σ a1 = some z) : jj_Mi l yX5_isFull (Cond.code yX5_isFull cX5_isFull 2 (some .boolean) :: jw_t) { frames := 0, cells := 0, slots := 0, locals := 0 } D vwCl ad cA (gc n S SD) [.ref (ad 24), .int a1] σ z := by
  refine jj_ofi (cc := cX5_isFull) (nL := 2) (ret := (some .boolean)) rfl ho (Nat.le_of_ble_eq_true rfl) ?_
  intro p e s m below meth c C hr hlocks
  generalize hA : va_A (jj_w ad cA (gc n S SD) σ) s.heap.size = A at C ⊢
  have hRm : 0 ≤ (headSpec (Cond.code yX5_isFull cX5_isFull 2 (some .boolean) :: jw_t) { frames := 0, cells := 0, slots := 0, locals := 0 }).room.frames ∧ 0 ≤ (headSpec (Cond.code yX5_isFull cX5_isFull 2 (some .boolean) :: jw_t) { frames := 0, cells := 0, slots := 0, locals := 0 }).room.locals := ⟨Nat.le_refl _, Nat.le_refl _⟩
  generalize (headSpec (Cond.code yX5_isFull cX5_isFull 2 (some .boolean) :: jw_t) { frames := 0, cells := 0, slots := 0, locals := 0 }).room = R at C hRm ⊢
  generalize List.toArray ([.ref (ad 24), .int a1] : List Value) = args at C ⊢
  refine jj_sub (lv' := [(0, .ref (ad 24)), (1, .int a1)]) [0, 1] rfl ?_
  unfold f_Queues_isFullp
  refine jj_aload_n C 0 dX5_isFull_0 rfl rfl ?_
  refine jj_getr C 24 3 in_Queues (g_24 n S SD) k_Queues (by decide) fl_Queues_21 rfl dX5_isFull_1 ?_
  refine jj_iload_n C 1 dX5_isFull_4 rfl rfl ?_
  refine jj_iald C 26 (g_26 n S SD) dX5_isFull_5 ?_
  refine jj_aload_n C 0 dX5_isFull_6 rfl rfl ?_
  refine jj_geti C 24 1 in_Queues (g_24 n S SD) k_Queues (by decide) fl_Queues_13 rfl dX5_isFull_7 ?_
  refine jj_icmp_lt C (tgt := 17) dX5_isFull_10 (by decide) (fun _ => ?_) (fun _ => ?_)
  · refine jj_iconst C (v := (0 : Int32)) dX5_isFull_17 (by decide) ?_
    exact jj_zret C hr hlocks (by first | rfl | decide +kernel) dX5_isFull_18
  · refine jj_iconst C (v := (1 : Int32)) dX5_isFull_13 (by decide) ?_
    refine jj_goto C (tgt := 18) dX5_isFull_14 (by decide) ?_
    exact jj_zret C hr hlocks (by first | rfl | decide +kernel) dX5_isFull_18
end
section
set_option maxHeartbeats 4000000 in
set_option maxRecDepth 100000 in
theorem c_Ifs_mayTake {l : Launch} {D : va_G} {ad : Nat → Nat} {cA : FieldType → ClassId} {n S SD F : Nat} {σ : jj_S} {a1 a2 : Int32} {z : (Int32 × jj_S)} (ho : f_Ifs_mayTake n S SD F σ a1 a2 = some z) : jj_Mi l yX2_mayTake (Cond.code yX2_mayTake cX2_mayTake 3 (some .boolean) :: jw_t) { frames := 1, cells := 0, slots := 0, locals := 40 } D vwCl ad cA (gc n S SD) [.ref (ad 16), .int a1, .int a2] σ z := by
  refine jj_ofi (cc := cX2_mayTake) (nL := 3) (ret := (some .boolean)) rfl ho (Nat.le_of_ble_eq_true rfl) ?_
  intro p e s m below meth c C hr hlocks
  generalize hA : va_A (jj_w ad cA (gc n S SD) σ) s.heap.size = A at C ⊢
  have hRm : 1 ≤ (headSpec (Cond.code yX2_mayTake cX2_mayTake 3 (some .boolean) :: jw_t) { frames := 1, cells := 0, slots := 0, locals := 40 }).room.frames ∧ 40 ≤ (headSpec (Cond.code yX2_mayTake cX2_mayTake 3 (some .boolean) :: jw_t) { frames := 1, cells := 0, slots := 0, locals := 40 }).room.locals := ⟨Nat.le_refl _, Nat.le_refl _⟩
  generalize (headSpec (Cond.code yX2_mayTake cX2_mayTake 3 (some .boolean) :: jw_t) { frames := 1, cells := 0, slots := 0, locals := 40 }).room = R at C hRm ⊢
  generalize List.toArray ([.ref (ad 16), .int a1, .int a2] : List Value) = args at C ⊢
  refine jj_sub (lv' := [(0, .ref (ad 16)), (1, .int a1), (2, .int a2)]) [0, 1, 2] rfl ?_
  unfold f_Ifs_mayTake
  refine jj_iload_n C 2 dX2_mayTake_0 rfl rfl ?_
  refine jj_callSi C (As := [.int a2]) (rest := []) (fun z hz => c_Packets_isOfReply hz) (q_Ifs_83 C.2.2.2.2.1 (rm := { frames := 0, cells := 0, slots := 0, locals := 0 }) rfl rfl ⟨Nat.le_trans (by decide) hRm.1, Nat.le_trans (by decide) hRm.2⟩) rfl rfl (Nat.le_of_ble_eq_true rfl) dX2_mayTake_1 (fun r2 σ1 _ => ?_)
  refine jj_if_ne C (tgt := 14) dX2_mayTake_4 (by decide) (fun _ => ?_) (fun _ => ?_)
  · refine jj_iconst C (v := (1 : Int32)) dX2_mayTake_14 (by decide) ?_
    exact jj_zret C hr hlocks (by first | rfl | decide +kernel) dX2_mayTake_15
  · refine jj_iload_n C 2 dX2_mayTake_7 rfl rfl ?_
    refine jj_callSi C (As := [.int a2]) (rest := []) (fun z hz => c_Packets_isLast hz) (q_Ifs_89 C.2.2.2.2.1 (rm := { frames := 0, cells := 0, slots := 0, locals := 0 }) rfl rfl ⟨Nat.le_trans (by decide) hRm.1, Nat.le_trans (by decide) hRm.2⟩) rfl rfl (Nat.le_of_ble_eq_true rfl) dX2_mayTake_8 (fun r4 σ3 _ => ?_)
    refine jj_if_ne C (tgt := 16) dX2_mayTake_11 (by decide) (fun _ => ?_) (fun _ => ?_)
    · refine jj_aload_n C 0 dX2_mayTake_16 rfl rfl ?_
      refine jj_getr C 16 7 in_Ifs (g_16 n S SD) k_Ifs (by decide) fl_Ifs_52 rfl dX2_mayTake_17 ?_
      refine jj_iload_n C 1 dX2_mayTake_20 rfl rfl ?_
      refine jj_zald C 29 (g_29 n S SD) dX2_mayTake_21 ?_
      refine jj_if_ne C (tgt := 40) dX2_mayTake_22 (by decide) (fun _ => ?_) (fun _ => ?_)
      · refine jj_iconst C (v := (0 : Int32)) dX2_mayTake_40 (by decide) ?_
        exact jj_zret C hr hlocks (by first | rfl | decide +kernel) dX2_mayTake_41
      · refine jj_aload_n C 0 dX2_mayTake_25 rfl rfl ?_
        refine jj_getr C 16 4 in_Ifs (g_16 n S SD) k_Ifs (by decide) fl_Ifs_45 rfl dX2_mayTake_26 ?_
        refine jj_iload_n C 1 dX2_mayTake_29 rfl rfl ?_
        refine jj_callVi C (As := [.int a1]) (rest := []) (fun z hz => c_Queues_isFullp hz) (q_Ifs_92 C.2.2.2.2.1 (rm := { frames := 0, cells := 0, slots := 0, locals := 0 }) rfl rfl ⟨Nat.le_trans (by decide) hRm.1, Nat.le_trans (by decide) hRm.2⟩) (g_24 n S SD) k_Queues rfl rfl (Nat.le_of_ble_eq_true rfl) dX2_mayTake_30 (fun r6 σ5 _ => ?_)
        refine jj_if_ne C (tgt := 40) dX2_mayTake_33 (by decide) (fun _ => ?_) (fun _ => ?_)
        · refine jj_iconst C (v := (0 : Int32)) dX2_mayTake_40 (by decide) ?_
          exact jj_zret C hr hlocks (by first | rfl | decide +kernel) dX2_mayTake_41
        · refine jj_iconst C (v := (1 : Int32)) dX2_mayTake_36 (by decide) ?_
          refine jj_goto C (tgt := 41) dX2_mayTake_37 (by decide) ?_
          exact jj_zret C hr hlocks (by first | rfl | decide +kernel) dX2_mayTake_41
    · refine jj_iconst C (v := (1 : Int32)) dX2_mayTake_14 (by decide) ?_
      exact jj_zret C hr hlocks (by first | rfl | decide +kernel) dX2_mayTake_15

set_option maxHeartbeats 4000000 in
set_option maxRecDepth 100000 in
theorem c_Links_takeOut {l : Launch} {D : va_G} {ad : Nat → Nat} {cA : FieldType → ClassId} {n S SD F : Nat} {σ : jj_S} {a1 : Int32} {z : (Int32 × jj_S)} (ho : f_Links_takeOut n S SD F σ a1 = some z) : jj_Mi l yX3_takeOut (Cond.code yX3_takeOut cX3_takeOut 3 (some .int) :: jw_t) { frames := 1, cells := 0, slots := 0, locals := 40 } D vwCl ad cA (gc n S SD) [.ref (ad 2), .int a1] σ z := by
  refine jj_ofi (cc := cX3_takeOut) (nL := 3) (ret := (some .int)) rfl ho (Nat.le_of_ble_eq_true rfl) ?_
  intro p e s m below meth c C hr hlocks
  generalize hA : va_A (jj_w ad cA (gc n S SD) σ) s.heap.size = A at C ⊢
  have hRm : 1 ≤ (headSpec (Cond.code yX3_takeOut cX3_takeOut 3 (some .int) :: jw_t) { frames := 1, cells := 0, slots := 0, locals := 40 }).room.frames ∧ 40 ≤ (headSpec (Cond.code yX3_takeOut cX3_takeOut 3 (some .int) :: jw_t) { frames := 1, cells := 0, slots := 0, locals := 40 }).room.locals := ⟨Nat.le_refl _, Nat.le_refl _⟩
  generalize (headSpec (Cond.code yX3_takeOut cX3_takeOut 3 (some .int) :: jw_t) { frames := 1, cells := 0, slots := 0, locals := 40 }).room = R at C hRm ⊢
  generalize List.toArray ([.ref (ad 2), .int a1] : List Value) = args at C ⊢
  refine jj_sub (lv' := [(0, .ref (ad 2)), (1, .int a1)]) [0, 1] rfl ?_
  unfold f_Links_takeOut
  refine jj_aload_n C 0 dX3_takeOut_0 rfl rfl ?_
  refine jj_iload_n C 1 dX3_takeOut_1 rfl rfl ?_
  refine jj_callVi C (As := [.int a1]) (rest := []) (fun z hz => c_Links_firstFlit hz) (q_Links_59 C.2.2.2.2.1 (rm := { frames := 0, cells := 0, slots := 0, locals := 0 }) rfl rfl ⟨Nat.le_trans (by decide) hRm.1, Nat.le_trans (by decide) hRm.2⟩) (g_2 n S SD) k_Links rfl rfl (Nat.le_of_ble_eq_true rfl) dX3_takeOut_2 (fun r2 σ1 _ => ?_)
  refine jj_istore_n C [(2, .int r2), (0, .ref (ad 2)), (1, .int a1)] dX3_takeOut_5 rfl (by decide) rfl ?_
  refine jj_aload_n C 1 dX3_takeOut_6 rfl rfl ?_
  refine jj_getr C 2 3 in_Links (g_2 n S SD) k_Links (by decide) fl_Links_28 rfl dX3_takeOut_7 ?_
  refine jj_iload_n C 2 dX3_takeOut_10 rfl rfl ?_
  refine jj_aload_n C 1 dX3_takeOut_11 rfl rfl ?_
  refine jj_getr C 2 3 in_Links (g_2 n S SD) k_Links (by decide) fl_Links_28 rfl dX3_takeOut_12 ?_
  refine jj_iload_n C 2 dX3_takeOut_15 rfl rfl ?_
  refine jj_iald C 5 (g_5 n S SD) dX3_takeOut_16 ?_
  refine jj_iconst C (v := (1 : Int32)) dX3_takeOut_17 (by decide) ?_
  refine jj_iadd C dX3_takeOut_18 ?_
  refine jj_aload_n C 1 dX3_takeOut_19 rfl rfl ?_
  refine jj_geti C 2 0 in_Links (g_2 n S SD) k_Links (by decide) fl_Links_15 rfl dX3_takeOut_20 ?_
  refine jj_irem C dX3_takeOut_23 ?_
  refine jj_iast C 5 (g_5 n S SD) dX3_takeOut_24 ?_
  refine jj_stn (fun σ3 => ?_)
  refine jj_aload_n C 1 dX3_takeOut_25 rfl rfl ?_
  refine jj_getr C 2 4 in_Links (g_2 n S SD) k_Links (by decide) fl_Links_31 rfl dX3_takeOut_26 ?_
  refine jj_iload_n C 2 dX3_takeOut_29 rfl rfl ?_
  refine jj_dup2 C dX3_takeOut_30 rfl rfl ?_
  refine jj_iald C 6 (g_6 n S SD) dX3_takeOut_31 ?_
  refine jj_iconst C (v := (1 : Int32)) dX3_takeOut_32 (by decide) ?_
  refine jj_isub C dX3_takeOut_33 ?_
  refine jj_iast C 6 (g_6 n S SD) dX3_takeOut_34 ?_
  refine jj_stn (fun σ4 => ?_)
  refine jj_aload_n C 1 dX3_takeOut_35 rfl rfl ?_
  refine jj_getr C 2 7 in_Links (g_2 n S SD) k_Links (by decide) fl_Links_40 rfl dX3_takeOut_36 ?_
  refine jj_aload_n C 1 dX3_takeOut_39 rfl rfl ?_
  refine jj_getr C 2 1 in_Links (g_2 n S SD) k_Links (by decide) fl_Links_21 rfl dX3_takeOut_40 ?_
  refine jj_iload_n C 2 dX3_takeOut_43 rfl rfl ?_
  refine jj_iald C 3 (g_3 n S SD) dX3_takeOut_44 ?_
  refine jj_dup2 C dX3_takeOut_45 rfl rfl ?_
  refine jj_iald C 9 (g_9 n S SD) dX3_takeOut_46 ?_
  refine jj_iconst C (v := (1 : Int32)) dX3_takeOut_47 (by decide) ?_
  refine jj_iadd C dX3_takeOut_48 ?_
  refine jj_iast C 9 (g_9 n S SD) dX3_takeOut_49 ?_
  refine jj_stn (fun σ5 => ?_)
  refine jj_iload_n C 0 dX3_takeOut_50 rfl rfl ?_
  exact jj_iret C hr hlocks dX3_takeOut_51

set_option maxHeartbeats 4000000 in
set_option maxRecDepth 100000 in
theorem c_Packets_number {l : Launch} {D : va_G} {ad : Nat → Nat} {cA : FieldType → ClassId} {n S SD F : Nat} {σ : jj_S} {a0 : Int32} {z : (Int32 × jj_S)} (ho : f_Packets_number n S SD F σ a0 = some z) : jj_Mi l yX4_number (Cond.code yX4_number cX4_number 1 (some .int) :: jw_t) { frames := 0, cells := 0, slots := 0, locals := 0 } D vwCl ad cA (gc n S SD) [.int a0] σ z := by
  refine jj_ofi (cc := cX4_number) (nL := 1) (ret := (some .int)) rfl ho (Nat.le_of_ble_eq_true rfl) ?_
  intro p e s m below meth c C hr hlocks
  generalize hA : va_A (jj_w ad cA (gc n S SD) σ) s.heap.size = A at C ⊢
  have hRm : 0 ≤ (headSpec (Cond.code yX4_number cX4_number 1 (some .int) :: jw_t) { frames := 0, cells := 0, slots := 0, locals := 0 }).room.frames ∧ 0 ≤ (headSpec (Cond.code yX4_number cX4_number 1 (some .int) :: jw_t) { frames := 0, cells := 0, slots := 0, locals := 0 }).room.locals := ⟨Nat.le_refl _, Nat.le_refl _⟩
  generalize (headSpec (Cond.code yX4_number cX4_number 1 (some .int) :: jw_t) { frames := 0, cells := 0, slots := 0, locals := 0 }).room = R at C hRm ⊢
  generalize List.toArray ([.int a0] : List Value) = args at C ⊢
  refine jj_sub (lv' := [(0, .int a0)]) [0] rfl ?_
  unfold f_Packets_number
  refine jj_iload_n C 0 dX4_number_0 rfl rfl ?_
  refine jj_iconst C (v := (4 : Int32)) dX4_number_1 (by decide) ?_
  refine jj_idiv C dX4_number_2 ?_
  exact jj_iret C hr hlocks dX4_number_3

set_option maxHeartbeats 4000000 in
set_option maxRecDepth 100000 in
theorem c_Ifs_serve {l : Launch} {D : va_G} {ad : Nat → Nat} {cA : FieldType → ClassId} {n S SD F : Nat} {σ : jj_S} {a1 a2 : Int32} {z : jj_S} (ho : f_Ifs_serve n S SD F σ a1 a2 = some z) : jj_Mv l yX2_serve (Cond.code yX2_serve cX2_serve 5 none :: jw_t) { frames := 0, cells := 0, slots := 0, locals := 0 } D vwCl ad cA (gc n S SD) [.ref (ad 16), .int a1, .int a2] σ z := by
  refine jj_ofv (cc := cX2_serve) (nL := 5) (ret := none) rfl ho (Nat.le_of_ble_eq_true rfl) ?_
  intro p e s m below meth c C hr hlocks
  generalize hA : va_A (jj_w ad cA (gc n S SD) σ) s.heap.size = A at C ⊢
  have hRm : 0 ≤ (headSpec (Cond.code yX2_serve cX2_serve 5 none :: jw_t) { frames := 0, cells := 0, slots := 0, locals := 0 }).room.frames ∧ 0 ≤ (headSpec (Cond.code yX2_serve cX2_serve 5 none :: jw_t) { frames := 0, cells := 0, slots := 0, locals := 0 }).room.locals := ⟨Nat.le_refl _, Nat.le_refl _⟩
  generalize (headSpec (Cond.code yX2_serve cX2_serve 5 none :: jw_t) { frames := 0, cells := 0, slots := 0, locals := 0 }).room = R at C hRm ⊢
  generalize List.toArray ([.ref (ad 16), .int a1, .int a2] : List Value) = args at C ⊢
  refine jj_sub (lv' := [(0, .ref (ad 16)), (1, .int a1), (2, .int a2)]) [0, 1, 2] rfl ?_
  unfold f_Ifs_serve
  refine jj_iload_n C 1 dX2_serve_0 rfl rfl ?_
  refine jj_bipush C (v := (8 : Int32)) dX2_serve_1 (by decide) ?_
  refine jj_imul C dX2_serve_3 ?_
  refine jj_aload_n C 0 dX2_serve_4 rfl rfl ?_
  refine jj_getr C 16 2 in_Ifs (g_16 n S SD) k_Ifs (by decide) fl_Ifs_26 rfl dX2_serve_5 ?_
  refine jj_getr C 10 4 in_Packets (g_10 n S SD) k_Packets (by decide) fl_Ifs_106 rfl dX2_serve_8 ?_
  refine jj_iload_n C 2 dX2_serve_11 rfl rfl ?_
  refine jj_iald C 14 (g_14 n S SD) dX2_serve_12 ?_
  refine jj_iadd C dX2_serve_13 ?_
  refine jj_ltn (fun v3_1 => ?_)
  refine jj_istore_n C [(3, .int v3_1), (0, .ref (ad 16)), (1, .int a1), (2, .int a2)] dX2_serve_14 rfl (by decide) rfl ?_
  refine jj_aload_n C 1 dX2_serve_15 rfl rfl ?_
  refine jj_getr C 16 6 in_Ifs (g_16 n S SD) k_Ifs (by decide) fl_Ifs_48 rfl dX2_serve_16 ?_
  refine jj_iload_n C 0 dX2_serve_19 rfl rfl ?_
  refine jj_iald C 28 (g_28 n S SD) dX2_serve_20 ?_
  refine jj_ltn (fun v4_2 => ?_)
  refine jj_istore C [(4, .int v4_2), (3, .int v3_1), (0, .ref (ad 16)), (1, .int a1), (2, .int a2)] dX2_serve_21 (by decide) rfl ?_
  refine jj_aload_n C 2 dX2_serve_23 rfl rfl ?_
  refine jj_getr C 16 2 in_Ifs (g_16 n S SD) k_Ifs (by decide) fl_Ifs_26 rfl dX2_serve_24 ?_
  refine jj_getr C 10 3 in_Packets (g_10 n S SD) k_Packets (by decide) fl_Ifs_109 rfl dX2_serve_27 ?_
  refine jj_iload_n C 4 dX2_serve_30 rfl rfl ?_
  refine jj_zald C 13 (g_13 n S SD) dX2_serve_31 ?_
  refine jj_if_eq C (tgt := 50) dX2_serve_32 (by decide) (fun _ => ?_) (fun _ => ?_)
  · refine jj_aload_n C 2 dX2_serve_50 rfl rfl ?_
    refine jj_getr C 16 2 in_Ifs (g_16 n S SD) k_Ifs (by decide) fl_Ifs_26 rfl dX2_serve_51 ?_
    refine jj_getr C 10 5 in_Packets (g_10 n S SD) k_Packets (by decide) fl_Ifs_112 rfl dX2_serve_54 ?_
    refine jj_iload_n C 4 dX2_serve_57 rfl rfl ?_
    refine jj_iload C 0 dX2_serve_58 rfl ?_
    refine jj_iast C 15 (g_15 n S SD) dX2_serve_60 ?_
    refine jj_stn (fun σ3 => ?_)
    exact jj_vret C hr hlocks dX2_serve_61
  · refine jj_aload_n C 2 dX2_serve_35 rfl rfl ?_
    refine jj_getr C 16 6 in_Ifs (g_16 n S SD) k_Ifs (by decide) fl_Ifs_48 rfl dX2_serve_36 ?_
    refine jj_iload_n C 1 dX2_serve_39 rfl rfl ?_
    refine jj_aload_n C 2 dX2_serve_40 rfl rfl ?_
    refine jj_getr C 16 2 in_Ifs (g_16 n S SD) k_Ifs (by decide) fl_Ifs_26 rfl dX2_serve_41 ?_
    refine jj_getr C 10 5 in_Packets (g_10 n S SD) k_Packets (by decide) fl_Ifs_112 rfl dX2_serve_44 ?_
    refine jj_iload_n C 4 dX2_serve_47 rfl rfl ?_
    refine jj_iald C 15 (g_15 n S SD) dX2_serve_48 ?_
    refine jj_iast C 28 (g_28 n S SD) dX2_serve_49 ?_
    refine jj_stn (fun σ4 => ?_)
    refine jj_aload_n C 2 dX2_serve_50 rfl rfl ?_
    refine jj_getr C 16 2 in_Ifs (g_16 n S SD) k_Ifs (by decide) fl_Ifs_26 rfl dX2_serve_51 ?_
    refine jj_getr C 10 5 in_Packets (g_10 n S SD) k_Packets (by decide) fl_Ifs_112 rfl dX2_serve_54 ?_
    refine jj_iload_n C 4 dX2_serve_57 rfl rfl ?_
    refine jj_iload C 0 dX2_serve_58 rfl ?_
    refine jj_iast C 15 (g_15 n S SD) dX2_serve_60 ?_
    refine jj_stn (fun σ5 => ?_)
    exact jj_vret C hr hlocks dX2_serve_61

set_option maxHeartbeats 4000000 in
set_option maxRecDepth 100000 in
theorem c_Queues_addp {l : Launch} {D : va_G} {ad : Nat → Nat} {cA : FieldType → ClassId} {n S SD F : Nat} {σ : jj_S} {a1 a2 : Int32} {z : jj_S} (ho : f_Queues_addp n S SD F σ a1 a2 = some z) : jj_Mv l yX5_add (Cond.code yX5_add cX5_add 3 none :: jw_t) { frames := 0, cells := 0, slots := 0, locals := 0 } D vwCl ad cA (gc n S SD) [.ref (ad 24), .int a1, .int a2] σ z := by
  refine jj_ofv (cc := cX5_add) (nL := 3) (ret := none) rfl ho (Nat.le_of_ble_eq_true rfl) ?_
  intro p e s m below meth c C hr hlocks
  generalize hA : va_A (jj_w ad cA (gc n S SD) σ) s.heap.size = A at C ⊢
  have hRm : 0 ≤ (headSpec (Cond.code yX5_add cX5_add 3 none :: jw_t) { frames := 0, cells := 0, slots := 0, locals := 0 }).room.frames ∧ 0 ≤ (headSpec (Cond.code yX5_add cX5_add 3 none :: jw_t) { frames := 0, cells := 0, slots := 0, locals := 0 }).room.locals := ⟨Nat.le_refl _, Nat.le_refl _⟩
  generalize (headSpec (Cond.code yX5_add cX5_add 3 none :: jw_t) { frames := 0, cells := 0, slots := 0, locals := 0 }).room = R at C hRm ⊢
  generalize List.toArray ([.ref (ad 24), .int a1, .int a2] : List Value) = args at C ⊢
  refine jj_sub (lv' := [(0, .ref (ad 24)), (1, .int a1), (2, .int a2)]) [0, 1, 2] rfl ?_
  unfold f_Queues_addp
  refine jj_aload_n C 0 dX5_add_0 rfl rfl ?_
  refine jj_getr C 24 2 in_Queues (g_24 n S SD) k_Queues (by decide) fl_Queues_17 rfl dX5_add_1 ?_
  refine jj_iload_n C 1 dX5_add_4 rfl rfl ?_
  refine jj_aload_n C 0 dX5_add_5 rfl rfl ?_
  refine jj_geti C 24 1 in_Queues (g_24 n S SD) k_Queues (by decide) fl_Queues_13 rfl dX5_add_6 ?_
  refine jj_imul C dX5_add_9 ?_
  refine jj_aload_n C 0 dX5_add_10 rfl rfl ?_
  refine jj_getr C 24 3 in_Queues (g_24 n S SD) k_Queues (by decide) fl_Queues_21 rfl dX5_add_11 ?_
  refine jj_iload_n C 1 dX5_add_14 rfl rfl ?_
  refine jj_iald C 26 (g_26 n S SD) dX5_add_15 ?_
  refine jj_iadd C dX5_add_16 ?_
  refine jj_iload_n C 2 dX5_add_17 rfl rfl ?_
  refine jj_iast C 25 (g_25 n S SD) dX5_add_18 ?_
  refine jj_stn (fun σ1 => ?_)
  refine jj_aload_n C 0 dX5_add_19 rfl rfl ?_
  refine jj_getr C 24 3 in_Queues (g_24 n S SD) k_Queues (by decide) fl_Queues_21 rfl dX5_add_20 ?_
  refine jj_iload_n C 1 dX5_add_23 rfl rfl ?_
  refine jj_dup2 C dX5_add_24 rfl rfl ?_
  refine jj_iald C 26 (g_26 n S SD) dX5_add_25 ?_
  refine jj_iconst C (v := (1 : Int32)) dX5_add_26 (by decide) ?_
  refine jj_iadd C dX5_add_27 ?_
  refine jj_iast C 26 (g_26 n S SD) dX5_add_28 ?_
  refine jj_stn (fun σ2 => ?_)
  exact jj_vret C hr hlocks dX5_add_29

set_option maxHeartbeats 4000000 in
set_option maxRecDepth 100000 in
theorem c_Complete_add {l : Launch} {D : va_G} {ad : Nat → Nat} {cA : FieldType → ClassId} {n S SD F : Nat} {σ : jj_S} {a1 a2 : Int32} {z : jj_S} (ho : f_Complete_add n S SD F σ a1 a2 = some z) : jj_Mv l yX0_add (Cond.code yX0_add cX0_add 3 none :: jw_t) { frames := 0, cells := 0, slots := 0, locals := 0 } D vwCl ad cA (gc n S SD) [.ref (ad 17), .int a1, .int a2] σ z := by
  refine jj_ofv (cc := cX0_add) (nL := 3) (ret := none) rfl ho (Nat.le_of_ble_eq_true rfl) ?_
  intro p e s m below meth c C hr hlocks
  generalize hA : va_A (jj_w ad cA (gc n S SD) σ) s.heap.size = A at C ⊢
  have hRm : 0 ≤ (headSpec (Cond.code yX0_add cX0_add 3 none :: jw_t) { frames := 0, cells := 0, slots := 0, locals := 0 }).room.frames ∧ 0 ≤ (headSpec (Cond.code yX0_add cX0_add 3 none :: jw_t) { frames := 0, cells := 0, slots := 0, locals := 0 }).room.locals := ⟨Nat.le_refl _, Nat.le_refl _⟩
  generalize (headSpec (Cond.code yX0_add cX0_add 3 none :: jw_t) { frames := 0, cells := 0, slots := 0, locals := 0 }).room = R at C hRm ⊢
  generalize List.toArray ([.ref (ad 17), .int a1, .int a2] : List Value) = args at C ⊢
  refine jj_sub (lv' := [(0, .ref (ad 17)), (1, .int a1), (2, .int a2)]) [0, 1, 2] rfl ?_
  unfold f_Complete_add
  refine jj_aload_n C 0 dX0_add_0 rfl rfl ?_
  refine jj_getr C 17 0 in_Complete (g_17 n S SD) k_Complete (by decide) fl_Complete_9 rfl dX0_add_1 ?_
  refine jj_aload_n C 0 dX0_add_4 rfl rfl ?_
  refine jj_geti C 17 2 in_Complete (g_17 n S SD) k_Complete (by decide) fl_Complete_18 rfl dX0_add_5 ?_
  refine jj_iload_n C 1 dX0_add_8 rfl rfl ?_
  refine jj_iast C 18 (g_18 n S SD) dX0_add_9 ?_
  refine jj_stn (fun σ1 => ?_)
  refine jj_aload_n C 0 dX0_add_10 rfl rfl ?_
  refine jj_getr C 17 1 in_Complete (g_17 n S SD) k_Complete (by decide) fl_Complete_15 rfl dX0_add_11 ?_
  refine jj_aload_n C 0 dX0_add_14 rfl rfl ?_
  refine jj_geti C 17 2 in_Complete (g_17 n S SD) k_Complete (by decide) fl_Complete_18 rfl dX0_add_15 ?_
  refine jj_iload_n C 2 dX0_add_18 rfl rfl ?_
  refine jj_iast C 19 (g_19 n S SD) dX0_add_19 ?_
  refine jj_stn (fun σ2 => ?_)
  refine jj_aload_n C 0 dX0_add_20 rfl rfl ?_
  refine jj_dup C dX0_add_21 rfl ?_
  refine jj_geti C 17 2 in_Complete (g_17 n S SD) k_Complete (by decide) fl_Complete_18 rfl dX0_add_22 ?_
  refine jj_iconst C (v := (1 : Int32)) dX0_add_25 (by decide) ?_
  refine jj_iadd C dX0_add_26 ?_
  refine jj_puti C 17 2 in_Complete (g_17 n S SD) k_Complete (by decide) fl_Complete_18 tyX0 tyX0_ok nmX0 rfl (by decide +kernel) rfl dX0_add_27 ?_
  refine jj_stn (fun σ3 => ?_)
  exact jj_vret C hr hlocks dX0_add_30

set_option maxHeartbeats 4000000 in
set_option maxRecDepth 100000 in
theorem c_Ifs_accept {l : Launch} {D : va_G} {ad : Nat → Nat} {cA : FieldType → ClassId} {n S SD F : Nat} {σ : jj_S} {a1 a2 a3 : Int32} {z : jj_S} (ho : f_Ifs_accept n S SD F σ a1 a2 a3 = some z) : jj_Mv l yX2_accept (Cond.code yX2_accept cX2_accept 5 none :: jw_t) { frames := 1, cells := 0, slots := 0, locals := 40 } D vwCl ad cA (gc n S SD) [.ref (ad 16), .int a1, .int a2, .int a3] σ z := by
  refine jj_ofv (cc := cX2_accept) (nL := 5) (ret := none) rfl ho (Nat.le_of_ble_eq_true rfl) ?_
  intro p e s m below meth c C hr hlocks
  generalize hA : va_A (jj_w ad cA (gc n S SD) σ) s.heap.size = A at C ⊢
  have hRm : 1 ≤ (headSpec (Cond.code yX2_accept cX2_accept 5 none :: jw_t) { frames := 1, cells := 0, slots := 0, locals := 40 }).room.frames ∧ 40 ≤ (headSpec (Cond.code yX2_accept cX2_accept 5 none :: jw_t) { frames := 1, cells := 0, slots := 0, locals := 40 }).room.locals := ⟨Nat.le_refl _, Nat.le_refl _⟩
  generalize (headSpec (Cond.code yX2_accept cX2_accept 5 none :: jw_t) { frames := 1, cells := 0, slots := 0, locals := 40 }).room = R at C hRm ⊢
  generalize List.toArray ([.ref (ad 16), .int a1, .int a2, .int a3] : List Value) = args at C ⊢
  refine jj_sub (lv' := [(0, .ref (ad 16)), (1, .int a1), (2, .int a2), (3, .int a3)]) [0, 1, 2, 3] rfl ?_
  unfold f_Ifs_accept
  refine jj_iload_n C 2 dX2_accept_0 rfl rfl ?_
  refine jj_callSi C (As := [.int a2]) (rest := []) (fun z hz => c_Packets_isLast hz) (q_Ifs_89 C.2.2.2.2.1 (rm := { frames := 0, cells := 0, slots := 0, locals := 0 }) rfl rfl ⟨Nat.le_trans (by decide) hRm.1, Nat.le_trans (by decide) hRm.2⟩) rfl rfl (Nat.le_of_ble_eq_true rfl) dX2_accept_1 (fun r2 σ1 _ => ?_)
  refine jj_if_ne C (tgt := 8) dX2_accept_4 (by decide) (fun _ => ?_) (fun _ => ?_)
  · refine jj_iload_n C 2 dX2_accept_8 rfl rfl ?_
    refine jj_callSi C (As := [.int a2]) (rest := []) (fun z hz => c_Packets_number hz) (q_Ifs_95 C.2.2.2.2.1 (rm := { frames := 0, cells := 0, slots := 0, locals := 0 }) rfl rfl ⟨Nat.le_trans (by decide) hRm.1, Nat.le_trans (by decide) hRm.2⟩) rfl rfl (Nat.le_of_ble_eq_true rfl) dX2_accept_9 (fun r4 σ3 _ => ?_)
    refine jj_istore C [(4, .int r4), (0, .ref (ad 16)), (1, .int a1), (2, .int a2), (3, .int a3)] dX2_accept_12 (by decide) rfl ?_
    refine jj_iload_n C 3 dX2_accept_14 rfl rfl ?_
    refine jj_callSi C (As := [.int a2]) (rest := []) (fun z hz => c_Packets_isOfReply hz) (q_Ifs_83 C.2.2.2.2.1 (rm := { frames := 0, cells := 0, slots := 0, locals := 0 }) rfl rfl ⟨Nat.le_trans (by decide) hRm.1, Nat.le_trans (by decide) hRm.2⟩) rfl rfl (Nat.le_of_ble_eq_true rfl) dX2_accept_15 (fun r6 σ5 _ => ?_)
    refine jj_if_eq C (tgt := 34) dX2_accept_18 (by decide) (fun _ => ?_) (fun _ => ?_)
    · refine jj_aload_n C 1 dX2_accept_34 rfl rfl ?_
      refine jj_iload_n C 2 dX2_accept_35 rfl rfl ?_
      refine jj_iload C 0 dX2_accept_36 rfl ?_
      refine jj_callVv C (As := [.int a1, .int r4]) (rest := []) (fun z hz => c_Ifs_serve hz) (q_Ifs_102 C.2.2.2.2.1 (rm := { frames := 0, cells := 0, slots := 0, locals := 0 }) rfl rfl ⟨Nat.le_trans (by decide) hRm.1, Nat.le_trans (by decide) hRm.2⟩) (g_16 n S SD) k_Ifs rfl rfl (Nat.le_of_ble_eq_true rfl) dX2_accept_38 (fun σ7 _ => ?_)
      refine jj_aload_n C 1 dX2_accept_41 rfl rfl ?_
      refine jj_getr C 16 4 in_Ifs (g_16 n S SD) k_Ifs (by decide) fl_Ifs_45 rfl dX2_accept_42 ?_
      refine jj_iload_n C 2 dX2_accept_45 rfl rfl ?_
      refine jj_iload C 0 dX2_accept_46 rfl ?_
      refine jj_callVv C (As := [.int a1, .int r4]) (rest := []) (fun z hz => c_Queues_addp hz) (q_Ifs_105 C.2.2.2.2.1 (rm := { frames := 0, cells := 0, slots := 0, locals := 0 }) rfl rfl ⟨Nat.le_trans (by decide) hRm.1, Nat.le_trans (by decide) hRm.2⟩) (g_24 n S SD) k_Queues rfl rfl (Nat.le_of_ble_eq_true rfl) dX2_accept_48 (fun σ8 _ => ?_)
      exact jj_vret C hr hlocks dX2_accept_51
    · refine jj_aload_n C 1 dX2_accept_21 rfl rfl ?_
      refine jj_getr C 16 5 in_Ifs (g_16 n S SD) k_Ifs (by decide) fl_Ifs_12 rfl dX2_accept_22 ?_
      refine jj_iload C 0 dX2_accept_25 rfl ?_
      refine jj_iload_n C 4 dX2_accept_27 rfl rfl ?_
      refine jj_callVv C (As := [.int r4, .int a3]) (rest := []) (fun z hz => c_Complete_add hz) (q_Ifs_98 C.2.2.2.2.1 (rm := { frames := 0, cells := 0, slots := 0, locals := 0 }) rfl rfl ⟨Nat.le_trans (by decide) hRm.1, Nat.le_trans (by decide) hRm.2⟩) (g_17 n S SD) k_Complete rfl rfl (Nat.le_of_ble_eq_true rfl) dX2_accept_28 (fun σ9 _ => ?_)
      refine jj_goto C (tgt := 51) dX2_accept_31 (by decide) ?_
      exact jj_vret C hr hlocks dX2_accept_51
  · exact jj_vret C hr hlocks dX2_accept_7

set_option maxHeartbeats 4000000 in
set_option maxRecDepth 100000 in
theorem l_Ifs_takeAll_15 {p : Program} {l : Launch} {e : Env} {R : Room} {s : State} {m : MethodId} {args : Array Value} {below : List Frame} {meth : Method} {c : Code} {D : va_G} {A : Nat → Prop} {ad : Nat → Nat} {cA : FieldType → ClassId} {n S SD F : Nat} (C : jj_C p R s m args c D vwCl A ad cA (gc n S SD) 5 0 0 cX2_takeAll RX2 jw_t) (hr : meth.sig.returnType = none) (hlocks : meth.locks = false) (hRm : 2 ≤ R.frames ∧ 80 ≤ R.locals) {K : jj_S → Int32 → Int32 → Int32 → Option jj_S} (hK : ∀ (σ : jj_S) (x1 x2 x3 : Int32), jj_J p l e R s m args below meth c D vwCl A ad cA (gc n S SD) 5 0 0 (jj_Qv below D vwCl A ad cA (gc n S SD) args s 0 0) (K σ x1 x2 x3) σ 89 [(0, .ref (ad 16)), (1, .int x1), (2, .int x2), (3, .int x3)] []) : ∀ (k : Nat) (σ : jj_S) (x1 x2 x3 : Int32), jj_J p l e R s m args below meth c D vwCl A ad cA (gc n S SD) 5 0 0 (jj_Qv below D vwCl A ad cA (gc n S SD) args s 0 0) (jj_lp3 (b_Ifs_takeAll_15 n S SD F K) k σ x1 x2 x3) σ 15 [(0, .ref (ad 16)), (1, .int x1), (2, .int x2), (3, .int x3)] [] := by
  refine jj_loop3 (T := fun o σ x1 x2 x3 => jj_J p l e R s m args below meth c D vwCl A ad cA (gc n S SD) 5 0 0 (jj_Qv below D vwCl A ad cA (gc n S SD) args s 0 0) o σ 15 [(0, .ref (ad 16)), (1, .int x1), (2, .int x2), (3, .int x3)] []) (fun _ _ _ _ _ h => by cases h) ?_
  intro rec ih σ x1 x2 x3
  unfold b_Ifs_takeAll_15
  refine jj_iload_n C 3 dX2_takeAll_15 rfl rfl ?_
  refine jj_aload_n C 0 dX2_takeAll_16 rfl rfl ?_
  refine jj_getr C 16 0 in_Ifs (g_16 n S SD) k_Ifs (by decide) fl_Ifs_18 rfl dX2_takeAll_17 ?_
  refine jj_geti C 1 4 in_Grid (g_1 n S SD) k_Grid (by decide) fl_Ifs_56 rfl dX2_takeAll_20 ?_
  refine jj_icmp_ge C (tgt := 89) dX2_takeAll_23 (by decide) (fun _ => ?_) (fun _ => ?_)
  · refine jj_sub [0, 1, 2, 3] rfl ?_
    exact hK σ x1 x2 x3
  · refine jj_aload_n C 0 dX2_takeAll_26 rfl rfl ?_
    refine jj_getr C 16 0 in_Ifs (g_16 n S SD) k_Ifs (by decide) fl_Ifs_18 rfl dX2_takeAll_27 ?_
    refine jj_iload_n C 2 dX2_takeAll_30 rfl rfl ?_
    refine jj_iconst C (v := (5 : Int32)) dX2_takeAll_31 (by decide) ?_
    refine jj_iload_n C 3 dX2_takeAll_32 rfl rfl ?_
    refine jj_callVi C (As := [.int x2, .int (5 : Int32), .int x3]) (rest := []) (fun z hz => c_Grid_slot hz) (q_Ifs_59 C.2.2.2.2.1 (rm := { frames := 0, cells := 0, slots := 0, locals := 0 }) rfl rfl ⟨Nat.le_trans (by decide) hRm.1, Nat.le_trans (by decide) hRm.2⟩) (g_1 n S SD) k_Grid rfl rfl (Nat.le_of_ble_eq_true rfl) dX2_takeAll_33 (fun r2 σ1 _ => ?_)
    refine jj_istore C [(4, .int r2), (0, .ref (ad 16)), (1, .int x1), (2, .int x2), (3, .int x3)] dX2_takeAll_36 (by decide) rfl ?_
    refine jj_aload_n C 1 dX2_takeAll_38 rfl rfl ?_
    refine jj_getr C 16 1 in_Ifs (g_16 n S SD) k_Ifs (by decide) fl_Ifs_22 rfl dX2_takeAll_39 ?_
    refine jj_getr C 2 4 in_Links (g_2 n S SD) k_Links (by decide) fl_Ifs_63 rfl dX2_takeAll_42 ?_
    refine jj_iload C 0 dX2_takeAll_45 rfl ?_
    refine jj_iald C 6 (g_6 n S SD) dX2_takeAll_47 ?_
    refine jj_if_le C (tgt := 83) dX2_takeAll_48 (by decide) (fun _ => ?_) (fun _ => ?_)
    · refine jj_iinc C (v := x3 + (1 : Int32)) [(3, .int (x3 + (1 : Int32))), (4, .int r2), (0, .ref (ad 16)), (1, .int x1), (2, .int x2)] 4 dX2_takeAll_83 rfl rfl (by decide) rfl ?_
      refine jj_goto C (tgt := 15) dX2_takeAll_86 (by decide) ?_
      refine jj_sub [2, 3, 4, 0] rfl ?_
      exact ih σ1 x1 x2 (x3 + (1 : Int32))
    · refine jj_aload_n C 1 dX2_takeAll_51 rfl rfl ?_
      refine jj_iload_n C 3 dX2_takeAll_52 rfl rfl ?_
      refine jj_aload_n C 1 dX2_takeAll_53 rfl rfl ?_
      refine jj_getr C 16 1 in_Ifs (g_16 n S SD) k_Ifs (by decide) fl_Ifs_22 rfl dX2_takeAll_54 ?_
      refine jj_iload C 0 dX2_takeAll_57 rfl ?_
      refine jj_callVi C (As := [.int r2]) (rest := [.int x2, .ref (ad 16)]) (fun z hz => c_Links_firstFlit hz) (q_Ifs_68 C.2.2.2.2.1 (rm := { frames := 0, cells := 0, slots := 0, locals := 0 }) rfl rfl ⟨Nat.le_trans (by decide) hRm.1, Nat.le_trans (by decide) hRm.2⟩) (g_2 n S SD) k_Links rfl rfl (Nat.le_of_ble_eq_true rfl) dX2_takeAll_59 (fun r4 σ3 _ => ?_)
      refine jj_callVi C (As := [.int x2, .int r4]) (rest := []) (fun z hz => c_Ifs_mayTake hz) (q_Ifs_72 C.2.2.2.2.1 (rm := { frames := 1, cells := 0, slots := 0, locals := 40 }) rfl rfl ⟨Nat.le_trans (by decide) hRm.1, Nat.le_trans (by decide) hRm.2⟩) (g_16 n S SD) k_Ifs rfl rfl (Nat.le_of_ble_eq_true rfl) dX2_takeAll_62 (fun r6 σ5 _ => ?_)
      refine jj_if_eq C (tgt := 83) dX2_takeAll_65 (by decide) (fun _ => ?_) (fun _ => ?_)
      · refine jj_iinc C (v := x3 + (1 : Int32)) [(3, .int (x3 + (1 : Int32))), (4, .int r2), (0, .ref (ad 16)), (1, .int x1), (2, .int x2)] 4 dX2_takeAll_83 rfl rfl (by decide) rfl ?_
        refine jj_goto C (tgt := 15) dX2_takeAll_86 (by decide) ?_
        refine jj_sub [2, 3, 4, 0] rfl ?_
        exact ih σ5 x1 x2 (x3 + (1 : Int32))
      · refine jj_aload_n C 1 dX2_takeAll_68 rfl rfl ?_
        refine jj_iload_n C 3 dX2_takeAll_69 rfl rfl ?_
        refine jj_aload_n C 1 dX2_takeAll_70 rfl rfl ?_
        refine jj_getr C 16 1 in_Ifs (g_16 n S SD) k_Ifs (by decide) fl_Ifs_22 rfl dX2_takeAll_71 ?_
        refine jj_iload C 0 dX2_takeAll_74 rfl ?_
        refine jj_callVi C (As := [.int r2]) (rest := [.int x2, .ref (ad 16)]) (fun z hz => c_Links_takeOut hz) (q_Ifs_76 C.2.2.2.2.1 (rm := { frames := 1, cells := 0, slots := 0, locals := 40 }) rfl rfl ⟨Nat.le_trans (by decide) hRm.1, Nat.le_trans (by decide) hRm.2⟩) (g_2 n S SD) k_Links rfl rfl (Nat.le_of_ble_eq_true rfl) dX2_takeAll_76 (fun r8 σ7 _ => ?_)
        refine jj_iload_n C 2 dX2_takeAll_79 rfl rfl ?_
        refine jj_callVv C (As := [.int x2, .int r8, .int x1]) (rest := []) (fun z hz => c_Ifs_accept hz) (q_Ifs_79 C.2.2.2.2.1 (rm := { frames := 1, cells := 0, slots := 0, locals := 40 }) rfl rfl ⟨Nat.le_trans (by decide) hRm.1, Nat.le_trans (by decide) hRm.2⟩) (g_16 n S SD) k_Ifs rfl rfl (Nat.le_of_ble_eq_true rfl) dX2_takeAll_80 (fun σ9 _ => ?_)
        refine jj_iinc C (v := x3 + (1 : Int32)) [(3, .int (x3 + (1 : Int32))), (4, .int r2), (0, .ref (ad 16)), (1, .int x1), (2, .int x2)] 4 dX2_takeAll_83 rfl rfl (by decide) rfl ?_
        refine jj_goto C (tgt := 15) dX2_takeAll_86 (by decide) ?_
        refine jj_sub [2, 3, 4, 0] rfl ?_
        exact ih σ9 x1 x2 (x3 + (1 : Int32))

set_option maxHeartbeats 4000000 in
set_option maxRecDepth 100000 in
theorem l_Ifs_takeAll_2 {p : Program} {l : Launch} {e : Env} {R : Room} {s : State} {m : MethodId} {args : Array Value} {below : List Frame} {meth : Method} {c : Code} {D : va_G} {A : Nat → Prop} {ad : Nat → Nat} {cA : FieldType → ClassId} {n S SD F : Nat} (C : jj_C p R s m args c D vwCl A ad cA (gc n S SD) 5 0 0 cX2_takeAll RX2 jw_t) (hr : meth.sig.returnType = none) (hlocks : meth.locks = false) (hRm : 2 ≤ R.frames ∧ 80 ≤ R.locals) {K : jj_S → Int32 → Int32 → Option jj_S} (hK : ∀ (σ : jj_S) (x1 x2 : Int32), jj_J p l e R s m args below meth c D vwCl A ad cA (gc n S SD) 5 0 0 (jj_Qv below D vwCl A ad cA (gc n S SD) args s 0 0) (K σ x1 x2) σ 95 [(0, .ref (ad 16)), (1, .int x1), (2, .int x2)] []) : ∀ (k : Nat) (σ : jj_S) (x1 x2 : Int32), jj_J p l e R s m args below meth c D vwCl A ad cA (gc n S SD) 5 0 0 (jj_Qv below D vwCl A ad cA (gc n S SD) args s 0 0) (jj_lp2 (b_Ifs_takeAll_2 n S SD F K) k σ x1 x2) σ 2 [(0, .ref (ad 16)), (1, .int x1), (2, .int x2)] [] := by
  refine jj_loop2 (T := fun o σ x1 x2 => jj_J p l e R s m args below meth c D vwCl A ad cA (gc n S SD) 5 0 0 (jj_Qv below D vwCl A ad cA (gc n S SD) args s 0 0) o σ 2 [(0, .ref (ad 16)), (1, .int x1), (2, .int x2)] []) (fun _ _ _ _ h => by cases h) ?_
  intro rec ih σ x1 x2
  unfold b_Ifs_takeAll_2
  refine jj_iload_n C 2 dX2_takeAll_2 rfl rfl ?_
  refine jj_aload_n C 0 dX2_takeAll_3 rfl rfl ?_
  refine jj_getr C 16 0 in_Ifs (g_16 n S SD) k_Ifs (by decide) fl_Ifs_18 rfl dX2_takeAll_4 ?_
  refine jj_geti C 1 5 in_Grid (g_1 n S SD) k_Grid (by decide) fl_Ifs_32 rfl dX2_takeAll_7 ?_
  refine jj_icmp_ge C (tgt := 95) dX2_takeAll_10 (by decide) (fun _ => ?_) (fun _ => ?_)
  · refine jj_sub [0, 1, 2] rfl ?_
    exact hK σ x1 x2
  · refine jj_iconst C (v := (0 : Int32)) dX2_takeAll_13 (by decide) ?_
    refine jj_istore_n C [(3, .int (0 : Int32)), (0, .ref (ad 16)), (1, .int x1), (2, .int x2)] dX2_takeAll_14 rfl (by decide) rfl ?_
    refine jj_sub [1, 2, 3, 0] rfl ?_
    refine l_Ifs_takeAll_15 C hr hlocks hRm (fun σ10 x1_11 x2_12 x3_13 => ?_) F σ x1 x2 (0 : Int32)
    refine jj_iinc C (v := x2_12 + (1 : Int32)) [(2, .int (x2_12 + (1 : Int32))), (0, .ref (ad 16)), (1, .int x1_11), (3, .int x3_13)] 2 dX2_takeAll_89 rfl rfl (by decide) rfl ?_
    refine jj_goto C (tgt := 2) dX2_takeAll_92 (by decide) ?_
    refine jj_sub [1, 2, 0] rfl ?_
    exact ih σ10 x1_11 (x2_12 + (1 : Int32))

set_option maxHeartbeats 4000000 in
set_option maxRecDepth 100000 in
theorem c_Ifs_takeAll {l : Launch} {D : va_G} {ad : Nat → Nat} {cA : FieldType → ClassId} {n S SD F : Nat} {σ : jj_S} {a1 : Int32} {z : jj_S} (ho : f_Ifs_takeAll n S SD F σ a1 = some z) : jj_Mv l yX2_takeAll (Cond.code yX2_takeAll cX2_takeAll 5 none :: jw_t) { frames := 2, cells := 0, slots := 0, locals := 80 } D vwCl ad cA (gc n S SD) [.ref (ad 16), .int a1] σ z := by
  refine jj_ofv (cc := cX2_takeAll) (nL := 5) (ret := none) rfl ho (Nat.le_of_ble_eq_true rfl) ?_
  intro p e s m below meth c C hr hlocks
  generalize hA : va_A (jj_w ad cA (gc n S SD) σ) s.heap.size = A at C ⊢
  have hRm : 2 ≤ (headSpec (Cond.code yX2_takeAll cX2_takeAll 5 none :: jw_t) { frames := 2, cells := 0, slots := 0, locals := 80 }).room.frames ∧ 80 ≤ (headSpec (Cond.code yX2_takeAll cX2_takeAll 5 none :: jw_t) { frames := 2, cells := 0, slots := 0, locals := 80 }).room.locals := ⟨Nat.le_refl _, Nat.le_refl _⟩
  generalize (headSpec (Cond.code yX2_takeAll cX2_takeAll 5 none :: jw_t) { frames := 2, cells := 0, slots := 0, locals := 80 }).room = R at C hRm ⊢
  generalize List.toArray ([.ref (ad 16), .int a1] : List Value) = args at C ⊢
  refine jj_sub (lv' := [(0, .ref (ad 16)), (1, .int a1)]) [0, 1] rfl ?_
  unfold f_Ifs_takeAll
  refine jj_iconst C (v := (0 : Int32)) dX2_takeAll_0 (by decide) ?_
  refine jj_istore_n C [(2, .int (0 : Int32)), (0, .ref (ad 16)), (1, .int a1)] dX2_takeAll_1 rfl (by decide) rfl ?_
  refine jj_sub [1, 2, 0] rfl ?_
  refine l_Ifs_takeAll_2 C hr hlocks hRm (fun σ14 x1_15 x2_16 => ?_) F σ a1 (0 : Int32)
  exact jj_vret C hr hlocks dX2_takeAll_95

set_option maxHeartbeats 4000000 in
set_option maxRecDepth 100000 in
theorem c_Queues_firstNumberp {l : Launch} {D : va_G} {ad : Nat → Nat} {cA : FieldType → ClassId} {n S SD F : Nat} {σ : jj_S} {a1 : Int32} {z : (Int32 × jj_S)} (ho : f_Queues_firstNumberp n S SD F σ a1 = some z) : jj_Mi l yX5_firstNumber (Cond.code yX5_firstNumber cX5_firstNumber 2 (some .int) :: jw_t) { frames := 0, cells := 0, slots := 0, locals := 0 } D vwCl ad cA (gc n S SD) [.ref (ad 24), .int a1] σ z := by
  refine jj_ofi (cc := cX5_firstNumber) (nL := 2) (ret := (some .int)) rfl ho (Nat.le_of_ble_eq_true rfl) ?_
  intro p e s m below meth c C hr hlocks
  generalize hA : va_A (jj_w ad cA (gc n S SD) σ) s.heap.size = A at C ⊢
  have hRm : 0 ≤ (headSpec (Cond.code yX5_firstNumber cX5_firstNumber 2 (some .int) :: jw_t) { frames := 0, cells := 0, slots := 0, locals := 0 }).room.frames ∧ 0 ≤ (headSpec (Cond.code yX5_firstNumber cX5_firstNumber 2 (some .int) :: jw_t) { frames := 0, cells := 0, slots := 0, locals := 0 }).room.locals := ⟨Nat.le_refl _, Nat.le_refl _⟩
  generalize (headSpec (Cond.code yX5_firstNumber cX5_firstNumber 2 (some .int) :: jw_t) { frames := 0, cells := 0, slots := 0, locals := 0 }).room = R at C hRm ⊢
  generalize List.toArray ([.ref (ad 24), .int a1] : List Value) = args at C ⊢
  refine jj_sub (lv' := [(0, .ref (ad 24)), (1, .int a1)]) [0, 1] rfl ?_
  unfold f_Queues_firstNumberp
  refine jj_aload_n C 0 dX5_firstNumber_0 rfl rfl ?_
  refine jj_getr C 24 2 in_Queues (g_24 n S SD) k_Queues (by decide) fl_Queues_17 rfl dX5_firstNumber_1 ?_
  refine jj_iload_n C 1 dX5_firstNumber_4 rfl rfl ?_
  refine jj_aload_n C 0 dX5_firstNumber_5 rfl rfl ?_
  refine jj_geti C 24 1 in_Queues (g_24 n S SD) k_Queues (by decide) fl_Queues_13 rfl dX5_firstNumber_6 ?_
  refine jj_imul C dX5_firstNumber_9 ?_
  refine jj_iald C 25 (g_25 n S SD) dX5_firstNumber_10 ?_
  exact jj_iret C hr hlocks dX5_firstNumber_11

set_option maxHeartbeats 4000000 in
set_option maxRecDepth 100000 in
theorem c_Packets_channel {l : Launch} {D : va_G} {ad : Nat → Nat} {cA : FieldType → ClassId} {n S SD F : Nat} {σ : jj_S} {a1 a2 : Int32} {z : (Int32 × jj_S)} (ho : f_Packets_channel n S SD F σ a1 a2 = some z) : jj_Mi l yX4_channel (Cond.code yX4_channel cX4_channel 4 (some .int) :: jw_t) { frames := 0, cells := 0, slots := 0, locals := 0 } D vwCl ad cA (gc n S SD) [.ref (ad 10), .int a1, .int a2] σ z := by
  refine jj_ofi (cc := cX4_channel) (nL := 4) (ret := (some .int)) rfl ho (Nat.le_of_ble_eq_true rfl) ?_
  intro p e s m below meth c C hr hlocks
  generalize hA : va_A (jj_w ad cA (gc n S SD) σ) s.heap.size = A at C ⊢
  have hRm : 0 ≤ (headSpec (Cond.code yX4_channel cX4_channel 4 (some .int) :: jw_t) { frames := 0, cells := 0, slots := 0, locals := 0 }).room.frames ∧ 0 ≤ (headSpec (Cond.code yX4_channel cX4_channel 4 (some .int) :: jw_t) { frames := 0, cells := 0, slots := 0, locals := 0 }).room.locals := ⟨Nat.le_refl _, Nat.le_refl _⟩
  generalize (headSpec (Cond.code yX4_channel cX4_channel 4 (some .int) :: jw_t) { frames := 0, cells := 0, slots := 0, locals := 0 }).room = R at C hRm ⊢
  generalize List.toArray ([.ref (ad 10), .int a1, .int a2] : List Value) = args at C ⊢
  refine jj_sub (lv' := [(0, .ref (ad 10)), (1, .int a1), (2, .int a2)]) [0, 1, 2] rfl ?_
  unfold f_Packets_channel
  refine jj_aload_n C 0 dX4_channel_0 rfl rfl ?_
  refine jj_getr C 10 1 in_Packets (g_10 n S SD) k_Packets (by decide) fl_Packets_9 rfl dX4_channel_1 ?_
  refine jj_iload_n C 1 dX4_channel_4 rfl rfl ?_
  refine jj_iald C 11 (g_11 n S SD) dX4_channel_5 ?_
  refine jj_aload_n C 0 dX4_channel_6 rfl rfl ?_
  refine jj_getr C 10 2 in_Packets (g_10 n S SD) k_Packets (by decide) fl_Packets_15 rfl dX4_channel_7 ?_
  refine jj_iload_n C 1 dX4_channel_10 rfl rfl ?_
  refine jj_iald C 12 (g_12 n S SD) dX4_channel_11 ?_
  refine jj_iadd C dX4_channel_12 ?_
  refine jj_aload_n C 0 dX4_channel_13 rfl rfl ?_
  refine jj_getr C 10 0 in_Packets (g_10 n S SD) k_Packets (by decide) fl_Packets_28 rfl dX4_channel_14 ?_
  refine jj_geti C 1 3 in_Grid (g_1 n S SD) k_Grid (by decide) fl_Packets_44 rfl dX4_channel_17 ?_
  refine jj_irem C dX4_channel_20 ?_
  refine jj_ltn (fun v3_1 => ?_)
  refine jj_istore_n C [(3, .int v3_1), (0, .ref (ad 10)), (1, .int a1), (2, .int a2)] dX4_channel_21 rfl (by decide) rfl ?_
  refine jj_iload_n C 3 dX4_channel_22 rfl rfl ?_
  refine jj_if_eq C (tgt := 38) dX4_channel_23 (by decide) (fun _ => ?_) (fun _ => ?_)
  · refine jj_iload_n C 0 dX4_channel_38 rfl rfl ?_
    exact jj_iret C hr hlocks dX4_channel_39
  · refine jj_iload_n C 0 dX4_channel_26 rfl rfl ?_
    refine jj_aload_n C 1 dX4_channel_27 rfl rfl ?_
    refine jj_getr C 10 0 in_Packets (g_10 n S SD) k_Packets (by decide) fl_Packets_28 rfl dX4_channel_28 ?_
    refine jj_geti C 1 3 in_Grid (g_1 n S SD) k_Grid (by decide) fl_Packets_44 rfl dX4_channel_31 ?_
    refine jj_iadd C dX4_channel_34 ?_
    refine jj_goto C (tgt := 39) dX4_channel_35 (by decide) ?_
    exact jj_iret C hr hlocks dX4_channel_39

set_option maxHeartbeats 4000000 in
set_option maxRecDepth 100000 in
theorem c_Packets_length {l : Launch} {D : va_G} {ad : Nat → Nat} {cA : FieldType → ClassId} {n S SD F : Nat} {σ : jj_S} {a1 a2 : Int32} {z : (Int32 × jj_S)} (ho : f_Packets_length n S SD F σ a1 a2 = some z) : jj_Mi l yX4_length (Cond.code yX4_length cX4_length 3 (some .int) :: jw_t) { frames := 0, cells := 0, slots := 0, locals := 0 } D vwCl ad cA (gc n S SD) [.ref (ad 10), .int a1, .int a2] σ z := by
  refine jj_ofi (cc := cX4_length) (nL := 3) (ret := (some .int)) rfl ho (Nat.le_of_ble_eq_true rfl) ?_
  intro p e s m below meth c C hr hlocks
  generalize hA : va_A (jj_w ad cA (gc n S SD) σ) s.heap.size = A at C ⊢
  have hRm : 0 ≤ (headSpec (Cond.code yX4_length cX4_length 3 (some .int) :: jw_t) { frames := 0, cells := 0, slots := 0, locals := 0 }).room.frames ∧ 0 ≤ (headSpec (Cond.code yX4_length cX4_length 3 (some .int) :: jw_t) { frames := 0, cells := 0, slots := 0, locals := 0 }).room.locals := ⟨Nat.le_refl _, Nat.le_refl _⟩
  generalize (headSpec (Cond.code yX4_length cX4_length 3 (some .int) :: jw_t) { frames := 0, cells := 0, slots := 0, locals := 0 }).room = R at C hRm ⊢
  generalize List.toArray ([.ref (ad 10), .int a1, .int a2] : List Value) = args at C ⊢
  refine jj_sub (lv' := [(0, .ref (ad 10)), (1, .int a1), (2, .int a2)]) [0, 1, 2] rfl ?_
  unfold f_Packets_length
  refine jj_aload_n C 0 dX4_length_0 rfl rfl ?_
  refine jj_getr C 10 3 in_Packets (g_10 n S SD) k_Packets (by decide) fl_Packets_18 rfl dX4_length_1 ?_
  refine jj_iload_n C 1 dX4_length_4 rfl rfl ?_
  refine jj_zald C 13 (g_13 n S SD) dX4_length_5 ?_
  refine jj_if_ne C (tgt := 11) dX4_length_6 (by decide) (fun _ => ?_) (fun _ => ?_)
  · refine jj_iload_n C 2 dX4_length_11 rfl rfl ?_
    refine jj_if_eq C (tgt := 19) dX4_length_12 (by decide) (fun _ => ?_) (fun _ => ?_)
    · refine jj_iconst C (v := (3 : Int32)) dX4_length_19 (by decide) ?_
      exact jj_iret C hr hlocks dX4_length_20
    · refine jj_iconst C (v := (1 : Int32)) dX4_length_15 (by decide) ?_
      refine jj_goto C (tgt := 20) dX4_length_16 (by decide) ?_
      exact jj_iret C hr hlocks dX4_length_20
  · refine jj_iconst C (v := (2 : Int32)) dX4_length_9 (by decide) ?_
    exact jj_iret C hr hlocks dX4_length_10

set_option maxHeartbeats 4000000 in
set_option maxRecDepth 100000 in
theorem c_Packets_flit {l : Launch} {D : va_G} {ad : Nat → Nat} {cA : FieldType → ClassId} {n S SD F : Nat} {σ : jj_S} {a0 a1 a2 : Int32} {z : (Int32 × jj_S)} (ho : f_Packets_flit n S SD F σ a0 a1 a2 = some z) : jj_Mi l yX4_flit (Cond.code yX4_flit cX4_flit 3 (some .int) :: jw_t) { frames := 0, cells := 0, slots := 0, locals := 0 } D vwCl ad cA (gc n S SD) [.int a0, .int a1, .int a2] σ z := by
  refine jj_ofi (cc := cX4_flit) (nL := 3) (ret := (some .int)) rfl ho (Nat.le_of_ble_eq_true rfl) ?_
  intro p e s m below meth c C hr hlocks
  generalize hA : va_A (jj_w ad cA (gc n S SD) σ) s.heap.size = A at C ⊢
  have hRm : 0 ≤ (headSpec (Cond.code yX4_flit cX4_flit 3 (some .int) :: jw_t) { frames := 0, cells := 0, slots := 0, locals := 0 }).room.frames ∧ 0 ≤ (headSpec (Cond.code yX4_flit cX4_flit 3 (some .int) :: jw_t) { frames := 0, cells := 0, slots := 0, locals := 0 }).room.locals := ⟨Nat.le_refl _, Nat.le_refl _⟩
  generalize (headSpec (Cond.code yX4_flit cX4_flit 3 (some .int) :: jw_t) { frames := 0, cells := 0, slots := 0, locals := 0 }).room = R at C hRm ⊢
  generalize List.toArray ([.int a0, .int a1, .int a2] : List Value) = args at C ⊢
  refine jj_sub (lv' := [(0, .int a0), (1, .int a1), (2, .int a2)]) [0, 1, 2] rfl ?_
  unfold f_Packets_flit
  refine jj_iconst C (v := (4 : Int32)) dX4_flit_0 (by decide) ?_
  refine jj_iload_n C 0 dX4_flit_1 rfl rfl ?_
  refine jj_imul C dX4_flit_2 ?_
  refine jj_iload_n C 1 dX4_flit_3 rfl rfl ?_
  refine jj_if_eq C (tgt := 11) dX4_flit_4 (by decide) (fun _ => ?_) (fun _ => ?_)
  · refine jj_iconst C (v := (0 : Int32)) dX4_flit_11 (by decide) ?_
    refine jj_iadd C dX4_flit_12 ?_
    refine jj_iload_n C 2 dX4_flit_13 rfl rfl ?_
    refine jj_if_eq C (tgt := 21) dX4_flit_14 (by decide) (fun _ => ?_) (fun _ => ?_)
    · refine jj_iconst C (v := (0 : Int32)) dX4_flit_21 (by decide) ?_
      refine jj_iadd C dX4_flit_22 ?_
      exact jj_iret C hr hlocks dX4_flit_23
    · refine jj_iconst C (v := (1 : Int32)) dX4_flit_17 (by decide) ?_
      refine jj_goto C (tgt := 22) dX4_flit_18 (by decide) ?_
      refine jj_iadd C dX4_flit_22 ?_
      exact jj_iret C hr hlocks dX4_flit_23
  · refine jj_iconst C (v := (2 : Int32)) dX4_flit_7 (by decide) ?_
    refine jj_goto C (tgt := 12) dX4_flit_8 (by decide) ?_
    refine jj_iadd C dX4_flit_12 ?_
    refine jj_iload_n C 2 dX4_flit_13 rfl rfl ?_
    refine jj_if_eq C (tgt := 21) dX4_flit_14 (by decide) (fun _ => ?_) (fun _ => ?_)
    · refine jj_iconst C (v := (0 : Int32)) dX4_flit_21 (by decide) ?_
      refine jj_iadd C dX4_flit_22 ?_
      exact jj_iret C hr hlocks dX4_flit_23
    · refine jj_iconst C (v := (1 : Int32)) dX4_flit_17 (by decide) ?_
      refine jj_goto C (tgt := 22) dX4_flit_18 (by decide) ?_
      refine jj_iadd C dX4_flit_22 ?_
      exact jj_iret C hr hlocks dX4_flit_23

set_option maxHeartbeats 4000000 in
set_option maxRecDepth 100000 in
theorem c_Links_send {l : Launch} {D : va_G} {ad : Nat → Nat} {cA : FieldType → ClassId} {n S SD F : Nat} {σ : jj_S} {a1 a2 : Int32} {z : jj_S} (ho : f_Links_send n S SD F σ a1 a2 = some z) : jj_Mv l yX3_send (Cond.code yX3_send cX3_send 3 none :: jw_t) { frames := 0, cells := 0, slots := 0, locals := 0 } D vwCl ad cA (gc n S SD) [.ref (ad 2), .int a1, .int a2] σ z := by
  refine jj_ofv (cc := cX3_send) (nL := 3) (ret := none) rfl ho (Nat.le_of_ble_eq_true rfl) ?_
  intro p e s m below meth c C hr hlocks
  generalize hA : va_A (jj_w ad cA (gc n S SD) σ) s.heap.size = A at C ⊢
  have hRm : 0 ≤ (headSpec (Cond.code yX3_send cX3_send 3 none :: jw_t) { frames := 0, cells := 0, slots := 0, locals := 0 }).room.frames ∧ 0 ≤ (headSpec (Cond.code yX3_send cX3_send 3 none :: jw_t) { frames := 0, cells := 0, slots := 0, locals := 0 }).room.locals := ⟨Nat.le_refl _, Nat.le_refl _⟩
  generalize (headSpec (Cond.code yX3_send cX3_send 3 none :: jw_t) { frames := 0, cells := 0, slots := 0, locals := 0 }).room = R at C hRm ⊢
  generalize List.toArray ([.ref (ad 2), .int a1, .int a2] : List Value) = args at C ⊢
  refine jj_sub (lv' := [(0, .ref (ad 2)), (1, .int a1), (2, .int a2)]) [0, 1, 2] rfl ?_
  unfold f_Links_send
  refine jj_aload_n C 0 dX3_send_0 rfl rfl ?_
  refine jj_getr C 2 5 in_Links (g_2 n S SD) k_Links (by decide) fl_Links_34 rfl dX3_send_1 ?_
  refine jj_iload_n C 1 dX3_send_4 rfl rfl ?_
  refine jj_dup2 C dX3_send_5 rfl rfl ?_
  refine jj_iald C 7 (g_7 n S SD) dX3_send_6 ?_
  refine jj_iconst C (v := (1 : Int32)) dX3_send_7 (by decide) ?_
  refine jj_isub C dX3_send_8 ?_
  refine jj_iast C 7 (g_7 n S SD) dX3_send_9 ?_
  refine jj_stn (fun σ1 => ?_)
  refine jj_aload_n C 0 dX3_send_10 rfl rfl ?_
  refine jj_getr C 2 6 in_Links (g_2 n S SD) k_Links (by decide) fl_Links_37 rfl dX3_send_11 ?_
  refine jj_aload_n C 0 dX3_send_14 rfl rfl ?_
  refine jj_getr C 2 1 in_Links (g_2 n S SD) k_Links (by decide) fl_Links_21 rfl dX3_send_15 ?_
  refine jj_iload_n C 1 dX3_send_18 rfl rfl ?_
  refine jj_iald C 3 (g_3 n S SD) dX3_send_19 ?_
  refine jj_iload_n C 2 dX3_send_20 rfl rfl ?_
  refine jj_iast C 8 (g_8 n S SD) dX3_send_21 ?_
  refine jj_stn (fun σ2 => ?_)
  refine jj_aload_n C 0 dX3_send_22 rfl rfl ?_
  refine jj_dup C dX3_send_23 rfl ?_
  refine jj_geti C 2 8 in_Links (g_2 n S SD) k_Links (by decide) fl_Links_56 rfl dX3_send_24 ?_
  refine jj_iconst C (v := (1 : Int32)) dX3_send_27 (by decide) ?_
  refine jj_iadd C dX3_send_28 ?_
  refine jj_puti C 2 8 in_Links (g_2 n S SD) k_Links (by decide) fl_Links_56 tyX3 tyX3_ok nmX3 rfl (by decide +kernel) rfl dX3_send_29 ?_
  refine jj_stn (fun σ3 => ?_)
  exact jj_vret C hr hlocks dX3_send_32
end
section
set_option maxHeartbeats 4000000 in
set_option maxRecDepth 100000 in
theorem l_Queues_removeFirstp_9 {p : Program} {l : Launch} {e : Env} {R : Room} {s : State} {m : MethodId} {args : Array Value} {below : List Frame} {meth : Method} {c : Code} {D : va_G} {A : Nat → Prop} {ad : Nat → Nat} {cA : FieldType → ClassId} {n S SD F : Nat} (C : jj_C p R s m args c D vwCl A ad cA (gc n S SD) 4 0 0 cX5_removeFirst RX5 jw_t) (hr : meth.sig.returnType = none) (hlocks : meth.locks = false) (hRm : 0 ≤ R.frames ∧ 0 ≤ R.locals) {K : jj_S → Int32 → Int32 → Int32 → Option jj_S} (hK : ∀ (σ : jj_S) (x1 x2 x3 : Int32), jj_J p l e R s m args below meth c D vwCl A ad cA (gc n S SD) 4 0 0 (jj_Qv below D vwCl A ad cA (gc n S SD) args s 0 0) (K σ x1 x2 x3) σ 43 [(0, .ref (ad 24)), (1, .int x1), (2, .int x2), (3, .int x3)] []) : ∀ (k : Nat) (σ : jj_S) (x1 x2 x3 : Int32), jj_J p l e R s m args below meth c D vwCl A ad cA (gc n S SD) 4 0 0 (jj_Qv below D vwCl A ad cA (gc n S SD) args s 0 0) (jj_lp3 (b_Queues_removeFirstp_9 n S SD F K) k σ x1 x2 x3) σ 9 [(0, .ref (ad 24)), (1, .int x1), (2, .int x2), (3, .int x3)] [] := by
  refine jj_loop3 (T := fun o σ x1 x2 x3 => jj_J p l e R s m args below meth c D vwCl A ad cA (gc n S SD) 4 0 0 (jj_Qv below D vwCl A ad cA (gc n S SD) args s 0 0) o σ 9 [(0, .ref (ad 24)), (1, .int x1), (2, .int x2), (3, .int x3)] []) (fun _ _ _ _ _ h => by cases h) ?_
  intro rec ih σ x1 x2 x3
  unfold b_Queues_removeFirstp_9
  refine jj_iload_n C 3 dX5_removeFirst_9 rfl rfl ?_
  refine jj_aload_n C 0 dX5_removeFirst_10 rfl rfl ?_
  refine jj_getr C 24 3 in_Queues (g_24 n S SD) k_Queues (by decide) fl_Queues_21 rfl dX5_removeFirst_11 ?_
  refine jj_iload_n C 1 dX5_removeFirst_14 rfl rfl ?_
  refine jj_iald C 26 (g_26 n S SD) dX5_removeFirst_15 ?_
  refine jj_icmp_ge C (tgt := 43) dX5_removeFirst_16 (by decide) (fun _ => ?_) (fun _ => ?_)
  · refine jj_sub [0, 1, 2, 3] rfl ?_
    exact hK σ x1 x2 x3
  · refine jj_aload_n C 0 dX5_removeFirst_19 rfl rfl ?_
    refine jj_getr C 24 2 in_Queues (g_24 n S SD) k_Queues (by decide) fl_Queues_17 rfl dX5_removeFirst_20 ?_
    refine jj_iload_n C 2 dX5_removeFirst_23 rfl rfl ?_
    refine jj_iload_n C 3 dX5_removeFirst_24 rfl rfl ?_
    refine jj_iadd C dX5_removeFirst_25 ?_
    refine jj_iconst C (v := (1 : Int32)) dX5_removeFirst_26 (by decide) ?_
    refine jj_isub C dX5_removeFirst_27 ?_
    refine jj_aload_n C 0 dX5_removeFirst_28 rfl rfl ?_
    refine jj_getr C 24 2 in_Queues (g_24 n S SD) k_Queues (by decide) fl_Queues_17 rfl dX5_removeFirst_29 ?_
    refine jj_iload_n C 2 dX5_removeFirst_32 rfl rfl ?_
    refine jj_iload_n C 3 dX5_removeFirst_33 rfl rfl ?_
    refine jj_iadd C dX5_removeFirst_34 ?_
    refine jj_iald C 25 (g_25 n S SD) dX5_removeFirst_35 ?_
    refine jj_iast C 25 (g_25 n S SD) dX5_removeFirst_36 ?_
    refine jj_stn (fun σ2 => ?_)
    refine jj_iinc C (v := x3 + (1 : Int32)) [(3, .int (x3 + (1 : Int32))), (0, .ref (ad 24)), (1, .int x1), (2, .int x2)] 3 dX5_removeFirst_37 rfl rfl (by decide) rfl ?_
    refine jj_goto C (tgt := 9) dX5_removeFirst_40 (by decide) ?_
    refine jj_sub [1, 2, 3, 0] rfl ?_
    exact ih σ2 x1 x2 (x3 + (1 : Int32))

set_option maxHeartbeats 4000000 in
set_option maxRecDepth 100000 in
theorem c_Queues_removeFirstp {l : Launch} {D : va_G} {ad : Nat → Nat} {cA : FieldType → ClassId} {n S SD F : Nat} {σ : jj_S} {a1 : Int32} {z : jj_S} (ho : f_Queues_removeFirstp n S SD F σ a1 = some z) : jj_Mv l yX5_removeFirst (Cond.code yX5_removeFirst cX5_removeFirst 4 none :: jw_t) { frames := 0, cells := 0, slots := 0, locals := 0 } D vwCl ad cA (gc n S SD) [.ref (ad 24), .int a1] σ z := by
  refine jj_ofv (cc := cX5_removeFirst) (nL := 4) (ret := none) rfl ho (Nat.le_of_ble_eq_true rfl) ?_
  intro p e s m below meth c C hr hlocks
  generalize hA : va_A (jj_w ad cA (gc n S SD) σ) s.heap.size = A at C ⊢
  have hRm : 0 ≤ (headSpec (Cond.code yX5_removeFirst cX5_removeFirst 4 none :: jw_t) { frames := 0, cells := 0, slots := 0, locals := 0 }).room.frames ∧ 0 ≤ (headSpec (Cond.code yX5_removeFirst cX5_removeFirst 4 none :: jw_t) { frames := 0, cells := 0, slots := 0, locals := 0 }).room.locals := ⟨Nat.le_refl _, Nat.le_refl _⟩
  generalize (headSpec (Cond.code yX5_removeFirst cX5_removeFirst 4 none :: jw_t) { frames := 0, cells := 0, slots := 0, locals := 0 }).room = R at C hRm ⊢
  generalize List.toArray ([.ref (ad 24), .int a1] : List Value) = args at C ⊢
  refine jj_sub (lv' := [(0, .ref (ad 24)), (1, .int a1)]) [0, 1] rfl ?_
  unfold f_Queues_removeFirstp
  refine jj_iload_n C 1 dX5_removeFirst_0 rfl rfl ?_
  refine jj_aload_n C 0 dX5_removeFirst_1 rfl rfl ?_
  refine jj_geti C 24 1 in_Queues (g_24 n S SD) k_Queues (by decide) fl_Queues_13 rfl dX5_removeFirst_2 ?_
  refine jj_imul C dX5_removeFirst_5 ?_
  refine jj_ltn (fun v2_1 => ?_)
  refine jj_istore_n C [(2, .int v2_1), (0, .ref (ad 24)), (1, .int a1)] dX5_removeFirst_6 rfl (by decide) rfl ?_
  refine jj_iconst C (v := (1 : Int32)) dX5_removeFirst_7 (by decide) ?_
  refine jj_istore_n C [(3, .int (1 : Int32)), (2, .int v2_1), (0, .ref (ad 24)), (1, .int a1)] dX5_removeFirst_8 rfl (by decide) rfl ?_
  refine jj_sub [2, 3, 1, 0] rfl ?_
  refine l_Queues_removeFirstp_9 C hr hlocks hRm (fun σ3 x1_4 x2_5 x3_6 => ?_) F σ a1 v2_1 (1 : Int32)
  refine jj_aload_n C 0 dX5_removeFirst_43 rfl rfl ?_
  refine jj_getr C 24 3 in_Queues (g_24 n S SD) k_Queues (by decide) fl_Queues_21 rfl dX5_removeFirst_44 ?_
  refine jj_iload_n C 1 dX5_removeFirst_47 rfl rfl ?_
  refine jj_dup2 C dX5_removeFirst_48 rfl rfl ?_
  refine jj_iald C 26 (g_26 n S SD) dX5_removeFirst_49 ?_
  refine jj_iconst C (v := (1 : Int32)) dX5_removeFirst_50 (by decide) ?_
  refine jj_isub C dX5_removeFirst_51 ?_
  refine jj_iast C 26 (g_26 n S SD) dX5_removeFirst_52 ?_
  refine jj_stn (fun σ7 => ?_)
  refine jj_aload_n C 0 dX5_removeFirst_53 rfl rfl ?_
  refine jj_getr C 24 4 in_Queues (g_24 n S SD) k_Queues (by decide) fl_Queues_24 rfl dX5_removeFirst_54 ?_
  refine jj_iload_n C 1 dX5_removeFirst_57 rfl rfl ?_
  refine jj_iconst C (v := (0 : Int32)) dX5_removeFirst_58 (by decide) ?_
  refine jj_iast C 27 (g_27 n S SD) dX5_removeFirst_59 ?_
  refine jj_stn (fun σ8 => ?_)
  exact jj_vret C hr hlocks dX5_removeFirst_60

set_option maxHeartbeats 4000000 in
set_option maxRecDepth 100000 in
theorem c_Ifs_sendFirstp {l : Launch} {D : va_G} {ad : Nat → Nat} {cA : FieldType → ClassId} {n S SD F : Nat} {σ : jj_S} {a1 : Int32} {z : (Int32 × jj_S)} (ho : f_Ifs_sendFirstp n S SD F σ a1 = some z) : jj_Mi l yX2_sendFirst (Cond.code yX2_sendFirst cX2_sendFirst 7 (some .boolean) :: jw_t) { frames := 1, cells := 0, slots := 0, locals := 40 } D vwCl ad cA (gc n S SD) [.ref (ad 16), .int a1, .ref (ad 24)] σ z := by
  refine jj_ofi (cc := cX2_sendFirst) (nL := 7) (ret := (some .boolean)) rfl ho (Nat.le_of_ble_eq_true rfl) ?_
  intro p e s m below meth c C hr hlocks
  generalize hA : va_A (jj_w ad cA (gc n S SD) σ) s.heap.size = A at C ⊢
  have hRm : 1 ≤ (headSpec (Cond.code yX2_sendFirst cX2_sendFirst 7 (some .boolean) :: jw_t) { frames := 1, cells := 0, slots := 0, locals := 40 }).room.frames ∧ 40 ≤ (headSpec (Cond.code yX2_sendFirst cX2_sendFirst 7 (some .boolean) :: jw_t) { frames := 1, cells := 0, slots := 0, locals := 40 }).room.locals := ⟨Nat.le_refl _, Nat.le_refl _⟩
  generalize (headSpec (Cond.code yX2_sendFirst cX2_sendFirst 7 (some .boolean) :: jw_t) { frames := 1, cells := 0, slots := 0, locals := 40 }).room = R at C hRm ⊢
  generalize List.toArray ([.ref (ad 16), .int a1, .ref (ad 24)] : List Value) = args at C ⊢
  refine jj_sub (lv' := [(0, .ref (ad 16)), (1, .int a1), (2, .ref (ad 24))]) [0, 1, 2] rfl ?_
  unfold f_Ifs_sendFirstp
  refine jj_aload_n C 2 dX2_sendFirst_0 rfl rfl ?_
  refine jj_getr C 24 3 in_Queues (g_24 n S SD) k_Queues (by decide) fl_Ifs_119 rfl dX2_sendFirst_1 ?_
  refine jj_iload_n C 1 dX2_sendFirst_4 rfl rfl ?_
  refine jj_iald C 26 (g_26 n S SD) dX2_sendFirst_5 ?_
  refine jj_if_ne C (tgt := 11) dX2_sendFirst_6 (by decide) (fun _ => ?_) (fun _ => ?_)
  · refine jj_aload_n C 2 dX2_sendFirst_11 rfl rfl ?_
    refine jj_iload_n C 1 dX2_sendFirst_12 rfl rfl ?_
    refine jj_callVi C (As := [.int a1]) (rest := []) (fun z hz => c_Queues_firstNumberp hz) (q_Ifs_120 C.2.2.2.2.1 (rm := { frames := 0, cells := 0, slots := 0, locals := 0 }) rfl rfl ⟨Nat.le_trans (by decide) hRm.1, Nat.le_trans (by decide) hRm.2⟩) (g_24 n S SD) k_Queues rfl rfl (Nat.le_of_ble_eq_true rfl) dX2_sendFirst_13 (fun r2 σ1 _ => ?_)
    refine jj_istore_n C [(3, .int r2), (0, .ref (ad 16)), (1, .int a1), (2, .ref (ad 24))] dX2_sendFirst_16 rfl (by decide) rfl ?_
    refine jj_aload_n C 1 dX2_sendFirst_17 rfl rfl ?_
    refine jj_getr C 16 2 in_Ifs (g_16 n S SD) k_Ifs (by decide) fl_Ifs_26 rfl dX2_sendFirst_18 ?_
    refine jj_iload_n C 0 dX2_sendFirst_21 rfl rfl ?_
    refine jj_aload_n C 3 dX2_sendFirst_22 rfl rfl ?_
    refine jj_geti C 24 0 in_Queues (g_24 n S SD) k_Queues (by decide) fl_Ifs_123 rfl dX2_sendFirst_23 ?_
    refine jj_callVi C (As := [.int r2, .int (σ1 24 0)]) (rest := []) (fun z hz => c_Packets_channel hz) (q_Ifs_127 C.2.2.2.2.1 (rm := { frames := 0, cells := 0, slots := 0, locals := 0 }) rfl rfl ⟨Nat.le_trans (by decide) hRm.1, Nat.le_trans (by decide) hRm.2⟩) (g_10 n S SD) k_Packets rfl rfl (Nat.le_of_ble_eq_true rfl) dX2_sendFirst_26 (fun r4 σ3 _ => ?_)
    refine jj_istore C [(4, .int r4), (3, .int r2), (0, .ref (ad 16)), (1, .int a1), (2, .ref (ad 24))] dX2_sendFirst_29 (by decide) rfl ?_
    refine jj_aload_n C 2 dX2_sendFirst_31 rfl rfl ?_
    refine jj_getr C 16 0 in_Ifs (g_16 n S SD) k_Ifs (by decide) fl_Ifs_18 rfl dX2_sendFirst_32 ?_
    refine jj_iload_n C 3 dX2_sendFirst_35 rfl rfl ?_
    refine jj_iconst C (v := (5 : Int32)) dX2_sendFirst_36 (by decide) ?_
    refine jj_iload C 0 dX2_sendFirst_37 rfl ?_
    refine jj_callVi C (As := [.int a1, .int (5 : Int32), .int r4]) (rest := []) (fun z hz => c_Grid_slot hz) (q_Ifs_59 C.2.2.2.2.1 (rm := { frames := 0, cells := 0, slots := 0, locals := 0 }) rfl rfl ⟨Nat.le_trans (by decide) hRm.1, Nat.le_trans (by decide) hRm.2⟩) (g_1 n S SD) k_Grid rfl rfl (Nat.le_of_ble_eq_true rfl) dX2_sendFirst_39 (fun r6 σ5 _ => ?_)
    refine jj_istore C [(5, .int r6), (4, .int r4), (3, .int r2), (0, .ref (ad 16)), (1, .int a1), (2, .ref (ad 24))] dX2_sendFirst_42 (by decide) rfl ?_
    refine jj_aload_n C 3 dX2_sendFirst_44 rfl rfl ?_
    refine jj_getr C 16 1 in_Ifs (g_16 n S SD) k_Ifs (by decide) fl_Ifs_22 rfl dX2_sendFirst_45 ?_
    refine jj_getr C 2 5 in_Links (g_2 n S SD) k_Links (by decide) fl_Ifs_131 rfl dX2_sendFirst_48 ?_
    refine jj_iload C 0 dX2_sendFirst_51 rfl ?_
    refine jj_iald C 7 (g_7 n S SD) dX2_sendFirst_53 ?_
    refine jj_if_ne C (tgt := 59) dX2_sendFirst_54 (by decide) (fun _ => ?_) (fun _ => ?_)
    · refine jj_aload_n C 5 dX2_sendFirst_59 rfl rfl ?_
      refine jj_getr C 24 4 in_Queues (g_24 n S SD) k_Queues (by decide) fl_Ifs_134 rfl dX2_sendFirst_60 ?_
      refine jj_iload_n C 4 dX2_sendFirst_63 rfl rfl ?_
      refine jj_dup2 C dX2_sendFirst_64 rfl rfl ?_
      refine jj_iald C 27 (g_27 n S SD) dX2_sendFirst_65 ?_
      refine jj_iconst C (v := (1 : Int32)) dX2_sendFirst_66 (by decide) ?_
      refine jj_iadd C dX2_sendFirst_67 ?_
      refine jj_iast C 27 (g_27 n S SD) dX2_sendFirst_68 ?_
      refine jj_stn (fun σ7 => ?_)
      refine jj_aload_n C 5 dX2_sendFirst_69 rfl rfl ?_
      refine jj_getr C 24 4 in_Queues (g_24 n S SD) k_Queues (by decide) fl_Ifs_134 rfl dX2_sendFirst_70 ?_
      refine jj_iload_n C 4 dX2_sendFirst_73 rfl rfl ?_
      refine jj_iald C 27 (g_27 n S SD) dX2_sendFirst_74 ?_
      refine jj_aload_n C 3 dX2_sendFirst_75 rfl rfl ?_
      refine jj_getr C 16 2 in_Ifs (g_16 n S SD) k_Ifs (by decide) fl_Ifs_26 rfl dX2_sendFirst_76 ?_
      refine jj_iload_n C 2 dX2_sendFirst_79 rfl rfl ?_
      refine jj_aload_n C 5 dX2_sendFirst_80 rfl rfl ?_
      refine jj_geti C 24 0 in_Queues (g_24 n S SD) k_Queues (by decide) fl_Ifs_123 rfl dX2_sendFirst_81 ?_
      refine jj_callVi C (As := [.int r2, .int (σ7 24 0)]) (rest := [.int (σ7 27 a1.toNatClampNeg)]) (fun z hz => c_Packets_length hz) (q_Ifs_137 C.2.2.2.2.1 (rm := { frames := 0, cells := 0, slots := 0, locals := 0 }) rfl rfl ⟨Nat.le_trans (by decide) hRm.1, Nat.le_trans (by decide) hRm.2⟩) (g_10 n S SD) k_Packets rfl rfl (Nat.le_of_ble_eq_true rfl) dX2_sendFirst_84 (fun r9 σ8 _ => ?_)
      refine jj_icmp_ne C (tgt := 94) dX2_sendFirst_87 (by decide) (fun _ => ?_) (fun _ => ?_)
      · refine jj_iconst C (v := (0 : Int32)) dX2_sendFirst_94 (by decide) ?_
        refine jj_istore C [(6, .int (0 : Int32)), (5, .int r6), (4, .int r4), (3, .int r2), (0, .ref (ad 16)), (1, .int a1), (2, .ref (ad 24))] dX2_sendFirst_95 (by decide) rfl ?_
        refine jj_aload_n C 4 dX2_sendFirst_97 rfl rfl ?_
        refine jj_getr C 16 1 in_Ifs (g_16 n S SD) k_Ifs (by decide) fl_Ifs_22 rfl dX2_sendFirst_98 ?_
        refine jj_iload C 1 dX2_sendFirst_101 rfl ?_
        refine jj_iload_n C 3 dX2_sendFirst_103 rfl rfl ?_
        refine jj_aload_n C 6 dX2_sendFirst_104 rfl rfl ?_
        refine jj_geti C 24 0 in_Queues (g_24 n S SD) k_Queues (by decide) fl_Ifs_123 rfl dX2_sendFirst_105 ?_
        refine jj_iload C 0 dX2_sendFirst_108 rfl ?_
        refine jj_callSi C (As := [.int r2, .int (σ8 24 0), .int (0 : Int32)]) (rest := [.int r6, .ref (ad 2)]) (fun z hz => c_Packets_flit hz) (q_Ifs_140 C.2.2.2.2.1 (rm := { frames := 0, cells := 0, slots := 0, locals := 0 }) rfl rfl ⟨Nat.le_trans (by decide) hRm.1, Nat.le_trans (by decide) hRm.2⟩) rfl rfl (Nat.le_of_ble_eq_true rfl) dX2_sendFirst_110 (fun r11 σ10 _ => ?_)
        refine jj_callVv C (As := [.int r6, .int r11]) (rest := []) (fun z hz => c_Links_send hz) (q_Ifs_144 C.2.2.2.2.1 (rm := { frames := 0, cells := 0, slots := 0, locals := 0 }) rfl rfl ⟨Nat.le_trans (by decide) hRm.1, Nat.le_trans (by decide) hRm.2⟩) (g_2 n S SD) k_Links rfl rfl (Nat.le_of_ble_eq_true rfl) dX2_sendFirst_113 (fun σ12 _ => ?_)
        refine jj_iload C 0 dX2_sendFirst_116 rfl ?_
        refine jj_if_eq_t C (tgt := 126) dX2_sendFirst_118 (by decide) (by decide) ?_
        refine jj_iconst C (v := (1 : Int32)) dX2_sendFirst_126 (by decide) ?_
        exact jj_zret C hr hlocks (by first | rfl | decide +kernel) dX2_sendFirst_127
      · refine jj_iconst C (v := (1 : Int32)) dX2_sendFirst_90 (by decide) ?_
        refine jj_goto C (tgt := 95) dX2_sendFirst_91 (by decide) ?_
        refine jj_istore C [(6, .int (1 : Int32)), (5, .int r6), (4, .int r4), (3, .int r2), (0, .ref (ad 16)), (1, .int a1), (2, .ref (ad 24))] dX2_sendFirst_95 (by decide) rfl ?_
        refine jj_aload_n C 4 dX2_sendFirst_97 rfl rfl ?_
        refine jj_getr C 16 1 in_Ifs (g_16 n S SD) k_Ifs (by decide) fl_Ifs_22 rfl dX2_sendFirst_98 ?_
        refine jj_iload C 1 dX2_sendFirst_101 rfl ?_
        refine jj_iload_n C 3 dX2_sendFirst_103 rfl rfl ?_
        refine jj_aload_n C 6 dX2_sendFirst_104 rfl rfl ?_
        refine jj_geti C 24 0 in_Queues (g_24 n S SD) k_Queues (by decide) fl_Ifs_123 rfl dX2_sendFirst_105 ?_
        refine jj_iload C 0 dX2_sendFirst_108 rfl ?_
        refine jj_callSi C (As := [.int r2, .int (σ8 24 0), .int (1 : Int32)]) (rest := [.int r6, .ref (ad 2)]) (fun z hz => c_Packets_flit hz) (q_Ifs_140 C.2.2.2.2.1 (rm := { frames := 0, cells := 0, slots := 0, locals := 0 }) rfl rfl ⟨Nat.le_trans (by decide) hRm.1, Nat.le_trans (by decide) hRm.2⟩) rfl rfl (Nat.le_of_ble_eq_true rfl) dX2_sendFirst_110 (fun r14 σ13 _ => ?_)
        refine jj_callVv C (As := [.int r6, .int r14]) (rest := []) (fun z hz => c_Links_send hz) (q_Ifs_144 C.2.2.2.2.1 (rm := { frames := 0, cells := 0, slots := 0, locals := 0 }) rfl rfl ⟨Nat.le_trans (by decide) hRm.1, Nat.le_trans (by decide) hRm.2⟩) (g_2 n S SD) k_Links rfl rfl (Nat.le_of_ble_eq_true rfl) dX2_sendFirst_113 (fun σ15 _ => ?_)
        refine jj_iload C 0 dX2_sendFirst_116 rfl ?_
        refine jj_if_eq_f C (tgt := 126) dX2_sendFirst_118 (by decide) (by decide) ?_
        refine jj_aload_n C 6 dX2_sendFirst_121 rfl rfl ?_
        refine jj_iload_n C 5 dX2_sendFirst_122 rfl rfl ?_
        refine jj_callVv C (As := [.int a1]) (rest := []) (fun z hz => c_Queues_removeFirstp hz) (q_Ifs_147 C.2.2.2.2.1 (rm := { frames := 0, cells := 0, slots := 0, locals := 0 }) rfl rfl ⟨Nat.le_trans (by decide) hRm.1, Nat.le_trans (by decide) hRm.2⟩) (g_24 n S SD) k_Queues rfl rfl (Nat.le_of_ble_eq_true rfl) dX2_sendFirst_123 (fun σ16 _ => ?_)
        refine jj_iconst C (v := (1 : Int32)) dX2_sendFirst_126 (by decide) ?_
        exact jj_zret C hr hlocks (by first | rfl | decide +kernel) dX2_sendFirst_127
    · refine jj_iconst C (v := (0 : Int32)) dX2_sendFirst_57 (by decide) ?_
      exact jj_zret C hr hlocks (by first | rfl | decide +kernel) dX2_sendFirst_58
  · refine jj_iconst C (v := (0 : Int32)) dX2_sendFirst_9 (by decide) ?_
    exact jj_zret C hr hlocks (by first | rfl | decide +kernel) dX2_sendFirst_10

set_option maxHeartbeats 4000000 in
set_option maxRecDepth 100000 in
theorem c_Queues_firstNumberq {l : Launch} {D : va_G} {ad : Nat → Nat} {cA : FieldType → ClassId} {n S SD F : Nat} {σ : jj_S} {a1 : Int32} {z : (Int32 × jj_S)} (ho : f_Queues_firstNumberq n S SD F σ a1 = some z) : jj_Mi l yX5_firstNumber (Cond.code yX5_firstNumber cX5_firstNumber 2 (some .int) :: jw_t) { frames := 0, cells := 0, slots := 0, locals := 0 } D vwCl ad cA (gc n S SD) [.ref (ad 20), .int a1] σ z := by
  refine jj_ofi (cc := cX5_firstNumber) (nL := 2) (ret := (some .int)) rfl ho (Nat.le_of_ble_eq_true rfl) ?_
  intro p e s m below meth c C hr hlocks
  generalize hA : va_A (jj_w ad cA (gc n S SD) σ) s.heap.size = A at C ⊢
  have hRm : 0 ≤ (headSpec (Cond.code yX5_firstNumber cX5_firstNumber 2 (some .int) :: jw_t) { frames := 0, cells := 0, slots := 0, locals := 0 }).room.frames ∧ 0 ≤ (headSpec (Cond.code yX5_firstNumber cX5_firstNumber 2 (some .int) :: jw_t) { frames := 0, cells := 0, slots := 0, locals := 0 }).room.locals := ⟨Nat.le_refl _, Nat.le_refl _⟩
  generalize (headSpec (Cond.code yX5_firstNumber cX5_firstNumber 2 (some .int) :: jw_t) { frames := 0, cells := 0, slots := 0, locals := 0 }).room = R at C hRm ⊢
  generalize List.toArray ([.ref (ad 20), .int a1] : List Value) = args at C ⊢
  refine jj_sub (lv' := [(0, .ref (ad 20)), (1, .int a1)]) [0, 1] rfl ?_
  unfold f_Queues_firstNumberq
  refine jj_aload_n C 0 dX5_firstNumber_0 rfl rfl ?_
  refine jj_getr C 20 2 in_Queues (g_20 n S SD) k_Queues (by decide) fl_Queues_17 rfl dX5_firstNumber_1 ?_
  refine jj_iload_n C 1 dX5_firstNumber_4 rfl rfl ?_
  refine jj_aload_n C 0 dX5_firstNumber_5 rfl rfl ?_
  refine jj_geti C 20 1 in_Queues (g_20 n S SD) k_Queues (by decide) fl_Queues_13 rfl dX5_firstNumber_6 ?_
  refine jj_imul C dX5_firstNumber_9 ?_
  refine jj_iald C 21 (g_21 n S SD) dX5_firstNumber_10 ?_
  exact jj_iret C hr hlocks dX5_firstNumber_11

set_option maxHeartbeats 4000000 in
set_option maxRecDepth 100000 in
theorem l_Queues_removeFirstq_9 {p : Program} {l : Launch} {e : Env} {R : Room} {s : State} {m : MethodId} {args : Array Value} {below : List Frame} {meth : Method} {c : Code} {D : va_G} {A : Nat → Prop} {ad : Nat → Nat} {cA : FieldType → ClassId} {n S SD F : Nat} (C : jj_C p R s m args c D vwCl A ad cA (gc n S SD) 4 0 0 cX5_removeFirst RX5 jw_t) (hr : meth.sig.returnType = none) (hlocks : meth.locks = false) (hRm : 0 ≤ R.frames ∧ 0 ≤ R.locals) {K : jj_S → Int32 → Int32 → Int32 → Option jj_S} (hK : ∀ (σ : jj_S) (x1 x2 x3 : Int32), jj_J p l e R s m args below meth c D vwCl A ad cA (gc n S SD) 4 0 0 (jj_Qv below D vwCl A ad cA (gc n S SD) args s 0 0) (K σ x1 x2 x3) σ 43 [(0, .ref (ad 20)), (1, .int x1), (2, .int x2), (3, .int x3)] []) : ∀ (k : Nat) (σ : jj_S) (x1 x2 x3 : Int32), jj_J p l e R s m args below meth c D vwCl A ad cA (gc n S SD) 4 0 0 (jj_Qv below D vwCl A ad cA (gc n S SD) args s 0 0) (jj_lp3 (b_Queues_removeFirstq_9 n S SD F K) k σ x1 x2 x3) σ 9 [(0, .ref (ad 20)), (1, .int x1), (2, .int x2), (3, .int x3)] [] := by
  refine jj_loop3 (T := fun o σ x1 x2 x3 => jj_J p l e R s m args below meth c D vwCl A ad cA (gc n S SD) 4 0 0 (jj_Qv below D vwCl A ad cA (gc n S SD) args s 0 0) o σ 9 [(0, .ref (ad 20)), (1, .int x1), (2, .int x2), (3, .int x3)] []) (fun _ _ _ _ _ h => by cases h) ?_
  intro rec ih σ x1 x2 x3
  unfold b_Queues_removeFirstq_9
  refine jj_iload_n C 3 dX5_removeFirst_9 rfl rfl ?_
  refine jj_aload_n C 0 dX5_removeFirst_10 rfl rfl ?_
  refine jj_getr C 20 3 in_Queues (g_20 n S SD) k_Queues (by decide) fl_Queues_21 rfl dX5_removeFirst_11 ?_
  refine jj_iload_n C 1 dX5_removeFirst_14 rfl rfl ?_
  refine jj_iald C 22 (g_22 n S SD) dX5_removeFirst_15 ?_
  refine jj_icmp_ge C (tgt := 43) dX5_removeFirst_16 (by decide) (fun _ => ?_) (fun _ => ?_)
  · refine jj_sub [0, 1, 2, 3] rfl ?_
    exact hK σ x1 x2 x3
  · refine jj_aload_n C 0 dX5_removeFirst_19 rfl rfl ?_
    refine jj_getr C 20 2 in_Queues (g_20 n S SD) k_Queues (by decide) fl_Queues_17 rfl dX5_removeFirst_20 ?_
    refine jj_iload_n C 2 dX5_removeFirst_23 rfl rfl ?_
    refine jj_iload_n C 3 dX5_removeFirst_24 rfl rfl ?_
    refine jj_iadd C dX5_removeFirst_25 ?_
    refine jj_iconst C (v := (1 : Int32)) dX5_removeFirst_26 (by decide) ?_
    refine jj_isub C dX5_removeFirst_27 ?_
    refine jj_aload_n C 0 dX5_removeFirst_28 rfl rfl ?_
    refine jj_getr C 20 2 in_Queues (g_20 n S SD) k_Queues (by decide) fl_Queues_17 rfl dX5_removeFirst_29 ?_
    refine jj_iload_n C 2 dX5_removeFirst_32 rfl rfl ?_
    refine jj_iload_n C 3 dX5_removeFirst_33 rfl rfl ?_
    refine jj_iadd C dX5_removeFirst_34 ?_
    refine jj_iald C 21 (g_21 n S SD) dX5_removeFirst_35 ?_
    refine jj_iast C 21 (g_21 n S SD) dX5_removeFirst_36 ?_
    refine jj_stn (fun σ2 => ?_)
    refine jj_iinc C (v := x3 + (1 : Int32)) [(3, .int (x3 + (1 : Int32))), (0, .ref (ad 20)), (1, .int x1), (2, .int x2)] 3 dX5_removeFirst_37 rfl rfl (by decide) rfl ?_
    refine jj_goto C (tgt := 9) dX5_removeFirst_40 (by decide) ?_
    refine jj_sub [1, 2, 3, 0] rfl ?_
    exact ih σ2 x1 x2 (x3 + (1 : Int32))

set_option maxHeartbeats 4000000 in
set_option maxRecDepth 100000 in
theorem c_Queues_removeFirstq {l : Launch} {D : va_G} {ad : Nat → Nat} {cA : FieldType → ClassId} {n S SD F : Nat} {σ : jj_S} {a1 : Int32} {z : jj_S} (ho : f_Queues_removeFirstq n S SD F σ a1 = some z) : jj_Mv l yX5_removeFirst (Cond.code yX5_removeFirst cX5_removeFirst 4 none :: jw_t) { frames := 0, cells := 0, slots := 0, locals := 0 } D vwCl ad cA (gc n S SD) [.ref (ad 20), .int a1] σ z := by
  refine jj_ofv (cc := cX5_removeFirst) (nL := 4) (ret := none) rfl ho (Nat.le_of_ble_eq_true rfl) ?_
  intro p e s m below meth c C hr hlocks
  generalize hA : va_A (jj_w ad cA (gc n S SD) σ) s.heap.size = A at C ⊢
  have hRm : 0 ≤ (headSpec (Cond.code yX5_removeFirst cX5_removeFirst 4 none :: jw_t) { frames := 0, cells := 0, slots := 0, locals := 0 }).room.frames ∧ 0 ≤ (headSpec (Cond.code yX5_removeFirst cX5_removeFirst 4 none :: jw_t) { frames := 0, cells := 0, slots := 0, locals := 0 }).room.locals := ⟨Nat.le_refl _, Nat.le_refl _⟩
  generalize (headSpec (Cond.code yX5_removeFirst cX5_removeFirst 4 none :: jw_t) { frames := 0, cells := 0, slots := 0, locals := 0 }).room = R at C hRm ⊢
  generalize List.toArray ([.ref (ad 20), .int a1] : List Value) = args at C ⊢
  refine jj_sub (lv' := [(0, .ref (ad 20)), (1, .int a1)]) [0, 1] rfl ?_
  unfold f_Queues_removeFirstq
  refine jj_iload_n C 1 dX5_removeFirst_0 rfl rfl ?_
  refine jj_aload_n C 0 dX5_removeFirst_1 rfl rfl ?_
  refine jj_geti C 20 1 in_Queues (g_20 n S SD) k_Queues (by decide) fl_Queues_13 rfl dX5_removeFirst_2 ?_
  refine jj_imul C dX5_removeFirst_5 ?_
  refine jj_ltn (fun v2_1 => ?_)
  refine jj_istore_n C [(2, .int v2_1), (0, .ref (ad 20)), (1, .int a1)] dX5_removeFirst_6 rfl (by decide) rfl ?_
  refine jj_iconst C (v := (1 : Int32)) dX5_removeFirst_7 (by decide) ?_
  refine jj_istore_n C [(3, .int (1 : Int32)), (2, .int v2_1), (0, .ref (ad 20)), (1, .int a1)] dX5_removeFirst_8 rfl (by decide) rfl ?_
  refine jj_sub [2, 3, 1, 0] rfl ?_
  refine l_Queues_removeFirstq_9 C hr hlocks hRm (fun σ3 x1_4 x2_5 x3_6 => ?_) F σ a1 v2_1 (1 : Int32)
  refine jj_aload_n C 0 dX5_removeFirst_43 rfl rfl ?_
  refine jj_getr C 20 3 in_Queues (g_20 n S SD) k_Queues (by decide) fl_Queues_21 rfl dX5_removeFirst_44 ?_
  refine jj_iload_n C 1 dX5_removeFirst_47 rfl rfl ?_
  refine jj_dup2 C dX5_removeFirst_48 rfl rfl ?_
  refine jj_iald C 22 (g_22 n S SD) dX5_removeFirst_49 ?_
  refine jj_iconst C (v := (1 : Int32)) dX5_removeFirst_50 (by decide) ?_
  refine jj_isub C dX5_removeFirst_51 ?_
  refine jj_iast C 22 (g_22 n S SD) dX5_removeFirst_52 ?_
  refine jj_stn (fun σ7 => ?_)
  refine jj_aload_n C 0 dX5_removeFirst_53 rfl rfl ?_
  refine jj_getr C 20 4 in_Queues (g_20 n S SD) k_Queues (by decide) fl_Queues_24 rfl dX5_removeFirst_54 ?_
  refine jj_iload_n C 1 dX5_removeFirst_57 rfl rfl ?_
  refine jj_iconst C (v := (0 : Int32)) dX5_removeFirst_58 (by decide) ?_
  refine jj_iast C 23 (g_23 n S SD) dX5_removeFirst_59 ?_
  refine jj_stn (fun σ8 => ?_)
  exact jj_vret C hr hlocks dX5_removeFirst_60

set_option maxHeartbeats 4000000 in
set_option maxRecDepth 100000 in
theorem c_Ifs_sendFirstq {l : Launch} {D : va_G} {ad : Nat → Nat} {cA : FieldType → ClassId} {n S SD F : Nat} {σ : jj_S} {a1 : Int32} {z : (Int32 × jj_S)} (ho : f_Ifs_sendFirstq n S SD F σ a1 = some z) : jj_Mi l yX2_sendFirst (Cond.code yX2_sendFirst cX2_sendFirst 7 (some .boolean) :: jw_t) { frames := 1, cells := 0, slots := 0, locals := 40 } D vwCl ad cA (gc n S SD) [.ref (ad 16), .int a1, .ref (ad 20)] σ z := by
  refine jj_ofi (cc := cX2_sendFirst) (nL := 7) (ret := (some .boolean)) rfl ho (Nat.le_of_ble_eq_true rfl) ?_
  intro p e s m below meth c C hr hlocks
  generalize hA : va_A (jj_w ad cA (gc n S SD) σ) s.heap.size = A at C ⊢
  have hRm : 1 ≤ (headSpec (Cond.code yX2_sendFirst cX2_sendFirst 7 (some .boolean) :: jw_t) { frames := 1, cells := 0, slots := 0, locals := 40 }).room.frames ∧ 40 ≤ (headSpec (Cond.code yX2_sendFirst cX2_sendFirst 7 (some .boolean) :: jw_t) { frames := 1, cells := 0, slots := 0, locals := 40 }).room.locals := ⟨Nat.le_refl _, Nat.le_refl _⟩
  generalize (headSpec (Cond.code yX2_sendFirst cX2_sendFirst 7 (some .boolean) :: jw_t) { frames := 1, cells := 0, slots := 0, locals := 40 }).room = R at C hRm ⊢
  generalize List.toArray ([.ref (ad 16), .int a1, .ref (ad 20)] : List Value) = args at C ⊢
  refine jj_sub (lv' := [(0, .ref (ad 16)), (1, .int a1), (2, .ref (ad 20))]) [0, 1, 2] rfl ?_
  unfold f_Ifs_sendFirstq
  refine jj_aload_n C 2 dX2_sendFirst_0 rfl rfl ?_
  refine jj_getr C 20 3 in_Queues (g_20 n S SD) k_Queues (by decide) fl_Ifs_119 rfl dX2_sendFirst_1 ?_
  refine jj_iload_n C 1 dX2_sendFirst_4 rfl rfl ?_
  refine jj_iald C 22 (g_22 n S SD) dX2_sendFirst_5 ?_
  refine jj_if_ne C (tgt := 11) dX2_sendFirst_6 (by decide) (fun _ => ?_) (fun _ => ?_)
  · refine jj_aload_n C 2 dX2_sendFirst_11 rfl rfl ?_
    refine jj_iload_n C 1 dX2_sendFirst_12 rfl rfl ?_
    refine jj_callVi C (As := [.int a1]) (rest := []) (fun z hz => c_Queues_firstNumberq hz) (q_Ifs_120 C.2.2.2.2.1 (rm := { frames := 0, cells := 0, slots := 0, locals := 0 }) rfl rfl ⟨Nat.le_trans (by decide) hRm.1, Nat.le_trans (by decide) hRm.2⟩) (g_20 n S SD) k_Queues rfl rfl (Nat.le_of_ble_eq_true rfl) dX2_sendFirst_13 (fun r2 σ1 _ => ?_)
    refine jj_istore_n C [(3, .int r2), (0, .ref (ad 16)), (1, .int a1), (2, .ref (ad 20))] dX2_sendFirst_16 rfl (by decide) rfl ?_
    refine jj_aload_n C 1 dX2_sendFirst_17 rfl rfl ?_
    refine jj_getr C 16 2 in_Ifs (g_16 n S SD) k_Ifs (by decide) fl_Ifs_26 rfl dX2_sendFirst_18 ?_
    refine jj_iload_n C 0 dX2_sendFirst_21 rfl rfl ?_
    refine jj_aload_n C 3 dX2_sendFirst_22 rfl rfl ?_
    refine jj_geti C 20 0 in_Queues (g_20 n S SD) k_Queues (by decide) fl_Ifs_123 rfl dX2_sendFirst_23 ?_
    refine jj_callVi C (As := [.int r2, .int (σ1 20 0)]) (rest := []) (fun z hz => c_Packets_channel hz) (q_Ifs_127 C.2.2.2.2.1 (rm := { frames := 0, cells := 0, slots := 0, locals := 0 }) rfl rfl ⟨Nat.le_trans (by decide) hRm.1, Nat.le_trans (by decide) hRm.2⟩) (g_10 n S SD) k_Packets rfl rfl (Nat.le_of_ble_eq_true rfl) dX2_sendFirst_26 (fun r4 σ3 _ => ?_)
    refine jj_istore C [(4, .int r4), (3, .int r2), (0, .ref (ad 16)), (1, .int a1), (2, .ref (ad 20))] dX2_sendFirst_29 (by decide) rfl ?_
    refine jj_aload_n C 2 dX2_sendFirst_31 rfl rfl ?_
    refine jj_getr C 16 0 in_Ifs (g_16 n S SD) k_Ifs (by decide) fl_Ifs_18 rfl dX2_sendFirst_32 ?_
    refine jj_iload_n C 3 dX2_sendFirst_35 rfl rfl ?_
    refine jj_iconst C (v := (5 : Int32)) dX2_sendFirst_36 (by decide) ?_
    refine jj_iload C 0 dX2_sendFirst_37 rfl ?_
    refine jj_callVi C (As := [.int a1, .int (5 : Int32), .int r4]) (rest := []) (fun z hz => c_Grid_slot hz) (q_Ifs_59 C.2.2.2.2.1 (rm := { frames := 0, cells := 0, slots := 0, locals := 0 }) rfl rfl ⟨Nat.le_trans (by decide) hRm.1, Nat.le_trans (by decide) hRm.2⟩) (g_1 n S SD) k_Grid rfl rfl (Nat.le_of_ble_eq_true rfl) dX2_sendFirst_39 (fun r6 σ5 _ => ?_)
    refine jj_istore C [(5, .int r6), (4, .int r4), (3, .int r2), (0, .ref (ad 16)), (1, .int a1), (2, .ref (ad 20))] dX2_sendFirst_42 (by decide) rfl ?_
    refine jj_aload_n C 3 dX2_sendFirst_44 rfl rfl ?_
    refine jj_getr C 16 1 in_Ifs (g_16 n S SD) k_Ifs (by decide) fl_Ifs_22 rfl dX2_sendFirst_45 ?_
    refine jj_getr C 2 5 in_Links (g_2 n S SD) k_Links (by decide) fl_Ifs_131 rfl dX2_sendFirst_48 ?_
    refine jj_iload C 0 dX2_sendFirst_51 rfl ?_
    refine jj_iald C 7 (g_7 n S SD) dX2_sendFirst_53 ?_
    refine jj_if_ne C (tgt := 59) dX2_sendFirst_54 (by decide) (fun _ => ?_) (fun _ => ?_)
    · refine jj_aload_n C 5 dX2_sendFirst_59 rfl rfl ?_
      refine jj_getr C 20 4 in_Queues (g_20 n S SD) k_Queues (by decide) fl_Ifs_134 rfl dX2_sendFirst_60 ?_
      refine jj_iload_n C 4 dX2_sendFirst_63 rfl rfl ?_
      refine jj_dup2 C dX2_sendFirst_64 rfl rfl ?_
      refine jj_iald C 23 (g_23 n S SD) dX2_sendFirst_65 ?_
      refine jj_iconst C (v := (1 : Int32)) dX2_sendFirst_66 (by decide) ?_
      refine jj_iadd C dX2_sendFirst_67 ?_
      refine jj_iast C 23 (g_23 n S SD) dX2_sendFirst_68 ?_
      refine jj_stn (fun σ7 => ?_)
      refine jj_aload_n C 5 dX2_sendFirst_69 rfl rfl ?_
      refine jj_getr C 20 4 in_Queues (g_20 n S SD) k_Queues (by decide) fl_Ifs_134 rfl dX2_sendFirst_70 ?_
      refine jj_iload_n C 4 dX2_sendFirst_73 rfl rfl ?_
      refine jj_iald C 23 (g_23 n S SD) dX2_sendFirst_74 ?_
      refine jj_aload_n C 3 dX2_sendFirst_75 rfl rfl ?_
      refine jj_getr C 16 2 in_Ifs (g_16 n S SD) k_Ifs (by decide) fl_Ifs_26 rfl dX2_sendFirst_76 ?_
      refine jj_iload_n C 2 dX2_sendFirst_79 rfl rfl ?_
      refine jj_aload_n C 5 dX2_sendFirst_80 rfl rfl ?_
      refine jj_geti C 20 0 in_Queues (g_20 n S SD) k_Queues (by decide) fl_Ifs_123 rfl dX2_sendFirst_81 ?_
      refine jj_callVi C (As := [.int r2, .int (σ7 20 0)]) (rest := [.int (σ7 23 a1.toNatClampNeg)]) (fun z hz => c_Packets_length hz) (q_Ifs_137 C.2.2.2.2.1 (rm := { frames := 0, cells := 0, slots := 0, locals := 0 }) rfl rfl ⟨Nat.le_trans (by decide) hRm.1, Nat.le_trans (by decide) hRm.2⟩) (g_10 n S SD) k_Packets rfl rfl (Nat.le_of_ble_eq_true rfl) dX2_sendFirst_84 (fun r9 σ8 _ => ?_)
      refine jj_icmp_ne C (tgt := 94) dX2_sendFirst_87 (by decide) (fun _ => ?_) (fun _ => ?_)
      · refine jj_iconst C (v := (0 : Int32)) dX2_sendFirst_94 (by decide) ?_
        refine jj_istore C [(6, .int (0 : Int32)), (5, .int r6), (4, .int r4), (3, .int r2), (0, .ref (ad 16)), (1, .int a1), (2, .ref (ad 20))] dX2_sendFirst_95 (by decide) rfl ?_
        refine jj_aload_n C 4 dX2_sendFirst_97 rfl rfl ?_
        refine jj_getr C 16 1 in_Ifs (g_16 n S SD) k_Ifs (by decide) fl_Ifs_22 rfl dX2_sendFirst_98 ?_
        refine jj_iload C 1 dX2_sendFirst_101 rfl ?_
        refine jj_iload_n C 3 dX2_sendFirst_103 rfl rfl ?_
        refine jj_aload_n C 6 dX2_sendFirst_104 rfl rfl ?_
        refine jj_geti C 20 0 in_Queues (g_20 n S SD) k_Queues (by decide) fl_Ifs_123 rfl dX2_sendFirst_105 ?_
        refine jj_iload C 0 dX2_sendFirst_108 rfl ?_
        refine jj_callSi C (As := [.int r2, .int (σ8 20 0), .int (0 : Int32)]) (rest := [.int r6, .ref (ad 2)]) (fun z hz => c_Packets_flit hz) (q_Ifs_140 C.2.2.2.2.1 (rm := { frames := 0, cells := 0, slots := 0, locals := 0 }) rfl rfl ⟨Nat.le_trans (by decide) hRm.1, Nat.le_trans (by decide) hRm.2⟩) rfl rfl (Nat.le_of_ble_eq_true rfl) dX2_sendFirst_110 (fun r11 σ10 _ => ?_)
        refine jj_callVv C (As := [.int r6, .int r11]) (rest := []) (fun z hz => c_Links_send hz) (q_Ifs_144 C.2.2.2.2.1 (rm := { frames := 0, cells := 0, slots := 0, locals := 0 }) rfl rfl ⟨Nat.le_trans (by decide) hRm.1, Nat.le_trans (by decide) hRm.2⟩) (g_2 n S SD) k_Links rfl rfl (Nat.le_of_ble_eq_true rfl) dX2_sendFirst_113 (fun σ12 _ => ?_)
        refine jj_iload C 0 dX2_sendFirst_116 rfl ?_
        refine jj_if_eq_t C (tgt := 126) dX2_sendFirst_118 (by decide) (by decide) ?_
        refine jj_iconst C (v := (1 : Int32)) dX2_sendFirst_126 (by decide) ?_
        exact jj_zret C hr hlocks (by first | rfl | decide +kernel) dX2_sendFirst_127
      · refine jj_iconst C (v := (1 : Int32)) dX2_sendFirst_90 (by decide) ?_
        refine jj_goto C (tgt := 95) dX2_sendFirst_91 (by decide) ?_
        refine jj_istore C [(6, .int (1 : Int32)), (5, .int r6), (4, .int r4), (3, .int r2), (0, .ref (ad 16)), (1, .int a1), (2, .ref (ad 20))] dX2_sendFirst_95 (by decide) rfl ?_
        refine jj_aload_n C 4 dX2_sendFirst_97 rfl rfl ?_
        refine jj_getr C 16 1 in_Ifs (g_16 n S SD) k_Ifs (by decide) fl_Ifs_22 rfl dX2_sendFirst_98 ?_
        refine jj_iload C 1 dX2_sendFirst_101 rfl ?_
        refine jj_iload_n C 3 dX2_sendFirst_103 rfl rfl ?_
        refine jj_aload_n C 6 dX2_sendFirst_104 rfl rfl ?_
        refine jj_geti C 20 0 in_Queues (g_20 n S SD) k_Queues (by decide) fl_Ifs_123 rfl dX2_sendFirst_105 ?_
        refine jj_iload C 0 dX2_sendFirst_108 rfl ?_
        refine jj_callSi C (As := [.int r2, .int (σ8 20 0), .int (1 : Int32)]) (rest := [.int r6, .ref (ad 2)]) (fun z hz => c_Packets_flit hz) (q_Ifs_140 C.2.2.2.2.1 (rm := { frames := 0, cells := 0, slots := 0, locals := 0 }) rfl rfl ⟨Nat.le_trans (by decide) hRm.1, Nat.le_trans (by decide) hRm.2⟩) rfl rfl (Nat.le_of_ble_eq_true rfl) dX2_sendFirst_110 (fun r14 σ13 _ => ?_)
        refine jj_callVv C (As := [.int r6, .int r14]) (rest := []) (fun z hz => c_Links_send hz) (q_Ifs_144 C.2.2.2.2.1 (rm := { frames := 0, cells := 0, slots := 0, locals := 0 }) rfl rfl ⟨Nat.le_trans (by decide) hRm.1, Nat.le_trans (by decide) hRm.2⟩) (g_2 n S SD) k_Links rfl rfl (Nat.le_of_ble_eq_true rfl) dX2_sendFirst_113 (fun σ15 _ => ?_)
        refine jj_iload C 0 dX2_sendFirst_116 rfl ?_
        refine jj_if_eq_f C (tgt := 126) dX2_sendFirst_118 (by decide) (by decide) ?_
        refine jj_aload_n C 6 dX2_sendFirst_121 rfl rfl ?_
        refine jj_iload_n C 5 dX2_sendFirst_122 rfl rfl ?_
        refine jj_callVv C (As := [.int a1]) (rest := []) (fun z hz => c_Queues_removeFirstq hz) (q_Ifs_147 C.2.2.2.2.1 (rm := { frames := 0, cells := 0, slots := 0, locals := 0 }) rfl rfl ⟨Nat.le_trans (by decide) hRm.1, Nat.le_trans (by decide) hRm.2⟩) (g_20 n S SD) k_Queues rfl rfl (Nat.le_of_ble_eq_true rfl) dX2_sendFirst_123 (fun σ16 _ => ?_)
        refine jj_iconst C (v := (1 : Int32)) dX2_sendFirst_126 (by decide) ?_
        exact jj_zret C hr hlocks (by first | rfl | decide +kernel) dX2_sendFirst_127
    · refine jj_iconst C (v := (0 : Int32)) dX2_sendFirst_57 (by decide) ?_
      exact jj_zret C hr hlocks (by first | rfl | decide +kernel) dX2_sendFirst_58
  · refine jj_iconst C (v := (0 : Int32)) dX2_sendFirst_9 (by decide) ?_
    exact jj_zret C hr hlocks (by first | rfl | decide +kernel) dX2_sendFirst_10

set_option maxHeartbeats 4000000 in
set_option maxRecDepth 100000 in
theorem l_Ifs_sendAll_2 {p : Program} {l : Launch} {e : Env} {R : Room} {s : State} {m : MethodId} {args : Array Value} {below : List Frame} {meth : Method} {c : Code} {D : va_G} {A : Nat → Prop} {ad : Nat → Nat} {cA : FieldType → ClassId} {n S SD F : Nat} (C : jj_C p R s m args c D vwCl A ad cA (gc n S SD) 2 0 0 cX2_sendAll RX2 jw_t) (hr : meth.sig.returnType = none) (hlocks : meth.locks = false) (hRm : 2 ≤ R.frames ∧ 80 ≤ R.locals) {K : jj_S → Int32 → Option jj_S} (hK : ∀ (σ : jj_S) (x1 : Int32), jj_J p l e R s m args below meth c D vwCl A ad cA (gc n S SD) 2 0 0 (jj_Qv below D vwCl A ad cA (gc n S SD) args s 0 0) (K σ x1) σ 41 [(0, .ref (ad 16)), (1, .int x1)] []) : ∀ (k : Nat) (σ : jj_S) (x1 : Int32), jj_J p l e R s m args below meth c D vwCl A ad cA (gc n S SD) 2 0 0 (jj_Qv below D vwCl A ad cA (gc n S SD) args s 0 0) (jj_lp1 (b_Ifs_sendAll_2 n S SD F K) k σ x1) σ 2 [(0, .ref (ad 16)), (1, .int x1)] [] := by
  refine jj_loop1 (T := fun o σ x1 => jj_J p l e R s m args below meth c D vwCl A ad cA (gc n S SD) 2 0 0 (jj_Qv below D vwCl A ad cA (gc n S SD) args s 0 0) o σ 2 [(0, .ref (ad 16)), (1, .int x1)] []) (fun _ _ _ h => by cases h) ?_
  intro rec ih σ x1
  unfold b_Ifs_sendAll_2
  refine jj_iload_n C 1 dX2_sendAll_2 rfl rfl ?_
  refine jj_aload_n C 0 dX2_sendAll_3 rfl rfl ?_
  refine jj_getr C 16 0 in_Ifs (g_16 n S SD) k_Ifs (by decide) fl_Ifs_18 rfl dX2_sendAll_4 ?_
  refine jj_geti C 1 5 in_Grid (g_1 n S SD) k_Grid (by decide) fl_Ifs_32 rfl dX2_sendAll_7 ?_
  refine jj_icmp_ge C (tgt := 41) dX2_sendAll_10 (by decide) (fun _ => ?_) (fun _ => ?_)
  · refine jj_sub [0, 1] rfl ?_
    exact hK σ x1
  · refine jj_aload_n C 0 dX2_sendAll_13 rfl rfl ?_
    refine jj_iload_n C 1 dX2_sendAll_14 rfl rfl ?_
    refine jj_aload_n C 0 dX2_sendAll_15 rfl rfl ?_
    refine jj_getr C 16 4 in_Ifs (g_16 n S SD) k_Ifs (by decide) fl_Ifs_45 rfl dX2_sendAll_16 ?_
    refine jj_callVi C (As := [.int x1, .ref (ad 24)]) (rest := []) (fun z hz => c_Ifs_sendFirstp hz) (q_Ifs_115 C.2.2.2.2.1 (rm := { frames := 1, cells := 0, slots := 0, locals := 40 }) rfl rfl ⟨Nat.le_trans (by decide) hRm.1, Nat.le_trans (by decide) hRm.2⟩) (g_16 n S SD) k_Ifs rfl rfl (Nat.le_of_ble_eq_true rfl) dX2_sendAll_19 (fun r2 σ1 _ => ?_)
    refine jj_if_ne C (tgt := 35) dX2_sendAll_22 (by decide) (fun _ => ?_) (fun _ => ?_)
    · refine jj_iinc C (v := x1 + (1 : Int32)) [(1, .int (x1 + (1 : Int32))), (0, .ref (ad 16))] 1 dX2_sendAll_35 rfl rfl (by decide) rfl ?_
      refine jj_goto C (tgt := 2) dX2_sendAll_38 (by decide) ?_
      refine jj_sub [1, 0] rfl ?_
      exact ih σ1 (x1 + (1 : Int32))
    · refine jj_aload_n C 0 dX2_sendAll_25 rfl rfl ?_
      refine jj_iload_n C 1 dX2_sendAll_26 rfl rfl ?_
      refine jj_aload_n C 0 dX2_sendAll_27 rfl rfl ?_
      refine jj_getr C 16 3 in_Ifs (g_16 n S SD) k_Ifs (by decide) fl_Ifs_41 rfl dX2_sendAll_28 ?_
      refine jj_callVi C (As := [.int x1, .ref (ad 20)]) (rest := []) (fun z hz => c_Ifs_sendFirstq hz) (q_Ifs_115 C.2.2.2.2.1 (rm := { frames := 1, cells := 0, slots := 0, locals := 40 }) rfl rfl ⟨Nat.le_trans (by decide) hRm.1, Nat.le_trans (by decide) hRm.2⟩) (g_16 n S SD) k_Ifs rfl rfl (Nat.le_of_ble_eq_true rfl) dX2_sendAll_31 (fun r4 σ3 _ => ?_)
      refine jj_pop C dX2_sendAll_34 rfl ?_
      refine jj_iinc C (v := x1 + (1 : Int32)) [(1, .int (x1 + (1 : Int32))), (0, .ref (ad 16))] 1 dX2_sendAll_35 rfl rfl (by decide) rfl ?_
      refine jj_goto C (tgt := 2) dX2_sendAll_38 (by decide) ?_
      refine jj_sub [1, 0] rfl ?_
      exact ih σ3 (x1 + (1 : Int32))

set_option maxHeartbeats 4000000 in
set_option maxRecDepth 100000 in
theorem c_Ifs_sendAll {l : Launch} {D : va_G} {ad : Nat → Nat} {cA : FieldType → ClassId} {n S SD F : Nat} {σ : jj_S} {z : jj_S} (ho : f_Ifs_sendAll n S SD F σ = some z) : jj_Mv l yX2_sendAll (Cond.code yX2_sendAll cX2_sendAll 2 none :: jw_t) { frames := 2, cells := 0, slots := 0, locals := 80 } D vwCl ad cA (gc n S SD) [.ref (ad 16)] σ z := by
  refine jj_ofv (cc := cX2_sendAll) (nL := 2) (ret := none) rfl ho (Nat.le_of_ble_eq_true rfl) ?_
  intro p e s m below meth c C hr hlocks
  generalize hA : va_A (jj_w ad cA (gc n S SD) σ) s.heap.size = A at C ⊢
  have hRm : 2 ≤ (headSpec (Cond.code yX2_sendAll cX2_sendAll 2 none :: jw_t) { frames := 2, cells := 0, slots := 0, locals := 80 }).room.frames ∧ 80 ≤ (headSpec (Cond.code yX2_sendAll cX2_sendAll 2 none :: jw_t) { frames := 2, cells := 0, slots := 0, locals := 80 }).room.locals := ⟨Nat.le_refl _, Nat.le_refl _⟩
  generalize (headSpec (Cond.code yX2_sendAll cX2_sendAll 2 none :: jw_t) { frames := 2, cells := 0, slots := 0, locals := 80 }).room = R at C hRm ⊢
  generalize List.toArray ([.ref (ad 16)] : List Value) = args at C ⊢
  refine jj_sub (lv' := [(0, .ref (ad 16))]) [0] rfl ?_
  unfold f_Ifs_sendAll
  refine jj_iconst C (v := (0 : Int32)) dX2_sendAll_0 (by decide) ?_
  refine jj_istore_n C [(1, .int (0 : Int32)), (0, .ref (ad 16))] dX2_sendAll_1 rfl (by decide) rfl ?_
  refine jj_sub [1, 0] rfl ?_
  refine l_Ifs_sendAll_2 C hr hlocks hRm (fun σ5 x1_6 => ?_) F σ (0 : Int32)
  exact jj_vret C hr hlocks dX2_sendAll_41

set_option maxHeartbeats 4000000 in
set_option maxRecDepth 100000 in
theorem c_Routers_isReady {l : Launch} {D : va_G} {ad : Nat → Nat} {cA : FieldType → ClassId} {n S SD F : Nat} {σ : jj_S} {a1 a2 a3 : Int32} {z : (Int32 × jj_S)} (ho : f_Routers_isReady n S SD F σ a1 a2 a3 = some z) : jj_Mi l yX6_isReady (Cond.code yX6_isReady cX6_isReady 5 (some .boolean) :: jw_t) { frames := 1, cells := 0, slots := 0, locals := 40 } D vwCl ad cA (gc n S SD) [.ref (ad 30), .int a1, .int a2, .int a3] σ z := by
  refine jj_ofi (cc := cX6_isReady) (nL := 5) (ret := (some .boolean)) rfl ho (Nat.le_of_ble_eq_true rfl) ?_
  intro p e s m below meth c C hr hlocks
  generalize hA : va_A (jj_w ad cA (gc n S SD) σ) s.heap.size = A at C ⊢
  have hRm : 1 ≤ (headSpec (Cond.code yX6_isReady cX6_isReady 5 (some .boolean) :: jw_t) { frames := 1, cells := 0, slots := 0, locals := 40 }).room.frames ∧ 40 ≤ (headSpec (Cond.code yX6_isReady cX6_isReady 5 (some .boolean) :: jw_t) { frames := 1, cells := 0, slots := 0, locals := 40 }).room.locals := ⟨Nat.le_refl _, Nat.le_refl _⟩
  generalize (headSpec (Cond.code yX6_isReady cX6_isReady 5 (some .boolean) :: jw_t) { frames := 1, cells := 0, slots := 0, locals := 40 }).room = R at C hRm ⊢
  generalize List.toArray ([.ref (ad 30), .int a1, .int a2, .int a3] : List Value) = args at C ⊢
  refine jj_sub (lv' := [(0, .ref (ad 30)), (1, .int a1), (2, .int a2), (3, .int a3)]) [0, 1, 2, 3] rfl ?_
  unfold f_Routers_isReady
  refine jj_aload_n C 0 dX6_isReady_0 rfl rfl ?_
  refine jj_getr C 30 0 in_Routers (g_30 n S SD) k_Routers (by decide) fl_Routers_15 rfl dX6_isReady_1 ?_
  refine jj_iload_n C 1 dX6_isReady_4 rfl rfl ?_
  refine jj_iload_n C 2 dX6_isReady_5 rfl rfl ?_
  refine jj_iload_n C 3 dX6_isReady_6 rfl rfl ?_
  refine jj_callVi C (As := [.int a1, .int a2, .int a3]) (rest := []) (fun z hz => c_Grid_slot hz) (q_Routers_73 C.2.2.2.2.1 (rm := { frames := 0, cells := 0, slots := 0, locals := 0 }) rfl rfl ⟨Nat.le_trans (by decide) hRm.1, Nat.le_trans (by decide) hRm.2⟩) (g_1 n S SD) k_Grid rfl rfl (Nat.le_of_ble_eq_true rfl) dX6_isReady_7 (fun r2 σ1 _ => ?_)
  refine jj_istore C [(4, .int r2), (0, .ref (ad 30)), (1, .int a1), (2, .int a2), (3, .int a3)] dX6_isReady_10 (by decide) rfl ?_
  refine jj_aload_n C 1 dX6_isReady_12 rfl rfl ?_
  refine jj_getr C 30 1 in_Routers (g_30 n S SD) k_Routers (by decide) fl_Routers_19 rfl dX6_isReady_13 ?_
  refine jj_getr C 2 4 in_Links (g_2 n S SD) k_Links (by decide) fl_Routers_77 rfl dX6_isReady_16 ?_
  refine jj_iload C 0 dX6_isReady_19 rfl ?_
  refine jj_iald C 6 (g_6 n S SD) dX6_isReady_21 ?_
  refine jj_if_le C (tgt := 67) dX6_isReady_22 (by decide) (fun _ => ?_) (fun _ => ?_)
  · refine jj_iconst C (v := (0 : Int32)) dX6_isReady_67 (by decide) ?_
    exact jj_zret C hr hlocks (by first | rfl | decide +kernel) dX6_isReady_68
  · refine jj_aload_n C 1 dX6_isReady_25 rfl rfl ?_
    refine jj_getr C 30 3 in_Routers (g_30 n S SD) k_Routers (by decide) fl_Routers_33 rfl dX6_isReady_26 ?_
    refine jj_iload C 0 dX6_isReady_29 rfl ?_
    refine jj_iald C 32 (g_32 n S SD) dX6_isReady_31 ?_
    refine jj_iconst C (v := (2 : Int32)) dX6_isReady_32 (by decide) ?_
    refine jj_icmp_ne C (tgt := 67) dX6_isReady_33 (by decide) (fun _ => ?_) (fun _ => ?_)
    · refine jj_iconst C (v := (0 : Int32)) dX6_isReady_67 (by decide) ?_
      exact jj_zret C hr hlocks (by first | rfl | decide +kernel) dX6_isReady_68
    · refine jj_aload_n C 1 dX6_isReady_36 rfl rfl ?_
      refine jj_getr C 30 1 in_Routers (g_30 n S SD) k_Routers (by decide) fl_Routers_19 rfl dX6_isReady_37 ?_
      refine jj_getr C 2 5 in_Links (g_2 n S SD) k_Links (by decide) fl_Routers_82 rfl dX6_isReady_40 ?_
      refine jj_aload_n C 1 dX6_isReady_43 rfl rfl ?_
      refine jj_getr C 30 0 in_Routers (g_30 n S SD) k_Routers (by decide) fl_Routers_15 rfl dX6_isReady_44 ?_
      refine jj_iload_n C 2 dX6_isReady_47 rfl rfl ?_
      refine jj_aload_n C 1 dX6_isReady_48 rfl rfl ?_
      refine jj_getr C 30 4 in_Routers (g_30 n S SD) k_Routers (by decide) fl_Routers_36 rfl dX6_isReady_49 ?_
      refine jj_iload C 0 dX6_isReady_52 rfl ?_
      refine jj_iald C 33 (g_33 n S SD) dX6_isReady_54 ?_
      refine jj_iload_n C 4 dX6_isReady_55 rfl rfl ?_
      refine jj_callVi C (As := [.int a1, .int (σ1 33 r2.toNatClampNeg), .int a3]) (rest := [.ref (ad 7)]) (fun z hz => c_Grid_slot hz) (q_Routers_73 C.2.2.2.2.1 (rm := { frames := 0, cells := 0, slots := 0, locals := 0 }) rfl rfl ⟨Nat.le_trans (by decide) hRm.1, Nat.le_trans (by decide) hRm.2⟩) (g_1 n S SD) k_Grid rfl rfl (Nat.le_of_ble_eq_true rfl) dX6_isReady_56 (fun r4 σ3 _ => ?_)
      refine jj_iald C 7 (g_7 n S SD) dX6_isReady_59 ?_
      refine jj_if_le C (tgt := 67) dX6_isReady_60 (by decide) (fun _ => ?_) (fun _ => ?_)
      · refine jj_iconst C (v := (0 : Int32)) dX6_isReady_67 (by decide) ?_
        exact jj_zret C hr hlocks (by first | rfl | decide +kernel) dX6_isReady_68
      · refine jj_iconst C (v := (1 : Int32)) dX6_isReady_63 (by decide) ?_
        refine jj_goto C (tgt := 68) dX6_isReady_64 (by decide) ?_
        exact jj_zret C hr hlocks (by first | rfl | decide +kernel) dX6_isReady_68
end
section
set_option maxHeartbeats 4000000 in
set_option maxRecDepth 100000 in
theorem l_Routers_readyChannel_14 {p : Program} {l : Launch} {e : Env} {R : Room} {s : State} {m : MethodId} {args : Array Value} {below : List Frame} {meth : Method} {c : Code} {D : va_G} {A : Nat → Prop} {ad : Nat → Nat} {cA : FieldType → ClassId} {n S SD F : Nat} (C : jj_C p R s m args c D vwCl A ad cA (gc n S SD) 6 0 0 cX6_readyChannel RX6 jw_t) (hr : meth.sig.returnType = (some .int)) (hlocks : meth.locks = false) (hRm : 2 ≤ R.frames ∧ 80 ≤ R.locals) {K : jj_S → Int32 → Int32 → Int32 → Int32 → Option (Int32 × jj_S)} (hK : ∀ (σ : jj_S) (x1 x2 x3 x4 : Int32), jj_J p l e R s m args below meth c D vwCl A ad cA (gc n S SD) 6 0 0 (jj_Qi below D vwCl A ad cA (gc n S SD) args s 0 0) (K σ x1 x2 x3 x4) σ 60 [(0, .ref (ad 30)), (1, .int x1), (2, .int x2), (3, .int x3), (4, .int x4)] []) : ∀ (k : Nat) (σ : jj_S) (x1 x2 x3 x4 : Int32), jj_J p l e R s m args below meth c D vwCl A ad cA (gc n S SD) 6 0 0 (jj_Qi below D vwCl A ad cA (gc n S SD) args s 0 0) (jj_lp4 (b_Routers_readyChannel_14 n S SD F K) k σ x1 x2 x3 x4) σ 14 [(0, .ref (ad 30)), (1, .int x1), (2, .int x2), (3, .int x3), (4, .int x4)] [] := by
  refine jj_loop4 (T := fun o σ x1 x2 x3 x4 => jj_J p l e R s m args below meth c D vwCl A ad cA (gc n S SD) 6 0 0 (jj_Qi below D vwCl A ad cA (gc n S SD) args s 0 0) o σ 14 [(0, .ref (ad 30)), (1, .int x1), (2, .int x2), (3, .int x3), (4, .int x4)] []) (fun _ _ _ _ _ _ h => by cases h) ?_
  intro rec ih σ x1 x2 x3 x4
  unfold b_Routers_readyChannel_14
  refine jj_iload C 4 dX6_readyChannel_14 rfl ?_
  refine jj_aload_n C 0 dX6_readyChannel_16 rfl rfl ?_
  refine jj_getr C 30 0 in_Routers (g_30 n S SD) k_Routers (by decide) fl_Routers_15 rfl dX6_readyChannel_17 ?_
  refine jj_geti C 1 4 in_Grid (g_1 n S SD) k_Grid (by decide) fl_Routers_66 rfl dX6_readyChannel_20 ?_
  refine jj_icmp_ge C (tgt := 60) dX6_readyChannel_23 (by decide) (fun _ => ?_) (fun _ => ?_)
  · refine jj_sub [0, 1, 2, 3, 4] rfl ?_
    exact hK σ x1 x2 x3 x4
  · refine jj_iload_n C 3 dX6_readyChannel_26 rfl rfl ?_
    refine jj_iload C 4 dX6_readyChannel_27 rfl ?_
    refine jj_iadd C dX6_readyChannel_29 ?_
    refine jj_aload_n C 0 dX6_readyChannel_30 rfl rfl ?_
    refine jj_getr C 30 0 in_Routers (g_30 n S SD) k_Routers (by decide) fl_Routers_15 rfl dX6_readyChannel_31 ?_
    refine jj_geti C 1 4 in_Grid (g_1 n S SD) k_Grid (by decide) fl_Routers_66 rfl dX6_readyChannel_34 ?_
    refine jj_irem C dX6_readyChannel_37 ?_
    refine jj_ltn (fun v5_2 => ?_)
    refine jj_istore C [(5, .int v5_2), (0, .ref (ad 30)), (1, .int x1), (2, .int x2), (3, .int x3), (4, .int x4)] dX6_readyChannel_38 (by decide) rfl ?_
    refine jj_aload_n C 1 dX6_readyChannel_40 rfl rfl ?_
    refine jj_iload_n C 2 dX6_readyChannel_41 rfl rfl ?_
    refine jj_iload_n C 3 dX6_readyChannel_42 rfl rfl ?_
    refine jj_iload C 0 dX6_readyChannel_43 rfl ?_
    refine jj_callVi C (As := [.int x1, .int x2, .int v5_2]) (rest := []) (fun z hz => c_Routers_isReady hz) (q_Routers_69 C.2.2.2.2.1 (rm := { frames := 1, cells := 0, slots := 0, locals := 40 }) rfl rfl ⟨Nat.le_trans (by decide) hRm.1, Nat.le_trans (by decide) hRm.2⟩) (g_30 n S SD) k_Routers rfl rfl (Nat.le_of_ble_eq_true rfl) dX6_readyChannel_45 (fun r4 σ3 _ => ?_)
    refine jj_if_eq C (tgt := 54) dX6_readyChannel_48 (by decide) (fun _ => ?_) (fun _ => ?_)
    · refine jj_iinc C (v := x4 + (1 : Int32)) [(4, .int (x4 + (1 : Int32))), (5, .int v5_2), (0, .ref (ad 30)), (1, .int x1), (2, .int x2), (3, .int x3)] 5 dX6_readyChannel_54 rfl rfl (by decide) rfl ?_
      refine jj_goto C (tgt := 14) dX6_readyChannel_57 (by decide) ?_
      refine jj_sub [2, 3, 4, 5, 0] rfl ?_
      exact ih σ3 x1 x2 x3 (x4 + (1 : Int32))
    · refine jj_iload C 0 dX6_readyChannel_51 rfl ?_
      exact jj_iret C hr hlocks dX6_readyChannel_53

set_option maxHeartbeats 4000000 in
set_option maxRecDepth 100000 in
theorem c_Routers_readyChannel {l : Launch} {D : va_G} {ad : Nat → Nat} {cA : FieldType → ClassId} {n S SD F : Nat} {σ : jj_S} {a1 a2 : Int32} {z : (Int32 × jj_S)} (ho : f_Routers_readyChannel n S SD F σ a1 a2 = some z) : jj_Mi l yX6_readyChannel (Cond.code yX6_readyChannel cX6_readyChannel 6 (some .int) :: jw_t) { frames := 2, cells := 0, slots := 0, locals := 80 } D vwCl ad cA (gc n S SD) [.ref (ad 30), .int a1, .int a2] σ z := by
  refine jj_ofi (cc := cX6_readyChannel) (nL := 6) (ret := (some .int)) rfl ho (Nat.le_of_ble_eq_true rfl) ?_
  intro p e s m below meth c C hr hlocks
  generalize hA : va_A (jj_w ad cA (gc n S SD) σ) s.heap.size = A at C ⊢
  have hRm : 2 ≤ (headSpec (Cond.code yX6_readyChannel cX6_readyChannel 6 (some .int) :: jw_t) { frames := 2, cells := 0, slots := 0, locals := 80 }).room.frames ∧ 80 ≤ (headSpec (Cond.code yX6_readyChannel cX6_readyChannel 6 (some .int) :: jw_t) { frames := 2, cells := 0, slots := 0, locals := 80 }).room.locals := ⟨Nat.le_refl _, Nat.le_refl _⟩
  generalize (headSpec (Cond.code yX6_readyChannel cX6_readyChannel 6 (some .int) :: jw_t) { frames := 2, cells := 0, slots := 0, locals := 80 }).room = R at C hRm ⊢
  generalize List.toArray ([.ref (ad 30), .int a1, .int a2] : List Value) = args at C ⊢
  refine jj_sub (lv' := [(0, .ref (ad 30)), (1, .int a1), (2, .int a2)]) [0, 1, 2] rfl ?_
  unfold f_Routers_readyChannel
  refine jj_aload_n C 0 dX6_readyChannel_0 rfl rfl ?_
  refine jj_getr C 30 7 in_Routers (g_30 n S SD) k_Routers (by decide) fl_Routers_49 rfl dX6_readyChannel_1 ?_
  refine jj_iload_n C 1 dX6_readyChannel_4 rfl rfl ?_
  refine jj_iconst C (v := (5 : Int32)) dX6_readyChannel_5 (by decide) ?_
  refine jj_imul C dX6_readyChannel_6 ?_
  refine jj_iload_n C 2 dX6_readyChannel_7 rfl rfl ?_
  refine jj_iadd C dX6_readyChannel_8 ?_
  refine jj_iald C 36 (g_36 n S SD) dX6_readyChannel_9 ?_
  refine jj_ltn (fun v3_1 => ?_)
  refine jj_istore_n C [(3, .int v3_1), (0, .ref (ad 30)), (1, .int a1), (2, .int a2)] dX6_readyChannel_10 rfl (by decide) rfl ?_
  refine jj_iconst C (v := (0 : Int32)) dX6_readyChannel_11 (by decide) ?_
  refine jj_istore C [(4, .int (0 : Int32)), (3, .int v3_1), (0, .ref (ad 30)), (1, .int a1), (2, .int a2)] dX6_readyChannel_12 (by decide) rfl ?_
  refine jj_sub [2, 3, 4, 1, 0] rfl ?_
  refine l_Routers_readyChannel_14 C hr hlocks hRm (fun σ5 x1_6 x2_7 x3_8 x4_9 => ?_) F σ a1 a2 v3_1 (0 : Int32)
  refine jj_iconst C (v := (-1 : Int32)) dX6_readyChannel_60 (by decide) ?_
  exact jj_iret C hr hlocks dX6_readyChannel_61

set_option maxHeartbeats 4000000 in
set_option maxRecDepth 100000 in
theorem l_Routers_chosenPort_14 {p : Program} {l : Launch} {e : Env} {R : Room} {s : State} {m : MethodId} {args : Array Value} {below : List Frame} {meth : Method} {c : Code} {D : va_G} {A : Nat → Prop} {ad : Nat → Nat} {cA : FieldType → ClassId} {n S SD F : Nat} (C : jj_C p R s m args c D vwCl A ad cA (gc n S SD) 6 0 0 cX6_chosenPort RX6 jw_t) (hr : meth.sig.returnType = (some .int)) (hlocks : meth.locks = false) (hRm : 1 ≤ R.frames ∧ 40 ≤ R.locals) {K : jj_S → Int32 → Int32 → Int32 → Int32 → Option (Int32 × jj_S)} (hK : ∀ (σ : jj_S) (x1 x2 x3 x4 : Int32), jj_J p l e R s m args below meth c D vwCl A ad cA (gc n S SD) 6 0 0 (jj_Qi below D vwCl A ad cA (gc n S SD) args s 0 0) (K σ x1 x2 x3 x4) σ 74 [(0, .ref (ad 30)), (1, .int x1), (2, .int x2), (3, .int x3), (4, .int x4)] []) : ∀ (k : Nat) (σ : jj_S) (x1 x2 x3 x4 : Int32), jj_J p l e R s m args below meth c D vwCl A ad cA (gc n S SD) 6 0 0 (jj_Qi below D vwCl A ad cA (gc n S SD) args s 0 0) (jj_lp4 (b_Routers_chosenPort_14 n S SD F K) k σ x1 x2 x3 x4) σ 14 [(0, .ref (ad 30)), (1, .int x1), (2, .int x2), (3, .int x3), (4, .int x4)] [] := by
  refine jj_loop4 (T := fun o σ x1 x2 x3 x4 => jj_J p l e R s m args below meth c D vwCl A ad cA (gc n S SD) 6 0 0 (jj_Qi below D vwCl A ad cA (gc n S SD) args s 0 0) o σ 14 [(0, .ref (ad 30)), (1, .int x1), (2, .int x2), (3, .int x3), (4, .int x4)] []) (fun _ _ _ _ _ _ h => by cases h) ?_
  intro rec ih σ x1 x2 x3 x4
  unfold b_Routers_chosenPort_14
  refine jj_iload C 4 dX6_chosenPort_14 rfl ?_
  refine jj_iconst C (v := (5 : Int32)) dX6_chosenPort_16 (by decide) ?_
  refine jj_icmp_ge C (tgt := 74) dX6_chosenPort_17 (by decide) (fun _ => ?_) (fun _ => ?_)
  · refine jj_sub [0, 1, 2, 3, 4] rfl ?_
    exact hK σ x1 x2 x3 x4
  · refine jj_iload_n C 3 dX6_chosenPort_20 rfl rfl ?_
    refine jj_iload C 4 dX6_chosenPort_21 rfl ?_
    refine jj_iadd C dX6_chosenPort_23 ?_
    refine jj_iconst C (v := (5 : Int32)) dX6_chosenPort_24 (by decide) ?_
    refine jj_irem C dX6_chosenPort_25 ?_
    refine jj_ltn (fun v5_2 => ?_)
    refine jj_istore C [(5, .int v5_2), (0, .ref (ad 30)), (1, .int x1), (2, .int x2), (3, .int x3), (4, .int x4)] dX6_chosenPort_26 (by decide) rfl ?_
    refine jj_aload_n C 1 dX6_chosenPort_28 rfl rfl ?_
    refine jj_getr C 30 9 in_Routers (g_30 n S SD) k_Routers (by decide) fl_Routers_9 rfl dX6_chosenPort_29 ?_
    refine jj_iload C 0 dX6_chosenPort_32 rfl ?_
    refine jj_iald C 31 (g_31 n S SD) dX6_chosenPort_34 ?_
    refine jj_iconst C (v := (-1 : Int32)) dX6_chosenPort_35 (by decide) ?_
    refine jj_icmp_eq C (tgt := 68) dX6_chosenPort_36 (by decide) (fun _ => ?_) (fun _ => ?_)
    · refine jj_iinc C (v := x4 + (1 : Int32)) [(4, .int (x4 + (1 : Int32))), (5, .int v5_2), (0, .ref (ad 30)), (1, .int x1), (2, .int x2), (3, .int x3)] 5 dX6_chosenPort_68 rfl rfl (by decide) rfl ?_
      refine jj_goto C (tgt := 14) dX6_chosenPort_71 (by decide) ?_
      refine jj_sub [2, 3, 4, 5, 0] rfl ?_
      exact ih σ x1 x2 x3 (x4 + (1 : Int32))
    · refine jj_aload_n C 1 dX6_chosenPort_39 rfl rfl ?_
      refine jj_getr C 30 4 in_Routers (g_30 n S SD) k_Routers (by decide) fl_Routers_36 rfl dX6_chosenPort_40 ?_
      refine jj_aload_n C 1 dX6_chosenPort_43 rfl rfl ?_
      refine jj_getr C 30 0 in_Routers (g_30 n S SD) k_Routers (by decide) fl_Routers_15 rfl dX6_chosenPort_44 ?_
      refine jj_iload_n C 2 dX6_chosenPort_47 rfl rfl ?_
      refine jj_iload C 0 dX6_chosenPort_48 rfl ?_
      refine jj_aload_n C 1 dX6_chosenPort_50 rfl rfl ?_
      refine jj_getr C 30 9 in_Routers (g_30 n S SD) k_Routers (by decide) fl_Routers_9 rfl dX6_chosenPort_51 ?_
      refine jj_iload C 0 dX6_chosenPort_54 rfl ?_
      refine jj_iald C 31 (g_31 n S SD) dX6_chosenPort_56 ?_
      refine jj_callVi C (As := [.int x1, .int v5_2, .int (σ 31 v5_2.toNatClampNeg)]) (rest := [.ref (ad 33)]) (fun z hz => c_Grid_slot hz) (q_Routers_73 C.2.2.2.2.1 (rm := { frames := 0, cells := 0, slots := 0, locals := 0 }) rfl rfl ⟨Nat.le_trans (by decide) hRm.1, Nat.le_trans (by decide) hRm.2⟩) (g_1 n S SD) k_Grid rfl rfl (Nat.le_of_ble_eq_true rfl) dX6_chosenPort_57 (fun r4 σ3 _ => ?_)
      refine jj_iald C 33 (g_33 n S SD) dX6_chosenPort_60 ?_
      refine jj_iload_n C 3 dX6_chosenPort_61 rfl rfl ?_
      refine jj_icmp_ne C (tgt := 68) dX6_chosenPort_62 (by decide) (fun _ => ?_) (fun _ => ?_)
      · refine jj_iinc C (v := x4 + (1 : Int32)) [(4, .int (x4 + (1 : Int32))), (5, .int v5_2), (0, .ref (ad 30)), (1, .int x1), (2, .int x2), (3, .int x3)] 5 dX6_chosenPort_68 rfl rfl (by decide) rfl ?_
        refine jj_goto C (tgt := 14) dX6_chosenPort_71 (by decide) ?_
        refine jj_sub [2, 3, 4, 5, 0] rfl ?_
        exact ih σ3 x1 x2 x3 (x4 + (1 : Int32))
      · refine jj_iload C 0 dX6_chosenPort_65 rfl ?_
        exact jj_iret C hr hlocks dX6_chosenPort_67

set_option maxHeartbeats 4000000 in
set_option maxRecDepth 100000 in
theorem c_Routers_chosenPort {l : Launch} {D : va_G} {ad : Nat → Nat} {cA : FieldType → ClassId} {n S SD F : Nat} {σ : jj_S} {a1 a2 : Int32} {z : (Int32 × jj_S)} (ho : f_Routers_chosenPort n S SD F σ a1 a2 = some z) : jj_Mi l yX6_chosenPort (Cond.code yX6_chosenPort cX6_chosenPort 6 (some .int) :: jw_t) { frames := 1, cells := 0, slots := 0, locals := 40 } D vwCl ad cA (gc n S SD) [.ref (ad 30), .int a1, .int a2] σ z := by
  refine jj_ofi (cc := cX6_chosenPort) (nL := 6) (ret := (some .int)) rfl ho (Nat.le_of_ble_eq_true rfl) ?_
  intro p e s m below meth c C hr hlocks
  generalize hA : va_A (jj_w ad cA (gc n S SD) σ) s.heap.size = A at C ⊢
  have hRm : 1 ≤ (headSpec (Cond.code yX6_chosenPort cX6_chosenPort 6 (some .int) :: jw_t) { frames := 1, cells := 0, slots := 0, locals := 40 }).room.frames ∧ 40 ≤ (headSpec (Cond.code yX6_chosenPort cX6_chosenPort 6 (some .int) :: jw_t) { frames := 1, cells := 0, slots := 0, locals := 40 }).room.locals := ⟨Nat.le_refl _, Nat.le_refl _⟩
  generalize (headSpec (Cond.code yX6_chosenPort cX6_chosenPort 6 (some .int) :: jw_t) { frames := 1, cells := 0, slots := 0, locals := 40 }).room = R at C hRm ⊢
  generalize List.toArray ([.ref (ad 30), .int a1, .int a2] : List Value) = args at C ⊢
  refine jj_sub (lv' := [(0, .ref (ad 30)), (1, .int a1), (2, .int a2)]) [0, 1, 2] rfl ?_
  unfold f_Routers_chosenPort
  refine jj_aload_n C 0 dX6_chosenPort_0 rfl rfl ?_
  refine jj_getr C 30 8 in_Routers (g_30 n S SD) k_Routers (by decide) fl_Routers_52 rfl dX6_chosenPort_1 ?_
  refine jj_iload_n C 1 dX6_chosenPort_4 rfl rfl ?_
  refine jj_iconst C (v := (5 : Int32)) dX6_chosenPort_5 (by decide) ?_
  refine jj_imul C dX6_chosenPort_6 ?_
  refine jj_iload_n C 2 dX6_chosenPort_7 rfl rfl ?_
  refine jj_iadd C dX6_chosenPort_8 ?_
  refine jj_iald C 37 (g_37 n S SD) dX6_chosenPort_9 ?_
  refine jj_ltn (fun v3_1 => ?_)
  refine jj_istore_n C [(3, .int v3_1), (0, .ref (ad 30)), (1, .int a1), (2, .int a2)] dX6_chosenPort_10 rfl (by decide) rfl ?_
  refine jj_iconst C (v := (0 : Int32)) dX6_chosenPort_11 (by decide) ?_
  refine jj_istore C [(4, .int (0 : Int32)), (3, .int v3_1), (0, .ref (ad 30)), (1, .int a1), (2, .int a2)] dX6_chosenPort_12 (by decide) rfl ?_
  refine jj_sub [2, 3, 4, 1, 0] rfl ?_
  refine l_Routers_chosenPort_14 C hr hlocks hRm (fun σ5 x1_6 x2_7 x3_8 x4_9 => ?_) F σ a1 a2 v3_1 (0 : Int32)
  refine jj_iconst C (v := (-1 : Int32)) dX6_chosenPort_74 (by decide) ?_
  exact jj_iret C hr hlocks dX6_chosenPort_75

set_option maxHeartbeats 4000000 in
set_option maxRecDepth 100000 in
theorem c_Routers_move {l : Launch} {D : va_G} {ad : Nat → Nat} {cA : FieldType → ClassId} {n S SD F : Nat} {σ : jj_S} {a1 a2 a3 : Int32} {z : jj_S} (ho : f_Routers_move n S SD F σ a1 a2 a3 = some z) : jj_Mv l yX6_move (Cond.code yX6_move cX6_move 8 none :: jw_t) { frames := 2, cells := 0, slots := 0, locals := 80 } D vwCl ad cA (gc n S SD) [.ref (ad 30), .int a1, .int a2, .int a3] σ z := by
  refine jj_ofv (cc := cX6_move) (nL := 8) (ret := none) rfl ho (Nat.le_of_ble_eq_true rfl) ?_
  intro p e s m below meth c C hr hlocks
  generalize hA : va_A (jj_w ad cA (gc n S SD) σ) s.heap.size = A at C ⊢
  have hRm : 2 ≤ (headSpec (Cond.code yX6_move cX6_move 8 none :: jw_t) { frames := 2, cells := 0, slots := 0, locals := 80 }).room.frames ∧ 80 ≤ (headSpec (Cond.code yX6_move cX6_move 8 none :: jw_t) { frames := 2, cells := 0, slots := 0, locals := 80 }).room.locals := ⟨Nat.le_refl _, Nat.le_refl _⟩
  generalize (headSpec (Cond.code yX6_move cX6_move 8 none :: jw_t) { frames := 2, cells := 0, slots := 0, locals := 80 }).room = R at C hRm ⊢
  generalize List.toArray ([.ref (ad 30), .int a1, .int a2, .int a3] : List Value) = args at C ⊢
  refine jj_sub (lv' := [(0, .ref (ad 30)), (1, .int a1), (2, .int a2), (3, .int a3)]) [0, 1, 2, 3] rfl ?_
  unfold f_Routers_move
  refine jj_aload_n C 0 dX6_move_0 rfl rfl ?_
  refine jj_getr C 30 9 in_Routers (g_30 n S SD) k_Routers (by decide) fl_Routers_9 rfl dX6_move_1 ?_
  refine jj_iload_n C 2 dX6_move_4 rfl rfl ?_
  refine jj_iald C 31 (g_31 n S SD) dX6_move_5 ?_
  refine jj_ltn (fun v4_1 => ?_)
  refine jj_istore C [(4, .int v4_1), (0, .ref (ad 30)), (1, .int a1), (2, .int a2), (3, .int a3)] dX6_move_6 (by decide) rfl ?_
  refine jj_aload_n C 1 dX6_move_8 rfl rfl ?_
  refine jj_getr C 30 0 in_Routers (g_30 n S SD) k_Routers (by decide) fl_Routers_15 rfl dX6_move_9 ?_
  refine jj_iload_n C 2 dX6_move_12 rfl rfl ?_
  refine jj_iload_n C 3 dX6_move_13 rfl rfl ?_
  refine jj_iload C 0 dX6_move_14 rfl ?_
  refine jj_callVi C (As := [.int a1, .int a2, .int v4_1]) (rest := []) (fun z hz => c_Grid_slot hz) (q_Routers_73 C.2.2.2.2.1 (rm := { frames := 0, cells := 0, slots := 0, locals := 0 }) rfl rfl ⟨Nat.le_trans (by decide) hRm.1, Nat.le_trans (by decide) hRm.2⟩) (g_1 n S SD) k_Grid rfl rfl (Nat.le_of_ble_eq_true rfl) dX6_move_16 (fun r3 σ2 _ => ?_)
  refine jj_istore C [(5, .int r3), (4, .int v4_1), (0, .ref (ad 30)), (1, .int a1), (2, .int a2), (3, .int a3)] dX6_move_19 (by decide) rfl ?_
  refine jj_aload_n C 2 dX6_move_21 rfl rfl ?_
  refine jj_getr C 30 0 in_Routers (g_30 n S SD) k_Routers (by decide) fl_Routers_15 rfl dX6_move_22 ?_
  refine jj_iload_n C 3 dX6_move_25 rfl rfl ?_
  refine jj_iload_n C 5 dX6_move_26 rfl rfl ?_
  refine jj_iload C 1 dX6_move_27 rfl ?_
  refine jj_callVi C (As := [.int a1, .int a3, .int v4_1]) (rest := []) (fun z hz => c_Grid_slot hz) (q_Routers_73 C.2.2.2.2.1 (rm := { frames := 0, cells := 0, slots := 0, locals := 0 }) rfl rfl ⟨Nat.le_trans (by decide) hRm.1, Nat.le_trans (by decide) hRm.2⟩) (g_1 n S SD) k_Grid rfl rfl (Nat.le_of_ble_eq_true rfl) dX6_move_29 (fun r5 σ4 _ => ?_)
  refine jj_istore C [(6, .int r5), (5, .int r3), (4, .int v4_1), (0, .ref (ad 30)), (1, .int a1), (2, .int a2), (3, .int a3)] dX6_move_32 (by decide) rfl ?_
  refine jj_aload_n C 3 dX6_move_34 rfl rfl ?_
  refine jj_getr C 30 1 in_Routers (g_30 n S SD) k_Routers (by decide) fl_Routers_19 rfl dX6_move_35 ?_
  refine jj_iload C 1 dX6_move_38 rfl ?_
  refine jj_callVi C (As := [.int r3]) (rest := []) (fun z hz => c_Links_takeOut hz) (q_Routers_85 C.2.2.2.2.1 (rm := { frames := 1, cells := 0, slots := 0, locals := 40 }) rfl rfl ⟨Nat.le_trans (by decide) hRm.1, Nat.le_trans (by decide) hRm.2⟩) (g_2 n S SD) k_Links rfl rfl (Nat.le_of_ble_eq_true rfl) dX6_move_40 (fun r7 σ6 _ => ?_)
  refine jj_istore C [(7, .int r7), (6, .int r5), (5, .int r3), (4, .int v4_1), (0, .ref (ad 30)), (1, .int a1), (2, .int a2), (3, .int a3)] dX6_move_43 (by decide) rfl ?_
  refine jj_aload_n C 4 dX6_move_45 rfl rfl ?_
  refine jj_getr C 30 1 in_Routers (g_30 n S SD) k_Routers (by decide) fl_Routers_19 rfl dX6_move_46 ?_
  refine jj_iload C 1 dX6_move_49 rfl ?_
  refine jj_iload C 0 dX6_move_51 rfl ?_
  refine jj_callVv C (As := [.int r5, .int r7]) (rest := []) (fun z hz => c_Links_send hz) (q_Routers_89 C.2.2.2.2.1 (rm := { frames := 0, cells := 0, slots := 0, locals := 0 }) rfl rfl ⟨Nat.le_trans (by decide) hRm.1, Nat.le_trans (by decide) hRm.2⟩) (g_2 n S SD) k_Links rfl rfl (Nat.le_of_ble_eq_true rfl) dX6_move_53 (fun σ8 _ => ?_)
  refine jj_aload_n C 4 dX6_move_56 rfl rfl ?_
  refine jj_getr C 30 8 in_Routers (g_30 n S SD) k_Routers (by decide) fl_Routers_52 rfl dX6_move_57 ?_
  refine jj_iload_n C 5 dX6_move_60 rfl rfl ?_
  refine jj_iconst C (v := (5 : Int32)) dX6_move_61 (by decide) ?_
  refine jj_imul C dX6_move_62 ?_
  refine jj_iload_n C 7 dX6_move_63 rfl rfl ?_
  refine jj_iadd C dX6_move_64 ?_
  refine jj_iload_n C 6 dX6_move_65 rfl rfl ?_
  refine jj_iconst C (v := (1 : Int32)) dX6_move_66 (by decide) ?_
  refine jj_iadd C dX6_move_67 ?_
  refine jj_iconst C (v := (5 : Int32)) dX6_move_68 (by decide) ?_
  refine jj_irem C dX6_move_69 ?_
  refine jj_iast C 37 (g_37 n S SD) dX6_move_70 ?_
  refine jj_stn (fun σ9 => ?_)
  refine jj_aload_n C 4 dX6_move_71 rfl rfl ?_
  refine jj_getr C 30 7 in_Routers (g_30 n S SD) k_Routers (by decide) fl_Routers_49 rfl dX6_move_72 ?_
  refine jj_iload_n C 5 dX6_move_75 rfl rfl ?_
  refine jj_iconst C (v := (5 : Int32)) dX6_move_76 (by decide) ?_
  refine jj_imul C dX6_move_77 ?_
  refine jj_iload_n C 6 dX6_move_78 rfl rfl ?_
  refine jj_iadd C dX6_move_79 ?_
  refine jj_iload C 3 dX6_move_80 rfl ?_
  refine jj_iconst C (v := (1 : Int32)) dX6_move_82 (by decide) ?_
  refine jj_iadd C dX6_move_83 ?_
  refine jj_aload_n C 4 dX6_move_84 rfl rfl ?_
  refine jj_getr C 30 0 in_Routers (g_30 n S SD) k_Routers (by decide) fl_Routers_15 rfl dX6_move_85 ?_
  refine jj_geti C 1 4 in_Grid (g_1 n S SD) k_Grid (by decide) fl_Routers_66 rfl dX6_move_88 ?_
  refine jj_irem C dX6_move_91 ?_
  refine jj_iast C 36 (g_36 n S SD) dX6_move_92 ?_
  refine jj_stn (fun σ10 => ?_)
  refine jj_iload C 0 dX6_move_93 rfl ?_
  refine jj_callSi C (As := [.int r7]) (rest := []) (fun z hz => c_Packets_isLast hz) (q_Routers_93 C.2.2.2.2.1 (rm := { frames := 0, cells := 0, slots := 0, locals := 0 }) rfl rfl ⟨Nat.le_trans (by decide) hRm.1, Nat.le_trans (by decide) hRm.2⟩) rfl rfl (Nat.le_of_ble_eq_true rfl) dX6_move_95 (fun r12 σ11 _ => ?_)
  refine jj_if_eq C (tgt := 117) dX6_move_98 (by decide) (fun _ => ?_) (fun _ => ?_)
  · exact jj_vret C hr hlocks dX6_move_117
  · refine jj_aload_n C 4 dX6_move_101 rfl rfl ?_
    refine jj_getr C 30 5 in_Routers (g_30 n S SD) k_Routers (by decide) fl_Routers_39 rfl dX6_move_102 ?_
    refine jj_iload C 1 dX6_move_105 rfl ?_
    refine jj_iconst C (v := (0 : Int32)) dX6_move_107 (by decide) ?_
    refine jj_zast C 34 (g_34 n S SD) dX6_move_108 ?_
    refine jj_stn (fun σ13 => ?_)
    refine jj_aload_n C 4 dX6_move_109 rfl rfl ?_
    refine jj_getr C 30 3 in_Routers (g_30 n S SD) k_Routers (by decide) fl_Routers_33 rfl dX6_move_110 ?_
    refine jj_iload C 2 dX6_move_113 rfl ?_
    refine jj_iconst C (v := (0 : Int32)) dX6_move_115 (by decide) ?_
    refine jj_iast C 32 (g_32 n S SD) dX6_move_116 ?_
    refine jj_stn (fun σ14 => ?_)
    exact jj_vret C hr hlocks dX6_move_117

set_option maxHeartbeats 4000000 in
set_option maxRecDepth 100000 in
theorem l_Routers_moveAll_15 {p : Program} {l : Launch} {e : Env} {R : Room} {s : State} {m : MethodId} {args : Array Value} {below : List Frame} {meth : Method} {c : Code} {D : va_G} {A : Nat → Prop} {ad : Nat → Nat} {cA : FieldType → ClassId} {n S SD F : Nat} (C : jj_C p R s m args c D vwCl A ad cA (gc n S SD) 4 0 0 cX6_moveAll RX6 jw_t) (hr : meth.sig.returnType = none) (hlocks : meth.locks = false) (hRm : 3 ≤ R.frames ∧ 120 ≤ R.locals) {K : jj_S → Int32 → Int32 → Option jj_S} (hK : ∀ (σ : jj_S) (x1 x2 : Int32), jj_J p l e R s m args below meth c D vwCl A ad cA (gc n S SD) 4 0 0 (jj_Qv below D vwCl A ad cA (gc n S SD) args s 0 0) (K σ x1 x2) σ 38 [(0, .ref (ad 30)), (1, .int x1), (2, .int x2)] []) : ∀ (k : Nat) (σ : jj_S) (x1 x2 : Int32), jj_J p l e R s m args below meth c D vwCl A ad cA (gc n S SD) 4 0 0 (jj_Qv below D vwCl A ad cA (gc n S SD) args s 0 0) (jj_lp2 (b_Routers_moveAll_15 n S SD F K) k σ x1 x2) σ 15 [(0, .ref (ad 30)), (1, .int x1), (2, .int x2)] [] := by
  refine jj_loop2 (T := fun o σ x1 x2 => jj_J p l e R s m args below meth c D vwCl A ad cA (gc n S SD) 4 0 0 (jj_Qv below D vwCl A ad cA (gc n S SD) args s 0 0) o σ 15 [(0, .ref (ad 30)), (1, .int x1), (2, .int x2)] []) (fun _ _ _ _ h => by cases h) ?_
  intro rec ih σ x1 x2
  unfold b_Routers_moveAll_15
  refine jj_iload_n C 2 dX6_moveAll_15 rfl rfl ?_
  refine jj_iconst C (v := (5 : Int32)) dX6_moveAll_16 (by decide) ?_
  refine jj_icmp_ge C (tgt := 38) dX6_moveAll_17 (by decide) (fun _ => ?_) (fun _ => ?_)
  · refine jj_sub [0, 1, 2] rfl ?_
    exact hK σ x1 x2
  · refine jj_aload_n C 0 dX6_moveAll_20 rfl rfl ?_
    refine jj_getr C 30 9 in_Routers (g_30 n S SD) k_Routers (by decide) fl_Routers_9 rfl dX6_moveAll_21 ?_
    refine jj_iload_n C 2 dX6_moveAll_24 rfl rfl ?_
    refine jj_aload_n C 0 dX6_moveAll_25 rfl rfl ?_
    refine jj_iload_n C 1 dX6_moveAll_26 rfl rfl ?_
    refine jj_iload_n C 2 dX6_moveAll_27 rfl rfl ?_
    refine jj_callVi C (As := [.int x1, .int x2]) (rest := [.int x2, .ref (ad 31)]) (fun z hz => c_Routers_readyChannel hz) (q_Routers_55 C.2.2.2.2.1 (rm := { frames := 2, cells := 0, slots := 0, locals := 80 }) rfl rfl ⟨Nat.le_trans (by decide) hRm.1, Nat.le_trans (by decide) hRm.2⟩) (g_30 n S SD) k_Routers rfl rfl (Nat.le_of_ble_eq_true rfl) dX6_moveAll_28 (fun r2 σ1 _ => ?_)
    refine jj_iast C 31 (g_31 n S SD) dX6_moveAll_31 ?_
    refine jj_stn (fun σ3 => ?_)
    refine jj_iinc C (v := x2 + (1 : Int32)) [(2, .int (x2 + (1 : Int32))), (0, .ref (ad 30)), (1, .int x1)] 2 dX6_moveAll_32 rfl rfl (by decide) rfl ?_
    refine jj_goto C (tgt := 15) dX6_moveAll_35 (by decide) ?_
    refine jj_sub [1, 2, 0] rfl ?_
    exact ih σ3 x1 (x2 + (1 : Int32))

set_option maxHeartbeats 4000000 in
set_option maxRecDepth 100000 in
theorem l_Routers_moveAll_40 {p : Program} {l : Launch} {e : Env} {R : Room} {s : State} {m : MethodId} {args : Array Value} {below : List Frame} {meth : Method} {c : Code} {D : va_G} {A : Nat → Prop} {ad : Nat → Nat} {cA : FieldType → ClassId} {n S SD F : Nat} (C : jj_C p R s m args c D vwCl A ad cA (gc n S SD) 4 0 0 cX6_moveAll RX6 jw_t) (hr : meth.sig.returnType = none) (hlocks : meth.locks = false) (hRm : 3 ≤ R.frames ∧ 120 ≤ R.locals) {K : jj_S → Int32 → Int32 → Option jj_S} (hK : ∀ (σ : jj_S) (x1 x2 : Int32), jj_J p l e R s m args below meth c D vwCl A ad cA (gc n S SD) 4 0 0 (jj_Qv below D vwCl A ad cA (gc n S SD) args s 0 0) (K σ x1 x2) σ 70 [(0, .ref (ad 30)), (1, .int x1), (2, .int x2)] []) : ∀ (k : Nat) (σ : jj_S) (x1 x2 : Int32), jj_J p l e R s m args below meth c D vwCl A ad cA (gc n S SD) 4 0 0 (jj_Qv below D vwCl A ad cA (gc n S SD) args s 0 0) (jj_lp2 (b_Routers_moveAll_40 n S SD F K) k σ x1 x2) σ 40 [(0, .ref (ad 30)), (1, .int x1), (2, .int x2)] [] := by
  refine jj_loop2 (T := fun o σ x1 x2 => jj_J p l e R s m args below meth c D vwCl A ad cA (gc n S SD) 4 0 0 (jj_Qv below D vwCl A ad cA (gc n S SD) args s 0 0) o σ 40 [(0, .ref (ad 30)), (1, .int x1), (2, .int x2)] []) (fun _ _ _ _ h => by cases h) ?_
  intro rec ih σ x1 x2
  unfold b_Routers_moveAll_40
  refine jj_iload_n C 2 dX6_moveAll_40 rfl rfl ?_
  refine jj_iconst C (v := (5 : Int32)) dX6_moveAll_41 (by decide) ?_
  refine jj_icmp_ge C (tgt := 70) dX6_moveAll_42 (by decide) (fun _ => ?_) (fun _ => ?_)
  · refine jj_sub [0, 1, 2] rfl ?_
    exact hK σ x1 x2
  · refine jj_aload_n C 0 dX6_moveAll_45 rfl rfl ?_
    refine jj_iload_n C 1 dX6_moveAll_46 rfl rfl ?_
    refine jj_iload_n C 2 dX6_moveAll_47 rfl rfl ?_
    refine jj_callVi C (As := [.int x1, .int x2]) (rest := []) (fun z hz => c_Routers_chosenPort hz) (q_Routers_59 C.2.2.2.2.1 (rm := { frames := 1, cells := 0, slots := 0, locals := 40 }) rfl rfl ⟨Nat.le_trans (by decide) hRm.1, Nat.le_trans (by decide) hRm.2⟩) (g_30 n S SD) k_Routers rfl rfl (Nat.le_of_ble_eq_true rfl) dX6_moveAll_48 (fun r8 σ7 _ => ?_)
    refine jj_istore_n C [(3, .int r8), (0, .ref (ad 30)), (1, .int x1), (2, .int x2)] dX6_moveAll_51 rfl (by decide) rfl ?_
    refine jj_iload_n C 0 dX6_moveAll_52 rfl rfl ?_
    refine jj_iconst C (v := (-1 : Int32)) dX6_moveAll_53 (by decide) ?_
    refine jj_icmp_eq C (tgt := 64) dX6_moveAll_54 (by decide) (fun _ => ?_) (fun _ => ?_)
    · refine jj_iinc C (v := x2 + (1 : Int32)) [(2, .int (x2 + (1 : Int32))), (3, .int r8), (0, .ref (ad 30)), (1, .int x1)] 3 dX6_moveAll_64 rfl rfl (by decide) rfl ?_
      refine jj_goto C (tgt := 40) dX6_moveAll_67 (by decide) ?_
      refine jj_sub [2, 3, 0] rfl ?_
      exact ih σ7 x1 (x2 + (1 : Int32))
    · refine jj_aload_n C 1 dX6_moveAll_57 rfl rfl ?_
      refine jj_iload_n C 2 dX6_moveAll_58 rfl rfl ?_
      refine jj_iload_n C 0 dX6_moveAll_59 rfl rfl ?_
      refine jj_iload_n C 3 dX6_moveAll_60 rfl rfl ?_
      refine jj_callVv C (As := [.int x1, .int r8, .int x2]) (rest := []) (fun z hz => c_Routers_move hz) (q_Routers_62 C.2.2.2.2.1 (rm := { frames := 2, cells := 0, slots := 0, locals := 80 }) rfl rfl ⟨Nat.le_trans (by decide) hRm.1, Nat.le_trans (by decide) hRm.2⟩) (g_30 n S SD) k_Routers rfl rfl (Nat.le_of_ble_eq_true rfl) dX6_moveAll_61 (fun σ9 _ => ?_)
      refine jj_iinc C (v := x2 + (1 : Int32)) [(2, .int (x2 + (1 : Int32))), (3, .int r8), (0, .ref (ad 30)), (1, .int x1)] 3 dX6_moveAll_64 rfl rfl (by decide) rfl ?_
      refine jj_goto C (tgt := 40) dX6_moveAll_67 (by decide) ?_
      refine jj_sub [2, 3, 0] rfl ?_
      exact ih σ9 x1 (x2 + (1 : Int32))

set_option maxHeartbeats 4000000 in
set_option maxRecDepth 100000 in
theorem l_Routers_moveAll_2 {p : Program} {l : Launch} {e : Env} {R : Room} {s : State} {m : MethodId} {args : Array Value} {below : List Frame} {meth : Method} {c : Code} {D : va_G} {A : Nat → Prop} {ad : Nat → Nat} {cA : FieldType → ClassId} {n S SD F : Nat} (C : jj_C p R s m args c D vwCl A ad cA (gc n S SD) 4 0 0 cX6_moveAll RX6 jw_t) (hr : meth.sig.returnType = none) (hlocks : meth.locks = false) (hRm : 3 ≤ R.frames ∧ 120 ≤ R.locals) {K : jj_S → Int32 → Option jj_S} (hK : ∀ (σ : jj_S) (x1 : Int32), jj_J p l e R s m args below meth c D vwCl A ad cA (gc n S SD) 4 0 0 (jj_Qv below D vwCl A ad cA (gc n S SD) args s 0 0) (K σ x1) σ 76 [(0, .ref (ad 30)), (1, .int x1)] []) : ∀ (k : Nat) (σ : jj_S) (x1 : Int32), jj_J p l e R s m args below meth c D vwCl A ad cA (gc n S SD) 4 0 0 (jj_Qv below D vwCl A ad cA (gc n S SD) args s 0 0) (jj_lp1 (b_Routers_moveAll_2 n S SD F K) k σ x1) σ 2 [(0, .ref (ad 30)), (1, .int x1)] [] := by
  refine jj_loop1 (T := fun o σ x1 => jj_J p l e R s m args below meth c D vwCl A ad cA (gc n S SD) 4 0 0 (jj_Qv below D vwCl A ad cA (gc n S SD) args s 0 0) o σ 2 [(0, .ref (ad 30)), (1, .int x1)] []) (fun _ _ _ h => by cases h) ?_
  intro rec ih σ x1
  unfold b_Routers_moveAll_2
  refine jj_iload_n C 1 dX6_moveAll_2 rfl rfl ?_
  refine jj_aload_n C 0 dX6_moveAll_3 rfl rfl ?_
  refine jj_getr C 30 0 in_Routers (g_30 n S SD) k_Routers (by decide) fl_Routers_15 rfl dX6_moveAll_4 ?_
  refine jj_geti C 1 5 in_Grid (g_1 n S SD) k_Grid (by decide) fl_Routers_46 rfl dX6_moveAll_7 ?_
  refine jj_icmp_ge C (tgt := 76) dX6_moveAll_10 (by decide) (fun _ => ?_) (fun _ => ?_)
  · refine jj_sub [0, 1] rfl ?_
    exact hK σ x1
  · refine jj_iconst C (v := (0 : Int32)) dX6_moveAll_13 (by decide) ?_
    refine jj_istore_n C [(2, .int (0 : Int32)), (0, .ref (ad 30)), (1, .int x1)] dX6_moveAll_14 rfl (by decide) rfl ?_
    refine jj_sub [1, 2, 0] rfl ?_
    refine l_Routers_moveAll_15 C hr hlocks hRm (fun σ4 x1_5 x2_6 => ?_) F σ x1 (0 : Int32)
    refine jj_iconst C (v := (0 : Int32)) dX6_moveAll_38 (by decide) ?_
    refine jj_istore_n C [(2, .int (0 : Int32)), (0, .ref (ad 30)), (1, .int x1_5)] dX6_moveAll_39 rfl (by decide) rfl ?_
    refine jj_sub [1, 2, 0] rfl ?_
    refine l_Routers_moveAll_40 C hr hlocks hRm (fun σ10 x1_11 x2_12 => ?_) F σ4 x1_5 (0 : Int32)
    refine jj_iinc C (v := x1_11 + (1 : Int32)) [(1, .int (x1_11 + (1 : Int32))), (0, .ref (ad 30)), (2, .int x2_12)] 1 dX6_moveAll_70 rfl rfl (by decide) rfl ?_
    refine jj_goto C (tgt := 2) dX6_moveAll_73 (by decide) ?_
    refine jj_sub [1, 0] rfl ?_
    exact ih σ10 (x1_11 + (1 : Int32))

set_option maxHeartbeats 4000000 in
set_option maxRecDepth 100000 in
theorem c_Routers_moveAll {l : Launch} {D : va_G} {ad : Nat → Nat} {cA : FieldType → ClassId} {n S SD F : Nat} {σ : jj_S} {z : jj_S} (ho : f_Routers_moveAll n S SD F σ = some z) : jj_Mv l yX6_moveAll (Cond.code yX6_moveAll cX6_moveAll 4 none :: jw_t) { frames := 3, cells := 0, slots := 0, locals := 120 } D vwCl ad cA (gc n S SD) [.ref (ad 30)] σ z := by
  refine jj_ofv (cc := cX6_moveAll) (nL := 4) (ret := none) rfl ho (Nat.le_of_ble_eq_true rfl) ?_
  intro p e s m below meth c C hr hlocks
  generalize hA : va_A (jj_w ad cA (gc n S SD) σ) s.heap.size = A at C ⊢
  have hRm : 3 ≤ (headSpec (Cond.code yX6_moveAll cX6_moveAll 4 none :: jw_t) { frames := 3, cells := 0, slots := 0, locals := 120 }).room.frames ∧ 120 ≤ (headSpec (Cond.code yX6_moveAll cX6_moveAll 4 none :: jw_t) { frames := 3, cells := 0, slots := 0, locals := 120 }).room.locals := ⟨Nat.le_refl _, Nat.le_refl _⟩
  generalize (headSpec (Cond.code yX6_moveAll cX6_moveAll 4 none :: jw_t) { frames := 3, cells := 0, slots := 0, locals := 120 }).room = R at C hRm ⊢
  generalize List.toArray ([.ref (ad 30)] : List Value) = args at C ⊢
  refine jj_sub (lv' := [(0, .ref (ad 30))]) [0] rfl ?_
  unfold f_Routers_moveAll
  refine jj_iconst C (v := (0 : Int32)) dX6_moveAll_0 (by decide) ?_
  refine jj_istore_n C [(1, .int (0 : Int32)), (0, .ref (ad 30))] dX6_moveAll_1 rfl (by decide) rfl ?_
  refine jj_sub [1, 0] rfl ?_
  refine l_Routers_moveAll_2 C hr hlocks hRm (fun σ13 x1_14 => ?_) F σ (0 : Int32)
  exact jj_vret C hr hlocks dX6_moveAll_76

set_option maxHeartbeats 4000000 in
set_option maxRecDepth 100000 in
theorem l_Routers_grantIfFree_35 {p : Program} {l : Launch} {e : Env} {R : Room} {s : State} {m : MethodId} {args : Array Value} {below : List Frame} {meth : Method} {c : Code} {D : va_G} {A : Nat → Prop} {ad : Nat → Nat} {cA : FieldType → ClassId} {n S SD F : Nat} (C : jj_C p R s m args c D vwCl A ad cA (gc n S SD) 9 0 0 cX6_grantIfFree RX6 jw_t) (hr : meth.sig.returnType = none) (hlocks : meth.locks = false) (hRm : 1 ≤ R.frames ∧ 40 ≤ R.locals) {K : jj_S → Int32 → Int32 → Int32 → Int32 → Int32 → Int32 → Option jj_S} (hK : ∀ (σ : jj_S) (x1 x2 x3 x4 x5 x6 : Int32), jj_J p l e R s m args below meth c D vwCl A ad cA (gc n S SD) 9 0 0 (jj_Qv below D vwCl A ad cA (gc n S SD) args s 0 0) (K σ x1 x2 x3 x4 x5 x6) σ 121 [(0, .ref (ad 30)), (1, .int x1), (2, .int x2), (3, .int x3), (4, .int x4), (5, .int x5), (6, .int x6)] []) : ∀ (k : Nat) (σ : jj_S) (x1 x2 x3 x4 x5 x6 : Int32), jj_J p l e R s m args below meth c D vwCl A ad cA (gc n S SD) 9 0 0 (jj_Qv below D vwCl A ad cA (gc n S SD) args s 0 0) (jj_lp6 (b_Routers_grantIfFree_35 n S SD F K) k σ x1 x2 x3 x4 x5 x6) σ 35 [(0, .ref (ad 30)), (1, .int x1), (2, .int x2), (3, .int x3), (4, .int x4), (5, .int x5), (6, .int x6)] [] := by
  refine jj_loop6 (T := fun o σ x1 x2 x3 x4 x5 x6 => jj_J p l e R s m args below meth c D vwCl A ad cA (gc n S SD) 9 0 0 (jj_Qv below D vwCl A ad cA (gc n S SD) args s 0 0) o σ 35 [(0, .ref (ad 30)), (1, .int x1), (2, .int x2), (3, .int x3), (4, .int x4), (5, .int x5), (6, .int x6)] []) (fun _ _ _ _ _ _ _ _ h => by cases h) ?_
  intro rec ih σ x1 x2 x3 x4 x5 x6
  unfold b_Routers_grantIfFree_35
  refine jj_iload C 6 dX6_grantIfFree_35 rfl ?_
  refine jj_iconst C (v := (5 : Int32)) dX6_grantIfFree_37 (by decide) ?_
  refine jj_icmp_ge C (tgt := 121) dX6_grantIfFree_38 (by decide) (fun _ => ?_) (fun _ => ?_)
  · refine jj_sub [0, 1, 2, 3, 4, 5, 6] rfl ?_
    exact hK σ x1 x2 x3 x4 x5 x6
  · refine jj_iload C 5 dX6_grantIfFree_41 rfl ?_
    refine jj_iload C 6 dX6_grantIfFree_43 rfl ?_
    refine jj_iadd C dX6_grantIfFree_45 ?_
    refine jj_iconst C (v := (5 : Int32)) dX6_grantIfFree_46 (by decide) ?_
    refine jj_irem C dX6_grantIfFree_47 ?_
    refine jj_ltn (fun v7_4 => ?_)
    refine jj_istore C [(7, .int v7_4), (0, .ref (ad 30)), (1, .int x1), (2, .int x2), (3, .int x3), (4, .int x4), (5, .int x5), (6, .int x6)] dX6_grantIfFree_48 (by decide) rfl ?_
    refine jj_aload_n C 1 dX6_grantIfFree_50 rfl rfl ?_
    refine jj_getr C 30 0 in_Routers (g_30 n S SD) k_Routers (by decide) fl_Routers_15 rfl dX6_grantIfFree_51 ?_
    refine jj_iload_n C 2 dX6_grantIfFree_54 rfl rfl ?_
    refine jj_iload C 0 dX6_grantIfFree_55 rfl ?_
    refine jj_iload_n C 4 dX6_grantIfFree_57 rfl rfl ?_
    refine jj_callVi C (As := [.int x1, .int v7_4, .int x3]) (rest := []) (fun z hz => c_Grid_slot hz) (q_Routers_73 C.2.2.2.2.1 (rm := { frames := 0, cells := 0, slots := 0, locals := 0 }) rfl rfl ⟨Nat.le_trans (by decide) hRm.1, Nat.le_trans (by decide) hRm.2⟩) (g_1 n S SD) k_Grid rfl rfl (Nat.le_of_ble_eq_true rfl) dX6_grantIfFree_58 (fun r6 σ5 _ => ?_)
    refine jj_istore C [(8, .int r6), (7, .int v7_4), (0, .ref (ad 30)), (1, .int x1), (2, .int x2), (3, .int x3), (4, .int x4), (5, .int x5), (6, .int x6)] dX6_grantIfFree_61 (by decide) rfl ?_
    refine jj_aload_n C 2 dX6_grantIfFree_63 rfl rfl ?_
    refine jj_getr C 30 3 in_Routers (g_30 n S SD) k_Routers (by decide) fl_Routers_33 rfl dX6_grantIfFree_64 ?_
    refine jj_iload C 0 dX6_grantIfFree_67 rfl ?_
    refine jj_iald C 32 (g_32 n S SD) dX6_grantIfFree_69 ?_
    refine jj_iconst C (v := (1 : Int32)) dX6_grantIfFree_70 (by decide) ?_
    refine jj_icmp_ne C (tgt := 115) dX6_grantIfFree_71 (by decide) (fun _ => ?_) (fun _ => ?_)
    · refine jj_iinc C (v := x6 + (1 : Int32)) [(6, .int (x6 + (1 : Int32))), (8, .int r6), (7, .int v7_4), (0, .ref (ad 30)), (1, .int x1), (2, .int x2), (3, .int x3), (4, .int x4), (5, .int x5)] 8 dX6_grantIfFree_115 rfl rfl (by decide) rfl ?_
      refine jj_goto C (tgt := 35) dX6_grantIfFree_118 (by decide) ?_
      refine jj_sub [3, 4, 5, 6, 7, 8, 0] rfl ?_
      exact ih σ5 x1 x2 x3 x4 x5 (x6 + (1 : Int32))
    · refine jj_aload_n C 2 dX6_grantIfFree_74 rfl rfl ?_
      refine jj_getr C 30 4 in_Routers (g_30 n S SD) k_Routers (by decide) fl_Routers_36 rfl dX6_grantIfFree_75 ?_
      refine jj_iload C 0 dX6_grantIfFree_78 rfl ?_
      refine jj_iald C 33 (g_33 n S SD) dX6_grantIfFree_80 ?_
      refine jj_iload_n C 4 dX6_grantIfFree_81 rfl rfl ?_
      refine jj_icmp_ne C (tgt := 115) dX6_grantIfFree_82 (by decide) (fun _ => ?_) (fun _ => ?_)
      · refine jj_iinc C (v := x6 + (1 : Int32)) [(6, .int (x6 + (1 : Int32))), (8, .int r6), (7, .int v7_4), (0, .ref (ad 30)), (1, .int x1), (2, .int x2), (3, .int x3), (4, .int x4), (5, .int x5)] 8 dX6_grantIfFree_115 rfl rfl (by decide) rfl ?_
        refine jj_goto C (tgt := 35) dX6_grantIfFree_118 (by decide) ?_
        refine jj_sub [3, 4, 5, 6, 7, 8, 0] rfl ?_
        exact ih σ5 x1 x2 x3 x4 x5 (x6 + (1 : Int32))
      · refine jj_aload_n C 2 dX6_grantIfFree_85 rfl rfl ?_
        refine jj_getr C 30 5 in_Routers (g_30 n S SD) k_Routers (by decide) fl_Routers_39 rfl dX6_grantIfFree_86 ?_
        refine jj_iload C 6 dX6_grantIfFree_89 rfl ?_
        refine jj_iconst C (v := (1 : Int32)) dX6_grantIfFree_91 (by decide) ?_
        refine jj_zast C 34 (g_34 n S SD) dX6_grantIfFree_92 ?_
        refine jj_stn (fun σ7 => ?_)
        refine jj_aload_n C 2 dX6_grantIfFree_93 rfl rfl ?_
        refine jj_getr C 30 3 in_Routers (g_30 n S SD) k_Routers (by decide) fl_Routers_33 rfl dX6_grantIfFree_94 ?_
        refine jj_iload C 0 dX6_grantIfFree_97 rfl ?_
        refine jj_iconst C (v := (2 : Int32)) dX6_grantIfFree_99 (by decide) ?_
        refine jj_iast C 32 (g_32 n S SD) dX6_grantIfFree_100 ?_
        refine jj_stn (fun σ8 => ?_)
        refine jj_aload_n C 2 dX6_grantIfFree_101 rfl rfl ?_
        refine jj_getr C 30 6 in_Routers (g_30 n S SD) k_Routers (by decide) fl_Routers_43 rfl dX6_grantIfFree_102 ?_
        refine jj_iload C 6 dX6_grantIfFree_105 rfl ?_
        refine jj_iload C 1 dX6_grantIfFree_107 rfl ?_
        refine jj_iconst C (v := (1 : Int32)) dX6_grantIfFree_109 (by decide) ?_
        refine jj_iadd C dX6_grantIfFree_110 ?_
        refine jj_iconst C (v := (5 : Int32)) dX6_grantIfFree_111 (by decide) ?_
        refine jj_irem C dX6_grantIfFree_112 ?_
        refine jj_iast C 35 (g_35 n S SD) dX6_grantIfFree_113 ?_
        refine jj_stn (fun σ9 => ?_)
        exact jj_vret C hr hlocks dX6_grantIfFree_114

set_option maxHeartbeats 4000000 in
set_option maxRecDepth 100000 in
theorem c_Routers_grantIfFree {l : Launch} {D : va_G} {ad : Nat → Nat} {cA : FieldType → ClassId} {n S SD F : Nat} {σ : jj_S} {a1 a2 a3 : Int32} {z : jj_S} (ho : f_Routers_grantIfFree n S SD F σ a1 a2 a3 = some z) : jj_Mv l yX6_grantIfFree (Cond.code yX6_grantIfFree cX6_grantIfFree 9 none :: jw_t) { frames := 1, cells := 0, slots := 0, locals := 40 } D vwCl ad cA (gc n S SD) [.ref (ad 30), .int a1, .int a2, .int a3] σ z := by
  refine jj_ofv (cc := cX6_grantIfFree) (nL := 9) (ret := none) rfl ho (Nat.le_of_ble_eq_true rfl) ?_
  intro p e s m below meth c C hr hlocks
  generalize hA : va_A (jj_w ad cA (gc n S SD) σ) s.heap.size = A at C ⊢
  have hRm : 1 ≤ (headSpec (Cond.code yX6_grantIfFree cX6_grantIfFree 9 none :: jw_t) { frames := 1, cells := 0, slots := 0, locals := 40 }).room.frames ∧ 40 ≤ (headSpec (Cond.code yX6_grantIfFree cX6_grantIfFree 9 none :: jw_t) { frames := 1, cells := 0, slots := 0, locals := 40 }).room.locals := ⟨Nat.le_refl _, Nat.le_refl _⟩
  generalize (headSpec (Cond.code yX6_grantIfFree cX6_grantIfFree 9 none :: jw_t) { frames := 1, cells := 0, slots := 0, locals := 40 }).room = R at C hRm ⊢
  generalize List.toArray ([.ref (ad 30), .int a1, .int a2, .int a3] : List Value) = args at C ⊢
  refine jj_sub (lv' := [(0, .ref (ad 30)), (1, .int a1), (2, .int a2), (3, .int a3)]) [0, 1, 2, 3] rfl ?_
  unfold f_Routers_grantIfFree
  refine jj_aload_n C 0 dX6_grantIfFree_0 rfl rfl ?_
  refine jj_getr C 30 0 in_Routers (g_30 n S SD) k_Routers (by decide) fl_Routers_15 rfl dX6_grantIfFree_1 ?_
  refine jj_iload_n C 1 dX6_grantIfFree_4 rfl rfl ?_
  refine jj_iload_n C 2 dX6_grantIfFree_5 rfl rfl ?_
  refine jj_iload_n C 3 dX6_grantIfFree_6 rfl rfl ?_
  refine jj_callVi C (As := [.int a1, .int a2, .int a3]) (rest := []) (fun z hz => c_Grid_slot hz) (q_Routers_73 C.2.2.2.2.1 (rm := { frames := 0, cells := 0, slots := 0, locals := 0 }) rfl rfl ⟨Nat.le_trans (by decide) hRm.1, Nat.le_trans (by decide) hRm.2⟩) (g_1 n S SD) k_Grid rfl rfl (Nat.le_of_ble_eq_true rfl) dX6_grantIfFree_7 (fun r2 σ1 _ => ?_)
  refine jj_istore C [(4, .int r2), (0, .ref (ad 30)), (1, .int a1), (2, .int a2), (3, .int a3)] dX6_grantIfFree_10 (by decide) rfl ?_
  refine jj_aload_n C 1 dX6_grantIfFree_12 rfl rfl ?_
  refine jj_getr C 30 5 in_Routers (g_30 n S SD) k_Routers (by decide) fl_Routers_39 rfl dX6_grantIfFree_13 ?_
  refine jj_iload C 0 dX6_grantIfFree_16 rfl ?_
  refine jj_zald C 34 (g_34 n S SD) dX6_grantIfFree_18 ?_
  refine jj_if_eq C (tgt := 23) dX6_grantIfFree_19 (by decide) (fun _ => ?_) (fun _ => ?_)
  · refine jj_aload_n C 1 dX6_grantIfFree_23 rfl rfl ?_
    refine jj_getr C 30 6 in_Routers (g_30 n S SD) k_Routers (by decide) fl_Routers_43 rfl dX6_grantIfFree_24 ?_
    refine jj_iload C 0 dX6_grantIfFree_27 rfl ?_
    refine jj_iald C 35 (g_35 n S SD) dX6_grantIfFree_29 ?_
    refine jj_ltn (fun v5_3 => ?_)
    refine jj_istore C [(5, .int v5_3), (4, .int r2), (0, .ref (ad 30)), (1, .int a1), (2, .int a2), (3, .int a3)] dX6_grantIfFree_30 (by decide) rfl ?_
    refine jj_iconst C (v := (0 : Int32)) dX6_grantIfFree_32 (by decide) ?_
    refine jj_istore C [(6, .int (0 : Int32)), (5, .int v5_3), (4, .int r2), (0, .ref (ad 30)), (1, .int a1), (2, .int a2), (3, .int a3)] dX6_grantIfFree_33 (by decide) rfl ?_
    refine jj_sub [3, 4, 5, 6, 2, 1, 0] rfl ?_
    refine l_Routers_grantIfFree_35 C hr hlocks hRm (fun σ10 x1_11 x2_12 x3_13 x4_14 x5_15 x6_16 => ?_) F σ1 a1 a2 a3 r2 v5_3 (0 : Int32)
    exact jj_vret C hr hlocks dX6_grantIfFree_121
  · exact jj_vret C hr hlocks dX6_grantIfFree_22

set_option maxHeartbeats 4000000 in
set_option maxRecDepth 100000 in
theorem l_Routers_grantAll_22 {p : Program} {l : Launch} {e : Env} {R : Room} {s : State} {m : MethodId} {args : Array Value} {below : List Frame} {meth : Method} {c : Code} {D : va_G} {A : Nat → Prop} {ad : Nat → Nat} {cA : FieldType → ClassId} {n S SD F : Nat} (C : jj_C p R s m args c D vwCl A ad cA (gc n S SD) 5 0 0 cX6_grantAll RX6 jw_t) (hr : meth.sig.returnType = none) (hlocks : meth.locks = false) (hRm : 2 ≤ R.frames ∧ 80 ≤ R.locals) {K : jj_S → Int32 → Int32 → Int32 → Option jj_S} (hK : ∀ (σ : jj_S) (x1 x2 x3 : Int32), jj_J p l e R s m args below meth c D vwCl A ad cA (gc n S SD) 5 0 0 (jj_Qv below D vwCl A ad cA (gc n S SD) args s 0 0) (K σ x1 x2 x3) σ 75 [(0, .ref (ad 30)), (1, .int x1), (2, .int x2), (3, .int x3)] []) : ∀ (k : Nat) (σ : jj_S) (x1 x2 x3 : Int32), jj_J p l e R s m args below meth c D vwCl A ad cA (gc n S SD) 5 0 0 (jj_Qv below D vwCl A ad cA (gc n S SD) args s 0 0) (jj_lp3 (b_Routers_grantAll_22 n S SD F K) k σ x1 x2 x3) σ 22 [(0, .ref (ad 30)), (1, .int x1), (2, .int x2), (3, .int x3)] [] := by
  refine jj_loop3 (T := fun o σ x1 x2 x3 => jj_J p l e R s m args below meth c D vwCl A ad cA (gc n S SD) 5 0 0 (jj_Qv below D vwCl A ad cA (gc n S SD) args s 0 0) o σ 22 [(0, .ref (ad 30)), (1, .int x1), (2, .int x2), (3, .int x3)] []) (fun _ _ _ _ _ h => by cases h) ?_
  intro rec ih σ x1 x2 x3
  unfold b_Routers_grantAll_22
  refine jj_iload_n C 3 dX6_grantAll_22 rfl rfl ?_
  refine jj_aload_n C 0 dX6_grantAll_23 rfl rfl ?_
  refine jj_getr C 30 0 in_Routers (g_30 n S SD) k_Routers (by decide) fl_Routers_15 rfl dX6_grantAll_24 ?_
  refine jj_geti C 1 4 in_Grid (g_1 n S SD) k_Grid (by decide) fl_Routers_66 rfl dX6_grantAll_27 ?_
  refine jj_icmp_ge C (tgt := 75) dX6_grantAll_30 (by decide) (fun _ => ?_) (fun _ => ?_)
  · refine jj_sub [0, 1, 2, 3] rfl ?_
    exact hK σ x1 x2 x3
  · refine jj_aload_n C 0 dX6_grantAll_33 rfl rfl ?_
    refine jj_getr C 30 0 in_Routers (g_30 n S SD) k_Routers (by decide) fl_Routers_15 rfl dX6_grantAll_34 ?_
    refine jj_iload_n C 1 dX6_grantAll_37 rfl rfl ?_
    refine jj_iload_n C 2 dX6_grantAll_38 rfl rfl ?_
    refine jj_iload_n C 3 dX6_grantAll_39 rfl rfl ?_
    refine jj_callVi C (As := [.int x1, .int x2, .int x3]) (rest := []) (fun z hz => c_Grid_slot hz) (q_Routers_73 C.2.2.2.2.1 (rm := { frames := 0, cells := 0, slots := 0, locals := 0 }) rfl rfl ⟨Nat.le_trans (by decide) hRm.1, Nat.le_trans (by decide) hRm.2⟩) (g_1 n S SD) k_Grid rfl rfl (Nat.le_of_ble_eq_true rfl) dX6_grantAll_40 (fun r2 σ1 _ => ?_)
    refine jj_istore C [(4, .int r2), (0, .ref (ad 30)), (1, .int x1), (2, .int x2), (3, .int x3)] dX6_grantAll_43 (by decide) rfl ?_
    refine jj_aload_n C 1 dX6_grantAll_45 rfl rfl ?_
    refine jj_getr C 30 3 in_Routers (g_30 n S SD) k_Routers (by decide) fl_Routers_33 rfl dX6_grantAll_46 ?_
    refine jj_iload C 0 dX6_grantAll_49 rfl ?_
    refine jj_iald C 32 (g_32 n S SD) dX6_grantAll_51 ?_
    refine jj_iconst C (v := (1 : Int32)) dX6_grantAll_52 (by decide) ?_
    refine jj_icmp_ne C (tgt := 69) dX6_grantAll_53 (by decide) (fun _ => ?_) (fun _ => ?_)
    · refine jj_iinc C (v := x3 + (1 : Int32)) [(3, .int (x3 + (1 : Int32))), (4, .int r2), (0, .ref (ad 30)), (1, .int x1), (2, .int x2)] 4 dX6_grantAll_69 rfl rfl (by decide) rfl ?_
      refine jj_goto C (tgt := 22) dX6_grantAll_72 (by decide) ?_
      refine jj_sub [2, 3, 4, 0] rfl ?_
      exact ih σ1 x1 x2 (x3 + (1 : Int32))
    · refine jj_aload_n C 1 dX6_grantAll_56 rfl rfl ?_
      refine jj_iload_n C 2 dX6_grantAll_57 rfl rfl ?_
      refine jj_aload_n C 1 dX6_grantAll_58 rfl rfl ?_
      refine jj_getr C 30 4 in_Routers (g_30 n S SD) k_Routers (by decide) fl_Routers_36 rfl dX6_grantAll_59 ?_
      refine jj_iload C 0 dX6_grantAll_62 rfl ?_
      refine jj_iald C 33 (g_33 n S SD) dX6_grantAll_64 ?_
      refine jj_iload_n C 4 dX6_grantAll_65 rfl rfl ?_
      refine jj_callVv C (As := [.int x1, .int (σ1 33 r2.toNatClampNeg), .int x3]) (rest := []) (fun z hz => c_Routers_grantIfFree hz) (q_Routers_99 C.2.2.2.2.1 (rm := { frames := 1, cells := 0, slots := 0, locals := 40 }) rfl rfl ⟨Nat.le_trans (by decide) hRm.1, Nat.le_trans (by decide) hRm.2⟩) (g_30 n S SD) k_Routers rfl rfl (Nat.le_of_ble_eq_true rfl) dX6_grantAll_66 (fun σ3 _ => ?_)
      refine jj_iinc C (v := x3 + (1 : Int32)) [(3, .int (x3 + (1 : Int32))), (4, .int r2), (0, .ref (ad 30)), (1, .int x1), (2, .int x2)] 4 dX6_grantAll_69 rfl rfl (by decide) rfl ?_
      refine jj_goto C (tgt := 22) dX6_grantAll_72 (by decide) ?_
      refine jj_sub [2, 3, 4, 0] rfl ?_
      exact ih σ3 x1 x2 (x3 + (1 : Int32))
end
section
set_option maxHeartbeats 4000000 in
set_option maxRecDepth 100000 in
theorem l_Routers_grantAll_15 {p : Program} {l : Launch} {e : Env} {R : Room} {s : State} {m : MethodId} {args : Array Value} {below : List Frame} {meth : Method} {c : Code} {D : va_G} {A : Nat → Prop} {ad : Nat → Nat} {cA : FieldType → ClassId} {n S SD F : Nat} (C : jj_C p R s m args c D vwCl A ad cA (gc n S SD) 5 0 0 cX6_grantAll RX6 jw_t) (hr : meth.sig.returnType = none) (hlocks : meth.locks = false) (hRm : 2 ≤ R.frames ∧ 80 ≤ R.locals) {K : jj_S → Int32 → Int32 → Option jj_S} (hK : ∀ (σ : jj_S) (x1 x2 : Int32), jj_J p l e R s m args below meth c D vwCl A ad cA (gc n S SD) 5 0 0 (jj_Qv below D vwCl A ad cA (gc n S SD) args s 0 0) (K σ x1 x2) σ 81 [(0, .ref (ad 30)), (1, .int x1), (2, .int x2)] []) : ∀ (k : Nat) (σ : jj_S) (x1 x2 : Int32), jj_J p l e R s m args below meth c D vwCl A ad cA (gc n S SD) 5 0 0 (jj_Qv below D vwCl A ad cA (gc n S SD) args s 0 0) (jj_lp2 (b_Routers_grantAll_15 n S SD F K) k σ x1 x2) σ 15 [(0, .ref (ad 30)), (1, .int x1), (2, .int x2)] [] := by
  refine jj_loop2 (T := fun o σ x1 x2 => jj_J p l e R s m args below meth c D vwCl A ad cA (gc n S SD) 5 0 0 (jj_Qv below D vwCl A ad cA (gc n S SD) args s 0 0) o σ 15 [(0, .ref (ad 30)), (1, .int x1), (2, .int x2)] []) (fun _ _ _ _ h => by cases h) ?_
  intro rec ih σ x1 x2
  unfold b_Routers_grantAll_15
  refine jj_iload_n C 2 dX6_grantAll_15 rfl rfl ?_
  refine jj_iconst C (v := (5 : Int32)) dX6_grantAll_16 (by decide) ?_
  refine jj_icmp_ge C (tgt := 81) dX6_grantAll_17 (by decide) (fun _ => ?_) (fun _ => ?_)
  · refine jj_sub [0, 1, 2] rfl ?_
    exact hK σ x1 x2
  · refine jj_iconst C (v := (0 : Int32)) dX6_grantAll_20 (by decide) ?_
    refine jj_istore_n C [(3, .int (0 : Int32)), (0, .ref (ad 30)), (1, .int x1), (2, .int x2)] dX6_grantAll_21 rfl (by decide) rfl ?_
    refine jj_sub [1, 2, 3, 0] rfl ?_
    refine l_Routers_grantAll_22 C hr hlocks hRm (fun σ4 x1_5 x2_6 x3_7 => ?_) F σ x1 x2 (0 : Int32)
    refine jj_iinc C (v := x2_6 + (1 : Int32)) [(2, .int (x2_6 + (1 : Int32))), (0, .ref (ad 30)), (1, .int x1_5), (3, .int x3_7)] 2 dX6_grantAll_75 rfl rfl (by decide) rfl ?_
    refine jj_goto C (tgt := 15) dX6_grantAll_78 (by decide) ?_
    refine jj_sub [1, 2, 0] rfl ?_
    exact ih σ4 x1_5 (x2_6 + (1 : Int32))

set_option maxHeartbeats 4000000 in
set_option maxRecDepth 100000 in
theorem l_Routers_grantAll_2 {p : Program} {l : Launch} {e : Env} {R : Room} {s : State} {m : MethodId} {args : Array Value} {below : List Frame} {meth : Method} {c : Code} {D : va_G} {A : Nat → Prop} {ad : Nat → Nat} {cA : FieldType → ClassId} {n S SD F : Nat} (C : jj_C p R s m args c D vwCl A ad cA (gc n S SD) 5 0 0 cX6_grantAll RX6 jw_t) (hr : meth.sig.returnType = none) (hlocks : meth.locks = false) (hRm : 2 ≤ R.frames ∧ 80 ≤ R.locals) {K : jj_S → Int32 → Option jj_S} (hK : ∀ (σ : jj_S) (x1 : Int32), jj_J p l e R s m args below meth c D vwCl A ad cA (gc n S SD) 5 0 0 (jj_Qv below D vwCl A ad cA (gc n S SD) args s 0 0) (K σ x1) σ 87 [(0, .ref (ad 30)), (1, .int x1)] []) : ∀ (k : Nat) (σ : jj_S) (x1 : Int32), jj_J p l e R s m args below meth c D vwCl A ad cA (gc n S SD) 5 0 0 (jj_Qv below D vwCl A ad cA (gc n S SD) args s 0 0) (jj_lp1 (b_Routers_grantAll_2 n S SD F K) k σ x1) σ 2 [(0, .ref (ad 30)), (1, .int x1)] [] := by
  refine jj_loop1 (T := fun o σ x1 => jj_J p l e R s m args below meth c D vwCl A ad cA (gc n S SD) 5 0 0 (jj_Qv below D vwCl A ad cA (gc n S SD) args s 0 0) o σ 2 [(0, .ref (ad 30)), (1, .int x1)] []) (fun _ _ _ h => by cases h) ?_
  intro rec ih σ x1
  unfold b_Routers_grantAll_2
  refine jj_iload_n C 1 dX6_grantAll_2 rfl rfl ?_
  refine jj_aload_n C 0 dX6_grantAll_3 rfl rfl ?_
  refine jj_getr C 30 0 in_Routers (g_30 n S SD) k_Routers (by decide) fl_Routers_15 rfl dX6_grantAll_4 ?_
  refine jj_geti C 1 5 in_Grid (g_1 n S SD) k_Grid (by decide) fl_Routers_46 rfl dX6_grantAll_7 ?_
  refine jj_icmp_ge C (tgt := 87) dX6_grantAll_10 (by decide) (fun _ => ?_) (fun _ => ?_)
  · refine jj_sub [0, 1] rfl ?_
    exact hK σ x1
  · refine jj_iconst C (v := (0 : Int32)) dX6_grantAll_13 (by decide) ?_
    refine jj_istore_n C [(2, .int (0 : Int32)), (0, .ref (ad 30)), (1, .int x1)] dX6_grantAll_14 rfl (by decide) rfl ?_
    refine jj_sub [1, 2, 0] rfl ?_
    refine l_Routers_grantAll_15 C hr hlocks hRm (fun σ8 x1_9 x2_10 => ?_) F σ x1 (0 : Int32)
    refine jj_iinc C (v := x1_9 + (1 : Int32)) [(1, .int (x1_9 + (1 : Int32))), (0, .ref (ad 30)), (2, .int x2_10)] 1 dX6_grantAll_81 rfl rfl (by decide) rfl ?_
    refine jj_goto C (tgt := 2) dX6_grantAll_84 (by decide) ?_
    refine jj_sub [1, 0] rfl ?_
    exact ih σ8 (x1_9 + (1 : Int32))

set_option maxHeartbeats 4000000 in
set_option maxRecDepth 100000 in
theorem c_Routers_grantAll {l : Launch} {D : va_G} {ad : Nat → Nat} {cA : FieldType → ClassId} {n S SD F : Nat} {σ : jj_S} {z : jj_S} (ho : f_Routers_grantAll n S SD F σ = some z) : jj_Mv l yX6_grantAll (Cond.code yX6_grantAll cX6_grantAll 5 none :: jw_t) { frames := 2, cells := 0, slots := 0, locals := 80 } D vwCl ad cA (gc n S SD) [.ref (ad 30)] σ z := by
  refine jj_ofv (cc := cX6_grantAll) (nL := 5) (ret := none) rfl ho (Nat.le_of_ble_eq_true rfl) ?_
  intro p e s m below meth c C hr hlocks
  generalize hA : va_A (jj_w ad cA (gc n S SD) σ) s.heap.size = A at C ⊢
  have hRm : 2 ≤ (headSpec (Cond.code yX6_grantAll cX6_grantAll 5 none :: jw_t) { frames := 2, cells := 0, slots := 0, locals := 80 }).room.frames ∧ 80 ≤ (headSpec (Cond.code yX6_grantAll cX6_grantAll 5 none :: jw_t) { frames := 2, cells := 0, slots := 0, locals := 80 }).room.locals := ⟨Nat.le_refl _, Nat.le_refl _⟩
  generalize (headSpec (Cond.code yX6_grantAll cX6_grantAll 5 none :: jw_t) { frames := 2, cells := 0, slots := 0, locals := 80 }).room = R at C hRm ⊢
  generalize List.toArray ([.ref (ad 30)] : List Value) = args at C ⊢
  refine jj_sub (lv' := [(0, .ref (ad 30))]) [0] rfl ?_
  unfold f_Routers_grantAll
  refine jj_iconst C (v := (0 : Int32)) dX6_grantAll_0 (by decide) ?_
  refine jj_istore_n C [(1, .int (0 : Int32)), (0, .ref (ad 30))] dX6_grantAll_1 rfl (by decide) rfl ?_
  refine jj_sub [1, 0] rfl ?_
  refine l_Routers_grantAll_2 C hr hlocks hRm (fun σ11 x1_12 => ?_) F σ (0 : Int32)
  exact jj_vret C hr hlocks dX6_grantAll_87

set_option maxHeartbeats 4000000 in
set_option maxRecDepth 100000 in
theorem c_Packets_goal {l : Launch} {D : va_G} {ad : Nat → Nat} {cA : FieldType → ClassId} {n S SD F : Nat} {σ : jj_S} {a1 : Int32} {z : (Int32 × jj_S)} (ho : f_Packets_goal n S SD F σ a1 = some z) : jj_Mi l yX4_goal (Cond.code yX4_goal cX4_goal 2 (some .int) :: jw_t) { frames := 1, cells := 0, slots := 0, locals := 40 } D vwCl ad cA (gc n S SD) [.ref (ad 10), .int a1] σ z := by
  refine jj_ofi (cc := cX4_goal) (nL := 2) (ret := (some .int)) rfl ho (Nat.le_of_ble_eq_true rfl) ?_
  intro p e s m below meth c C hr hlocks
  generalize hA : va_A (jj_w ad cA (gc n S SD) σ) s.heap.size = A at C ⊢
  have hRm : 1 ≤ (headSpec (Cond.code yX4_goal cX4_goal 2 (some .int) :: jw_t) { frames := 1, cells := 0, slots := 0, locals := 40 }).room.frames ∧ 40 ≤ (headSpec (Cond.code yX4_goal cX4_goal 2 (some .int) :: jw_t) { frames := 1, cells := 0, slots := 0, locals := 40 }).room.locals := ⟨Nat.le_refl _, Nat.le_refl _⟩
  generalize (headSpec (Cond.code yX4_goal cX4_goal 2 (some .int) :: jw_t) { frames := 1, cells := 0, slots := 0, locals := 40 }).room = R at C hRm ⊢
  generalize List.toArray ([.ref (ad 10), .int a1] : List Value) = args at C ⊢
  refine jj_sub (lv' := [(0, .ref (ad 10)), (1, .int a1)]) [0, 1] rfl ?_
  unfold f_Packets_goal
  refine jj_iload_n C 1 dX4_goal_0 rfl rfl ?_
  refine jj_callSi C (As := [.int a1]) (rest := []) (fun z hz => c_Packets_isOfReply hz) (q_Packets_36 C.2.2.2.2.1 (rm := { frames := 0, cells := 0, slots := 0, locals := 0 }) rfl rfl ⟨Nat.le_trans (by decide) hRm.1, Nat.le_trans (by decide) hRm.2⟩) rfl rfl (Nat.le_of_ble_eq_true rfl) dX4_goal_1 (fun r2 σ1 _ => ?_)
  refine jj_if_eq C (tgt := 19) dX4_goal_4 (by decide) (fun _ => ?_) (fun _ => ?_)
  · refine jj_aload_n C 0 dX4_goal_19 rfl rfl ?_
    refine jj_getr C 10 2 in_Packets (g_10 n S SD) k_Packets (by decide) fl_Packets_15 rfl dX4_goal_20 ?_
    refine jj_iload_n C 1 dX4_goal_23 rfl rfl ?_
    refine jj_callSi C (As := [.int a1]) (rest := [.ref (ad 12)]) (fun z hz => c_Packets_number hz) (q_Packets_40 C.2.2.2.2.1 (rm := { frames := 0, cells := 0, slots := 0, locals := 0 }) rfl rfl ⟨Nat.le_trans (by decide) hRm.1, Nat.le_trans (by decide) hRm.2⟩) rfl rfl (Nat.le_of_ble_eq_true rfl) dX4_goal_24 (fun r4 σ3 _ => ?_)
    refine jj_iald C 12 (g_12 n S SD) dX4_goal_27 ?_
    exact jj_iret C hr hlocks dX4_goal_28
  · refine jj_aload_n C 0 dX4_goal_7 rfl rfl ?_
    refine jj_getr C 10 1 in_Packets (g_10 n S SD) k_Packets (by decide) fl_Packets_9 rfl dX4_goal_8 ?_
    refine jj_iload_n C 1 dX4_goal_11 rfl rfl ?_
    refine jj_callSi C (As := [.int a1]) (rest := [.ref (ad 11)]) (fun z hz => c_Packets_number hz) (q_Packets_40 C.2.2.2.2.1 (rm := { frames := 0, cells := 0, slots := 0, locals := 0 }) rfl rfl ⟨Nat.le_trans (by decide) hRm.1, Nat.le_trans (by decide) hRm.2⟩) rfl rfl (Nat.le_of_ble_eq_true rfl) dX4_goal_12 (fun r6 σ5 _ => ?_)
    refine jj_iald C 11 (g_11 n S SD) dX4_goal_15 ?_
    refine jj_goto C (tgt := 28) dX4_goal_16 (by decide) ?_
    exact jj_iret C hr hlocks dX4_goal_28

set_option maxHeartbeats 4000000 in
set_option maxRecDepth 100000 in
theorem c_Grid_column {l : Launch} {D : va_G} {ad : Nat → Nat} {cA : FieldType → ClassId} {n S SD F : Nat} {σ : jj_S} {a1 : Int32} {z : (Int32 × jj_S)} (ho : f_Grid_column n S SD F σ a1 = some z) : jj_Mi l yX1_column (Cond.code yX1_column cX1_column 2 (some .int) :: jw_t) { frames := 0, cells := 0, slots := 0, locals := 0 } D vwCl ad cA (gc n S SD) [.ref (ad 1), .int a1] σ z := by
  refine jj_ofi (cc := cX1_column) (nL := 2) (ret := (some .int)) rfl ho (Nat.le_of_ble_eq_true rfl) ?_
  intro p e s m below meth c C hr hlocks
  generalize hA : va_A (jj_w ad cA (gc n S SD) σ) s.heap.size = A at C ⊢
  have hRm : 0 ≤ (headSpec (Cond.code yX1_column cX1_column 2 (some .int) :: jw_t) { frames := 0, cells := 0, slots := 0, locals := 0 }).room.frames ∧ 0 ≤ (headSpec (Cond.code yX1_column cX1_column 2 (some .int) :: jw_t) { frames := 0, cells := 0, slots := 0, locals := 0 }).room.locals := ⟨Nat.le_refl _, Nat.le_refl _⟩
  generalize (headSpec (Cond.code yX1_column cX1_column 2 (some .int) :: jw_t) { frames := 0, cells := 0, slots := 0, locals := 0 }).room = R at C hRm ⊢
  generalize List.toArray ([.ref (ad 1), .int a1] : List Value) = args at C ⊢
  refine jj_sub (lv' := [(0, .ref (ad 1)), (1, .int a1)]) [0, 1] rfl ?_
  unfold f_Grid_column
  refine jj_iload_n C 1 dX1_column_0 rfl rfl ?_
  refine jj_aload_n C 0 dX1_column_1 rfl rfl ?_
  refine jj_geti C 1 0 in_Grid (g_1 n S SD) k_Grid (by decide) fl_Grid_15 rfl dX1_column_2 ?_
  refine jj_irem C dX1_column_5 ?_
  exact jj_iret C hr hlocks dX1_column_6

set_option maxHeartbeats 4000000 in
set_option maxRecDepth 100000 in
theorem c_Grid_row {l : Launch} {D : va_G} {ad : Nat → Nat} {cA : FieldType → ClassId} {n S SD F : Nat} {σ : jj_S} {a1 : Int32} {z : (Int32 × jj_S)} (ho : f_Grid_row n S SD F σ a1 = some z) : jj_Mi l yX1_row (Cond.code yX1_row cX1_row 2 (some .int) :: jw_t) { frames := 0, cells := 0, slots := 0, locals := 0 } D vwCl ad cA (gc n S SD) [.ref (ad 1), .int a1] σ z := by
  refine jj_ofi (cc := cX1_row) (nL := 2) (ret := (some .int)) rfl ho (Nat.le_of_ble_eq_true rfl) ?_
  intro p e s m below meth c C hr hlocks
  generalize hA : va_A (jj_w ad cA (gc n S SD) σ) s.heap.size = A at C ⊢
  have hRm : 0 ≤ (headSpec (Cond.code yX1_row cX1_row 2 (some .int) :: jw_t) { frames := 0, cells := 0, slots := 0, locals := 0 }).room.frames ∧ 0 ≤ (headSpec (Cond.code yX1_row cX1_row 2 (some .int) :: jw_t) { frames := 0, cells := 0, slots := 0, locals := 0 }).room.locals := ⟨Nat.le_refl _, Nat.le_refl _⟩
  generalize (headSpec (Cond.code yX1_row cX1_row 2 (some .int) :: jw_t) { frames := 0, cells := 0, slots := 0, locals := 0 }).room = R at C hRm ⊢
  generalize List.toArray ([.ref (ad 1), .int a1] : List Value) = args at C ⊢
  refine jj_sub (lv' := [(0, .ref (ad 1)), (1, .int a1)]) [0, 1] rfl ?_
  unfold f_Grid_row
  refine jj_iload_n C 1 dX1_row_0 rfl rfl ?_
  refine jj_aload_n C 0 dX1_row_1 rfl rfl ?_
  refine jj_geti C 1 0 in_Grid (g_1 n S SD) k_Grid (by decide) fl_Grid_15 rfl dX1_row_2 ?_
  refine jj_idiv C dX1_row_5 ?_
  exact jj_iret C hr hlocks dX1_row_6

set_option maxHeartbeats 4000000 in
set_option maxRecDepth 100000 in
theorem c_Routers_wayTo {l : Launch} {D : va_G} {ad : Nat → Nat} {cA : FieldType → ClassId} {n S SD F : Nat} {σ : jj_S} {a1 a2 : Int32} {z : (Int32 × jj_S)} (ho : f_Routers_wayTo n S SD F σ a1 a2 = some z) : jj_Mi l yX6_wayTo (Cond.code yX6_wayTo cX6_wayTo 5 (some .int) :: jw_t) { frames := 1, cells := 0, slots := 0, locals := 40 } D vwCl ad cA (gc n S SD) [.ref (ad 30), .int a1, .int a2] σ z := by
  refine jj_ofi (cc := cX6_wayTo) (nL := 5) (ret := (some .int)) rfl ho (Nat.le_of_ble_eq_true rfl) ?_
  intro p e s m below meth c C hr hlocks
  generalize hA : va_A (jj_w ad cA (gc n S SD) σ) s.heap.size = A at C ⊢
  have hRm : 1 ≤ (headSpec (Cond.code yX6_wayTo cX6_wayTo 5 (some .int) :: jw_t) { frames := 1, cells := 0, slots := 0, locals := 40 }).room.frames ∧ 40 ≤ (headSpec (Cond.code yX6_wayTo cX6_wayTo 5 (some .int) :: jw_t) { frames := 1, cells := 0, slots := 0, locals := 40 }).room.locals := ⟨Nat.le_refl _, Nat.le_refl _⟩
  generalize (headSpec (Cond.code yX6_wayTo cX6_wayTo 5 (some .int) :: jw_t) { frames := 1, cells := 0, slots := 0, locals := 40 }).room = R at C hRm ⊢
  generalize List.toArray ([.ref (ad 30), .int a1, .int a2] : List Value) = args at C ⊢
  refine jj_sub (lv' := [(0, .ref (ad 30)), (1, .int a1), (2, .int a2)]) [0, 1, 2] rfl ?_
  unfold f_Routers_wayTo
  refine jj_aload_n C 0 dX6_wayTo_0 rfl rfl ?_
  refine jj_getr C 30 0 in_Routers (g_30 n S SD) k_Routers (by decide) fl_Routers_15 rfl dX6_wayTo_1 ?_
  refine jj_iload_n C 2 dX6_wayTo_4 rfl rfl ?_
  refine jj_callVi C (As := [.int a2]) (rest := []) (fun z hz => c_Grid_column hz) (q_Routers_111 C.2.2.2.2.1 (rm := { frames := 0, cells := 0, slots := 0, locals := 0 }) rfl rfl ⟨Nat.le_trans (by decide) hRm.1, Nat.le_trans (by decide) hRm.2⟩) (g_1 n S SD) k_Grid rfl rfl (Nat.le_of_ble_eq_true rfl) dX6_wayTo_5 (fun r2 σ1 _ => ?_)
  refine jj_aload_n C 0 dX6_wayTo_8 rfl rfl ?_
  refine jj_getr C 30 0 in_Routers (g_30 n S SD) k_Routers (by decide) fl_Routers_15 rfl dX6_wayTo_9 ?_
  refine jj_iload_n C 1 dX6_wayTo_12 rfl rfl ?_
  refine jj_callVi C (As := [.int a1]) (rest := [.int r2]) (fun z hz => c_Grid_column hz) (q_Routers_111 C.2.2.2.2.1 (rm := { frames := 0, cells := 0, slots := 0, locals := 0 }) rfl rfl ⟨Nat.le_trans (by decide) hRm.1, Nat.le_trans (by decide) hRm.2⟩) (g_1 n S SD) k_Grid rfl rfl (Nat.le_of_ble_eq_true rfl) dX6_wayTo_13 (fun r4 σ3 _ => ?_)
  refine jj_isub C dX6_wayTo_16 ?_
  refine jj_ltn (fun v3_5 => ?_)
  refine jj_istore_n C [(3, .int v3_5), (0, .ref (ad 30)), (1, .int a1), (2, .int a2)] dX6_wayTo_17 rfl (by decide) rfl ?_
  refine jj_iload_n C 0 dX6_wayTo_18 rfl rfl ?_
  refine jj_if_eq C (tgt := 32) dX6_wayTo_19 (by decide) (fun _ => ?_) (fun _ => ?_)
  · refine jj_aload_n C 1 dX6_wayTo_32 rfl rfl ?_
    refine jj_getr C 30 0 in_Routers (g_30 n S SD) k_Routers (by decide) fl_Routers_15 rfl dX6_wayTo_33 ?_
    refine jj_iload_n C 3 dX6_wayTo_36 rfl rfl ?_
    refine jj_callVi C (As := [.int a2]) (rest := []) (fun z hz => c_Grid_row hz) (q_Routers_114 C.2.2.2.2.1 (rm := { frames := 0, cells := 0, slots := 0, locals := 0 }) rfl rfl ⟨Nat.le_trans (by decide) hRm.1, Nat.le_trans (by decide) hRm.2⟩) (g_1 n S SD) k_Grid rfl rfl (Nat.le_of_ble_eq_true rfl) dX6_wayTo_37 (fun r7 σ6 _ => ?_)
    refine jj_aload_n C 1 dX6_wayTo_40 rfl rfl ?_
    refine jj_getr C 30 0 in_Routers (g_30 n S SD) k_Routers (by decide) fl_Routers_15 rfl dX6_wayTo_41 ?_
    refine jj_iload_n C 2 dX6_wayTo_44 rfl rfl ?_
    refine jj_callVi C (As := [.int a1]) (rest := [.int r7]) (fun z hz => c_Grid_row hz) (q_Routers_114 C.2.2.2.2.1 (rm := { frames := 0, cells := 0, slots := 0, locals := 0 }) rfl rfl ⟨Nat.le_trans (by decide) hRm.1, Nat.le_trans (by decide) hRm.2⟩) (g_1 n S SD) k_Grid rfl rfl (Nat.le_of_ble_eq_true rfl) dX6_wayTo_45 (fun r9 σ8 _ => ?_)
    refine jj_isub C dX6_wayTo_48 ?_
    refine jj_ltn (fun v4_10 => ?_)
    refine jj_istore C [(4, .int v4_10), (3, .int v3_5), (0, .ref (ad 30)), (1, .int a1), (2, .int a2)] dX6_wayTo_49 (by decide) rfl ?_
    refine jj_iload C 0 dX6_wayTo_51 rfl ?_
    refine jj_if_eq C (tgt := 67) dX6_wayTo_53 (by decide) (fun _ => ?_) (fun _ => ?_)
    · refine jj_iconst C (v := (0 : Int32)) dX6_wayTo_67 (by decide) ?_
      exact jj_iret C hr hlocks dX6_wayTo_68
    · refine jj_iload C 0 dX6_wayTo_56 rfl ?_
      refine jj_if_le C (tgt := 65) dX6_wayTo_58 (by decide) (fun _ => ?_) (fun _ => ?_)
      · refine jj_iconst C (v := (4 : Int32)) dX6_wayTo_65 (by decide) ?_
        exact jj_iret C hr hlocks dX6_wayTo_66
      · refine jj_iconst C (v := (3 : Int32)) dX6_wayTo_61 (by decide) ?_
        refine jj_goto C (tgt := 66) dX6_wayTo_62 (by decide) ?_
        exact jj_iret C hr hlocks dX6_wayTo_66
  · refine jj_iload_n C 0 dX6_wayTo_22 rfl rfl ?_
    refine jj_if_le C (tgt := 30) dX6_wayTo_23 (by decide) (fun _ => ?_) (fun _ => ?_)
    · refine jj_iconst C (v := (2 : Int32)) dX6_wayTo_30 (by decide) ?_
      exact jj_iret C hr hlocks dX6_wayTo_31
    · refine jj_iconst C (v := (1 : Int32)) dX6_wayTo_26 (by decide) ?_
      refine jj_goto C (tgt := 31) dX6_wayTo_27 (by decide) ?_
      exact jj_iret C hr hlocks dX6_wayTo_31

set_option maxHeartbeats 4000000 in
set_option maxRecDepth 100000 in
theorem l_Routers_routeAll_22 {p : Program} {l : Launch} {e : Env} {R : Room} {s : State} {m : MethodId} {args : Array Value} {below : List Frame} {meth : Method} {c : Code} {D : va_G} {A : Nat → Prop} {ad : Nat → Nat} {cA : FieldType → ClassId} {n S SD F : Nat} (C : jj_C p R s m args c D vwCl A ad cA (gc n S SD) 5 0 0 cX6_routeAll RX6 jw_t) (hr : meth.sig.returnType = none) (hlocks : meth.locks = false) (hRm : 2 ≤ R.frames ∧ 80 ≤ R.locals) {K : jj_S → Int32 → Int32 → Int32 → Option jj_S} (hK : ∀ (σ : jj_S) (x1 x2 x3 : Int32), jj_J p l e R s m args below meth c D vwCl A ad cA (gc n S SD) 5 0 0 (jj_Qv below D vwCl A ad cA (gc n S SD) args s 0 0) (K σ x1 x2 x3) σ 110 [(0, .ref (ad 30)), (1, .int x1), (2, .int x2), (3, .int x3)] []) : ∀ (k : Nat) (σ : jj_S) (x1 x2 x3 : Int32), jj_J p l e R s m args below meth c D vwCl A ad cA (gc n S SD) 5 0 0 (jj_Qv below D vwCl A ad cA (gc n S SD) args s 0 0) (jj_lp3 (b_Routers_routeAll_22 n S SD F K) k σ x1 x2 x3) σ 22 [(0, .ref (ad 30)), (1, .int x1), (2, .int x2), (3, .int x3)] [] := by
  refine jj_loop3 (T := fun o σ x1 x2 x3 => jj_J p l e R s m args below meth c D vwCl A ad cA (gc n S SD) 5 0 0 (jj_Qv below D vwCl A ad cA (gc n S SD) args s 0 0) o σ 22 [(0, .ref (ad 30)), (1, .int x1), (2, .int x2), (3, .int x3)] []) (fun _ _ _ _ _ h => by cases h) ?_
  intro rec ih σ x1 x2 x3
  unfold b_Routers_routeAll_22
  refine jj_iload_n C 3 dX6_routeAll_22 rfl rfl ?_
  refine jj_aload_n C 0 dX6_routeAll_23 rfl rfl ?_
  refine jj_getr C 30 0 in_Routers (g_30 n S SD) k_Routers (by decide) fl_Routers_15 rfl dX6_routeAll_24 ?_
  refine jj_geti C 1 4 in_Grid (g_1 n S SD) k_Grid (by decide) fl_Routers_66 rfl dX6_routeAll_27 ?_
  refine jj_icmp_ge C (tgt := 110) dX6_routeAll_30 (by decide) (fun _ => ?_) (fun _ => ?_)
  · refine jj_sub [0, 1, 2, 3] rfl ?_
    exact hK σ x1 x2 x3
  · refine jj_aload_n C 0 dX6_routeAll_33 rfl rfl ?_
    refine jj_getr C 30 0 in_Routers (g_30 n S SD) k_Routers (by decide) fl_Routers_15 rfl dX6_routeAll_34 ?_
    refine jj_iload_n C 1 dX6_routeAll_37 rfl rfl ?_
    refine jj_iload_n C 2 dX6_routeAll_38 rfl rfl ?_
    refine jj_iload_n C 3 dX6_routeAll_39 rfl rfl ?_
    refine jj_callVi C (As := [.int x1, .int x2, .int x3]) (rest := []) (fun z hz => c_Grid_slot hz) (q_Routers_73 C.2.2.2.2.1 (rm := { frames := 0, cells := 0, slots := 0, locals := 0 }) rfl rfl ⟨Nat.le_trans (by decide) hRm.1, Nat.le_trans (by decide) hRm.2⟩) (g_1 n S SD) k_Grid rfl rfl (Nat.le_of_ble_eq_true rfl) dX6_routeAll_40 (fun r2 σ1 _ => ?_)
    refine jj_istore C [(4, .int r2), (0, .ref (ad 30)), (1, .int x1), (2, .int x2), (3, .int x3)] dX6_routeAll_43 (by decide) rfl ?_
    refine jj_aload_n C 1 dX6_routeAll_45 rfl rfl ?_
    refine jj_getr C 30 3 in_Routers (g_30 n S SD) k_Routers (by decide) fl_Routers_33 rfl dX6_routeAll_46 ?_
    refine jj_iload C 0 dX6_routeAll_49 rfl ?_
    refine jj_iald C 32 (g_32 n S SD) dX6_routeAll_51 ?_
    refine jj_if_ne C (tgt := 104) dX6_routeAll_52 (by decide) (fun _ => ?_) (fun _ => ?_)
    · refine jj_iinc C (v := x3 + (1 : Int32)) [(3, .int (x3 + (1 : Int32))), (4, .int r2), (0, .ref (ad 30)), (1, .int x1), (2, .int x2)] 4 dX6_routeAll_104 rfl rfl (by decide) rfl ?_
      refine jj_goto C (tgt := 22) dX6_routeAll_107 (by decide) ?_
      refine jj_sub [2, 3, 4, 0] rfl ?_
      exact ih σ1 x1 x2 (x3 + (1 : Int32))
    · refine jj_aload_n C 1 dX6_routeAll_55 rfl rfl ?_
      refine jj_getr C 30 1 in_Routers (g_30 n S SD) k_Routers (by decide) fl_Routers_19 rfl dX6_routeAll_56 ?_
      refine jj_getr C 2 4 in_Links (g_2 n S SD) k_Links (by decide) fl_Routers_77 rfl dX6_routeAll_59 ?_
      refine jj_iload C 0 dX6_routeAll_62 rfl ?_
      refine jj_iald C 6 (g_6 n S SD) dX6_routeAll_64 ?_
      refine jj_if_le C (tgt := 104) dX6_routeAll_65 (by decide) (fun _ => ?_) (fun _ => ?_)
      · refine jj_iinc C (v := x3 + (1 : Int32)) [(3, .int (x3 + (1 : Int32))), (4, .int r2), (0, .ref (ad 30)), (1, .int x1), (2, .int x2)] 4 dX6_routeAll_104 rfl rfl (by decide) rfl ?_
        refine jj_goto C (tgt := 22) dX6_routeAll_107 (by decide) ?_
        refine jj_sub [2, 3, 4, 0] rfl ?_
        exact ih σ1 x1 x2 (x3 + (1 : Int32))
      · refine jj_aload_n C 1 dX6_routeAll_68 rfl rfl ?_
        refine jj_getr C 30 4 in_Routers (g_30 n S SD) k_Routers (by decide) fl_Routers_36 rfl dX6_routeAll_69 ?_
        refine jj_iload C 0 dX6_routeAll_72 rfl ?_
        refine jj_aload_n C 1 dX6_routeAll_74 rfl rfl ?_
        refine jj_iload_n C 2 dX6_routeAll_75 rfl rfl ?_
        refine jj_aload_n C 1 dX6_routeAll_76 rfl rfl ?_
        refine jj_getr C 30 2 in_Routers (g_30 n S SD) k_Routers (by decide) fl_Routers_23 rfl dX6_routeAll_77 ?_
        refine jj_aload_n C 1 dX6_routeAll_80 rfl rfl ?_
        refine jj_getr C 30 1 in_Routers (g_30 n S SD) k_Routers (by decide) fl_Routers_19 rfl dX6_routeAll_81 ?_
        refine jj_iload C 0 dX6_routeAll_84 rfl ?_
        refine jj_callVi C (As := [.int r2]) (rest := [.ref (ad 10), .int x1, .ref (ad 30), .int r2, .ref (ad 33)]) (fun z hz => c_Links_firstFlit hz) (q_Routers_102 C.2.2.2.2.1 (rm := { frames := 0, cells := 0, slots := 0, locals := 0 }) rfl rfl ⟨Nat.le_trans (by decide) hRm.1, Nat.le_trans (by decide) hRm.2⟩) (g_2 n S SD) k_Links rfl rfl (Nat.le_of_ble_eq_true rfl) dX6_routeAll_86 (fun r4 σ3 _ => ?_)
        refine jj_callVi C (As := [.int r4]) (rest := [.int x1, .ref (ad 30), .int r2, .ref (ad 33)]) (fun z hz => c_Packets_goal hz) (q_Routers_105 C.2.2.2.2.1 (rm := { frames := 1, cells := 0, slots := 0, locals := 40 }) rfl rfl ⟨Nat.le_trans (by decide) hRm.1, Nat.le_trans (by decide) hRm.2⟩) (g_10 n S SD) k_Packets rfl rfl (Nat.le_of_ble_eq_true rfl) dX6_routeAll_89 (fun r6 σ5 _ => ?_)
        refine jj_callVi C (As := [.int x1, .int r6]) (rest := [.int r2, .ref (ad 33)]) (fun z hz => c_Routers_wayTo hz) (q_Routers_108 C.2.2.2.2.1 (rm := { frames := 1, cells := 0, slots := 0, locals := 40 }) rfl rfl ⟨Nat.le_trans (by decide) hRm.1, Nat.le_trans (by decide) hRm.2⟩) (g_30 n S SD) k_Routers rfl rfl (Nat.le_of_ble_eq_true rfl) dX6_routeAll_92 (fun r8 σ7 _ => ?_)
        refine jj_iast C 33 (g_33 n S SD) dX6_routeAll_95 ?_
        refine jj_stn (fun σ9 => ?_)
        refine jj_aload_n C 1 dX6_routeAll_96 rfl rfl ?_
        refine jj_getr C 30 3 in_Routers (g_30 n S SD) k_Routers (by decide) fl_Routers_33 rfl dX6_routeAll_97 ?_
        refine jj_iload C 0 dX6_routeAll_100 rfl ?_
        refine jj_iconst C (v := (1 : Int32)) dX6_routeAll_102 (by decide) ?_
        refine jj_iast C 32 (g_32 n S SD) dX6_routeAll_103 ?_
        refine jj_stn (fun σ10 => ?_)
        refine jj_iinc C (v := x3 + (1 : Int32)) [(3, .int (x3 + (1 : Int32))), (4, .int r2), (0, .ref (ad 30)), (1, .int x1), (2, .int x2)] 4 dX6_routeAll_104 rfl rfl (by decide) rfl ?_
        refine jj_goto C (tgt := 22) dX6_routeAll_107 (by decide) ?_
        refine jj_sub [2, 3, 4, 0] rfl ?_
        exact ih σ10 x1 x2 (x3 + (1 : Int32))

set_option maxHeartbeats 4000000 in
set_option maxRecDepth 100000 in
theorem l_Routers_routeAll_15 {p : Program} {l : Launch} {e : Env} {R : Room} {s : State} {m : MethodId} {args : Array Value} {below : List Frame} {meth : Method} {c : Code} {D : va_G} {A : Nat → Prop} {ad : Nat → Nat} {cA : FieldType → ClassId} {n S SD F : Nat} (C : jj_C p R s m args c D vwCl A ad cA (gc n S SD) 5 0 0 cX6_routeAll RX6 jw_t) (hr : meth.sig.returnType = none) (hlocks : meth.locks = false) (hRm : 2 ≤ R.frames ∧ 80 ≤ R.locals) {K : jj_S → Int32 → Int32 → Option jj_S} (hK : ∀ (σ : jj_S) (x1 x2 : Int32), jj_J p l e R s m args below meth c D vwCl A ad cA (gc n S SD) 5 0 0 (jj_Qv below D vwCl A ad cA (gc n S SD) args s 0 0) (K σ x1 x2) σ 116 [(0, .ref (ad 30)), (1, .int x1), (2, .int x2)] []) : ∀ (k : Nat) (σ : jj_S) (x1 x2 : Int32), jj_J p l e R s m args below meth c D vwCl A ad cA (gc n S SD) 5 0 0 (jj_Qv below D vwCl A ad cA (gc n S SD) args s 0 0) (jj_lp2 (b_Routers_routeAll_15 n S SD F K) k σ x1 x2) σ 15 [(0, .ref (ad 30)), (1, .int x1), (2, .int x2)] [] := by
  refine jj_loop2 (T := fun o σ x1 x2 => jj_J p l e R s m args below meth c D vwCl A ad cA (gc n S SD) 5 0 0 (jj_Qv below D vwCl A ad cA (gc n S SD) args s 0 0) o σ 15 [(0, .ref (ad 30)), (1, .int x1), (2, .int x2)] []) (fun _ _ _ _ h => by cases h) ?_
  intro rec ih σ x1 x2
  unfold b_Routers_routeAll_15
  refine jj_iload_n C 2 dX6_routeAll_15 rfl rfl ?_
  refine jj_iconst C (v := (5 : Int32)) dX6_routeAll_16 (by decide) ?_
  refine jj_icmp_ge C (tgt := 116) dX6_routeAll_17 (by decide) (fun _ => ?_) (fun _ => ?_)
  · refine jj_sub [0, 1, 2] rfl ?_
    exact hK σ x1 x2
  · refine jj_iconst C (v := (0 : Int32)) dX6_routeAll_20 (by decide) ?_
    refine jj_istore_n C [(3, .int (0 : Int32)), (0, .ref (ad 30)), (1, .int x1), (2, .int x2)] dX6_routeAll_21 rfl (by decide) rfl ?_
    refine jj_sub [1, 2, 3, 0] rfl ?_
    refine l_Routers_routeAll_22 C hr hlocks hRm (fun σ11 x1_12 x2_13 x3_14 => ?_) F σ x1 x2 (0 : Int32)
    refine jj_iinc C (v := x2_13 + (1 : Int32)) [(2, .int (x2_13 + (1 : Int32))), (0, .ref (ad 30)), (1, .int x1_12), (3, .int x3_14)] 2 dX6_routeAll_110 rfl rfl (by decide) rfl ?_
    refine jj_goto C (tgt := 15) dX6_routeAll_113 (by decide) ?_
    refine jj_sub [1, 2, 0] rfl ?_
    exact ih σ11 x1_12 (x2_13 + (1 : Int32))

set_option maxHeartbeats 4000000 in
set_option maxRecDepth 100000 in
theorem l_Routers_routeAll_2 {p : Program} {l : Launch} {e : Env} {R : Room} {s : State} {m : MethodId} {args : Array Value} {below : List Frame} {meth : Method} {c : Code} {D : va_G} {A : Nat → Prop} {ad : Nat → Nat} {cA : FieldType → ClassId} {n S SD F : Nat} (C : jj_C p R s m args c D vwCl A ad cA (gc n S SD) 5 0 0 cX6_routeAll RX6 jw_t) (hr : meth.sig.returnType = none) (hlocks : meth.locks = false) (hRm : 2 ≤ R.frames ∧ 80 ≤ R.locals) {K : jj_S → Int32 → Option jj_S} (hK : ∀ (σ : jj_S) (x1 : Int32), jj_J p l e R s m args below meth c D vwCl A ad cA (gc n S SD) 5 0 0 (jj_Qv below D vwCl A ad cA (gc n S SD) args s 0 0) (K σ x1) σ 122 [(0, .ref (ad 30)), (1, .int x1)] []) : ∀ (k : Nat) (σ : jj_S) (x1 : Int32), jj_J p l e R s m args below meth c D vwCl A ad cA (gc n S SD) 5 0 0 (jj_Qv below D vwCl A ad cA (gc n S SD) args s 0 0) (jj_lp1 (b_Routers_routeAll_2 n S SD F K) k σ x1) σ 2 [(0, .ref (ad 30)), (1, .int x1)] [] := by
  refine jj_loop1 (T := fun o σ x1 => jj_J p l e R s m args below meth c D vwCl A ad cA (gc n S SD) 5 0 0 (jj_Qv below D vwCl A ad cA (gc n S SD) args s 0 0) o σ 2 [(0, .ref (ad 30)), (1, .int x1)] []) (fun _ _ _ h => by cases h) ?_
  intro rec ih σ x1
  unfold b_Routers_routeAll_2
  refine jj_iload_n C 1 dX6_routeAll_2 rfl rfl ?_
  refine jj_aload_n C 0 dX6_routeAll_3 rfl rfl ?_
  refine jj_getr C 30 0 in_Routers (g_30 n S SD) k_Routers (by decide) fl_Routers_15 rfl dX6_routeAll_4 ?_
  refine jj_geti C 1 5 in_Grid (g_1 n S SD) k_Grid (by decide) fl_Routers_46 rfl dX6_routeAll_7 ?_
  refine jj_icmp_ge C (tgt := 122) dX6_routeAll_10 (by decide) (fun _ => ?_) (fun _ => ?_)
  · refine jj_sub [0, 1] rfl ?_
    exact hK σ x1
  · refine jj_iconst C (v := (0 : Int32)) dX6_routeAll_13 (by decide) ?_
    refine jj_istore_n C [(2, .int (0 : Int32)), (0, .ref (ad 30)), (1, .int x1)] dX6_routeAll_14 rfl (by decide) rfl ?_
    refine jj_sub [1, 2, 0] rfl ?_
    refine l_Routers_routeAll_15 C hr hlocks hRm (fun σ15 x1_16 x2_17 => ?_) F σ x1 (0 : Int32)
    refine jj_iinc C (v := x1_16 + (1 : Int32)) [(1, .int (x1_16 + (1 : Int32))), (0, .ref (ad 30)), (2, .int x2_17)] 1 dX6_routeAll_116 rfl rfl (by decide) rfl ?_
    refine jj_goto C (tgt := 2) dX6_routeAll_119 (by decide) ?_
    refine jj_sub [1, 0] rfl ?_
    exact ih σ15 (x1_16 + (1 : Int32))

set_option maxHeartbeats 4000000 in
set_option maxRecDepth 100000 in
theorem c_Routers_routeAll {l : Launch} {D : va_G} {ad : Nat → Nat} {cA : FieldType → ClassId} {n S SD F : Nat} {σ : jj_S} {z : jj_S} (ho : f_Routers_routeAll n S SD F σ = some z) : jj_Mv l yX6_routeAll (Cond.code yX6_routeAll cX6_routeAll 5 none :: jw_t) { frames := 2, cells := 0, slots := 0, locals := 80 } D vwCl ad cA (gc n S SD) [.ref (ad 30)] σ z := by
  refine jj_ofv (cc := cX6_routeAll) (nL := 5) (ret := none) rfl ho (Nat.le_of_ble_eq_true rfl) ?_
  intro p e s m below meth c C hr hlocks
  generalize hA : va_A (jj_w ad cA (gc n S SD) σ) s.heap.size = A at C ⊢
  have hRm : 2 ≤ (headSpec (Cond.code yX6_routeAll cX6_routeAll 5 none :: jw_t) { frames := 2, cells := 0, slots := 0, locals := 80 }).room.frames ∧ 80 ≤ (headSpec (Cond.code yX6_routeAll cX6_routeAll 5 none :: jw_t) { frames := 2, cells := 0, slots := 0, locals := 80 }).room.locals := ⟨Nat.le_refl _, Nat.le_refl _⟩
  generalize (headSpec (Cond.code yX6_routeAll cX6_routeAll 5 none :: jw_t) { frames := 2, cells := 0, slots := 0, locals := 80 }).room = R at C hRm ⊢
  generalize List.toArray ([.ref (ad 30)] : List Value) = args at C ⊢
  refine jj_sub (lv' := [(0, .ref (ad 30))]) [0] rfl ?_
  unfold f_Routers_routeAll
  refine jj_iconst C (v := (0 : Int32)) dX6_routeAll_0 (by decide) ?_
  refine jj_istore_n C [(1, .int (0 : Int32)), (0, .ref (ad 30))] dX6_routeAll_1 rfl (by decide) rfl ?_
  refine jj_sub [1, 0] rfl ?_
  refine l_Routers_routeAll_2 C hr hlocks hRm (fun σ18 x1_19 => ?_) F σ (0 : Int32)
  exact jj_vret C hr hlocks dX6_routeAll_122

set_option maxHeartbeats 4000000 in
set_option maxRecDepth 100000 in
theorem c_Mesh_tick {l : Launch} {D : va_G} {ad : Nat → Nat} {cA : FieldType → ClassId} {n S SD F : Nat} {σ : jj_S} {z : jj_S} (ho : f_Mesh_tick n S SD F σ = some z) : jj_Mv l yX7_tick (Cond.code yX7_tick cX7_tick 1 none :: jw_t) { frames := 4, cells := 0, slots := 0, locals := 160 } D vwCl ad cA (gc n S SD) [.ref (ad 0)] σ z := by
  refine jj_ofv (cc := cX7_tick) (nL := 1) (ret := none) rfl ho (Nat.le_of_ble_eq_true rfl) ?_
  intro p e s m below meth c C hr hlocks
  generalize hA : va_A (jj_w ad cA (gc n S SD) σ) s.heap.size = A at C ⊢
  have hRm : 4 ≤ (headSpec (Cond.code yX7_tick cX7_tick 1 none :: jw_t) { frames := 4, cells := 0, slots := 0, locals := 160 }).room.frames ∧ 160 ≤ (headSpec (Cond.code yX7_tick cX7_tick 1 none :: jw_t) { frames := 4, cells := 0, slots := 0, locals := 160 }).room.locals := ⟨Nat.le_refl _, Nat.le_refl _⟩
  generalize (headSpec (Cond.code yX7_tick cX7_tick 1 none :: jw_t) { frames := 4, cells := 0, slots := 0, locals := 160 }).room = R at C hRm ⊢
  generalize List.toArray ([.ref (ad 0)] : List Value) = args at C ⊢
  refine jj_sub (lv' := [(0, .ref (ad 0))]) [0] rfl ?_
  unfold f_Mesh_tick
  refine jj_aload_n C 0 dX7_tick_0 rfl rfl ?_
  refine jj_dup C dX7_tick_1 rfl ?_
  refine jj_geti C 0 5 in_Mesh (g_0 n S SD) k_Mesh (by decide) fl_Mesh_96 rfl dX7_tick_2 ?_
  refine jj_iconst C (v := (1 : Int32)) dX7_tick_5 (by decide) ?_
  refine jj_iadd C dX7_tick_6 ?_
  refine jj_puti C 0 5 in_Mesh (g_0 n S SD) k_Mesh (by decide) fl_Mesh_96 tyX7 tyX7_ok nmX7 rfl (by decide +kernel) rfl dX7_tick_7 ?_
  refine jj_stn (fun σ1 => ?_)
  refine jj_aload_n C 0 dX7_tick_10 rfl rfl ?_
  refine jj_getr C 0 1 in_Mesh (g_0 n S SD) k_Mesh (by decide) fl_Mesh_23 rfl dX7_tick_11 ?_
  refine jj_callVv C (As := []) (rest := []) (fun z hz => c_Links_arriveAll hz) (q_Mesh_143 C.2.2.2.2.1 (rm := { frames := 0, cells := 0, slots := 0, locals := 0 }) rfl rfl ⟨Nat.le_trans (by decide) hRm.1, Nat.le_trans (by decide) hRm.2⟩) (g_2 n S SD) k_Links rfl rfl (Nat.le_of_ble_eq_true rfl) dX7_tick_14 (fun σ2 _ => ?_)
  refine jj_aload_n C 0 dX7_tick_17 rfl rfl ?_
  refine jj_getr C 0 3 in_Mesh (g_0 n S SD) k_Mesh (by decide) fl_Mesh_39 rfl dX7_tick_18 ?_
  refine jj_aload_n C 0 dX7_tick_21 rfl rfl ?_
  refine jj_geti C 0 5 in_Mesh (g_0 n S SD) k_Mesh (by decide) fl_Mesh_96 rfl dX7_tick_22 ?_
  refine jj_callVv C (As := [.int (σ2 0 5)]) (rest := []) (fun z hz => c_Ifs_takeAll hz) (q_Mesh_146 C.2.2.2.2.1 (rm := { frames := 2, cells := 0, slots := 0, locals := 80 }) rfl rfl ⟨Nat.le_trans (by decide) hRm.1, Nat.le_trans (by decide) hRm.2⟩) (g_16 n S SD) k_Ifs rfl rfl (Nat.le_of_ble_eq_true rfl) dX7_tick_25 (fun σ3 _ => ?_)
  refine jj_aload_n C 0 dX7_tick_28 rfl rfl ?_
  refine jj_getr C 0 3 in_Mesh (g_0 n S SD) k_Mesh (by decide) fl_Mesh_39 rfl dX7_tick_29 ?_
  refine jj_callVv C (As := []) (rest := []) (fun z hz => c_Ifs_sendAll hz) (q_Mesh_150 C.2.2.2.2.1 (rm := { frames := 2, cells := 0, slots := 0, locals := 80 }) rfl rfl ⟨Nat.le_trans (by decide) hRm.1, Nat.le_trans (by decide) hRm.2⟩) (g_16 n S SD) k_Ifs rfl rfl (Nat.le_of_ble_eq_true rfl) dX7_tick_32 (fun σ4 _ => ?_)
  refine jj_aload_n C 0 dX7_tick_35 rfl rfl ?_
  refine jj_getr C 0 4 in_Mesh (g_0 n S SD) k_Mesh (by decide) fl_Mesh_46 rfl dX7_tick_36 ?_
  refine jj_callVv C (As := []) (rest := []) (fun z hz => c_Routers_moveAll hz) (q_Mesh_153 C.2.2.2.2.1 (rm := { frames := 3, cells := 0, slots := 0, locals := 120 }) rfl rfl ⟨Nat.le_trans (by decide) hRm.1, Nat.le_trans (by decide) hRm.2⟩) (g_30 n S SD) k_Routers rfl rfl (Nat.le_of_ble_eq_true rfl) dX7_tick_39 (fun σ5 _ => ?_)
  refine jj_aload_n C 0 dX7_tick_42 rfl rfl ?_
  refine jj_getr C 0 4 in_Mesh (g_0 n S SD) k_Mesh (by decide) fl_Mesh_46 rfl dX7_tick_43 ?_
  refine jj_callVv C (As := []) (rest := []) (fun z hz => c_Routers_grantAll hz) (q_Mesh_156 C.2.2.2.2.1 (rm := { frames := 2, cells := 0, slots := 0, locals := 80 }) rfl rfl ⟨Nat.le_trans (by decide) hRm.1, Nat.le_trans (by decide) hRm.2⟩) (g_30 n S SD) k_Routers rfl rfl (Nat.le_of_ble_eq_true rfl) dX7_tick_46 (fun σ6 _ => ?_)
  refine jj_aload_n C 0 dX7_tick_49 rfl rfl ?_
  refine jj_getr C 0 4 in_Mesh (g_0 n S SD) k_Mesh (by decide) fl_Mesh_46 rfl dX7_tick_50 ?_
  refine jj_callVv C (As := []) (rest := []) (fun z hz => c_Routers_routeAll hz) (q_Mesh_159 C.2.2.2.2.1 (rm := { frames := 2, cells := 0, slots := 0, locals := 80 }) rfl rfl ⟨Nat.le_trans (by decide) hRm.1, Nat.le_trans (by decide) hRm.2⟩) (g_30 n S SD) k_Routers rfl rfl (Nat.le_of_ble_eq_true rfl) dX7_tick_53 (fun σ7 _ => ?_)
  exact jj_vret C hr hlocks dX7_tick_56

set_option maxHeartbeats 4000000 in
set_option maxRecDepth 100000 in
theorem l_Mesh_run_25 {p : Program} {l : Launch} {e : Env} {R : Room} {s : State} {m : MethodId} {args : Array Value} {below : List Frame} {meth : Method} {c : Code} {D : va_G} {A : Nat → Prop} {ad : Nat → Nat} {cA : FieldType → ClassId} {n S SD F : Nat} (C : jj_C p R s m args c D vwCl A ad cA (gc n S SD) 4 0 0 cX7_run RX7 jw_t) (hr : meth.sig.returnType = (some .int)) (hlocks : meth.locks = false) (hRm : 5 ≤ R.frames ∧ 200 ≤ R.locals) {K : jj_S → Int32 → Int32 → Int32 → Option (Int32 × jj_S)} (hK : ∀ (σ : jj_S) (x1 x2 x3 : Int32), jj_J p l e R s m args below meth c D vwCl A ad cA (gc n S SD) 4 0 0 (jj_Qi below D vwCl A ad cA (gc n S SD) args s 0 0) (K σ x1 x2 x3) σ 40 [(0, .ref (ad 0)), (1, .int x1), (2, .int x2), (3, .int x3)] []) : ∀ (k : Nat) (σ : jj_S) (x1 x2 x3 : Int32), jj_J p l e R s m args below meth c D vwCl A ad cA (gc n S SD) 4 0 0 (jj_Qi below D vwCl A ad cA (gc n S SD) args s 0 0) (jj_lp3 (b_Mesh_run_25 n S SD F K) k σ x1 x2 x3) σ 25 [(0, .ref (ad 0)), (1, .int x1), (2, .int x2), (3, .int x3)] [] := by
  refine jj_loop3 (T := fun o σ x1 x2 x3 => jj_J p l e R s m args below meth c D vwCl A ad cA (gc n S SD) 4 0 0 (jj_Qi below D vwCl A ad cA (gc n S SD) args s 0 0) o σ 25 [(0, .ref (ad 0)), (1, .int x1), (2, .int x2), (3, .int x3)] []) (fun _ _ _ _ _ h => by cases h) ?_
  intro rec ih σ x1 x2 x3
  unfold b_Mesh_run_25
  refine jj_iload_n C 3 dX7_run_25 rfl rfl ?_
  refine jj_iload_n C 1 dX7_run_26 rfl rfl ?_
  refine jj_icmp_ge C (tgt := 40) dX7_run_27 (by decide) (fun _ => ?_) (fun _ => ?_)
  · refine jj_sub [0, 1, 2, 3] rfl ?_
    exact hK σ x1 x2 x3
  · refine jj_aload_n C 0 dX7_run_30 rfl rfl ?_
    refine jj_callVv C (As := []) (rest := []) (fun z hz => c_Mesh_tick hz) (q_Mesh_93 C.2.2.2.2.1 (rm := { frames := 4, cells := 0, slots := 0, locals := 160 }) rfl rfl ⟨Nat.le_trans (by decide) hRm.1, Nat.le_trans (by decide) hRm.2⟩) (g_0 n S SD) k_Mesh rfl rfl (Nat.le_of_ble_eq_true rfl) dX7_run_31 (fun σ2 _ => ?_)
    refine jj_iinc C (v := x3 + (1 : Int32)) [(3, .int (x3 + (1 : Int32))), (0, .ref (ad 0)), (1, .int x1), (2, .int x2)] 3 dX7_run_34 rfl rfl (by decide) rfl ?_
    refine jj_goto C (tgt := 25) dX7_run_37 (by decide) ?_
    refine jj_sub [1, 2, 3, 0] rfl ?_
    exact ih σ2 x1 x2 (x3 + (1 : Int32))

set_option maxHeartbeats 4000000 in
set_option maxRecDepth 100000 in
theorem c_Mesh_run {l : Launch} {D : va_G} {ad : Nat → Nat} {cA : FieldType → ClassId} {n S SD F : Nat} {σ : jj_S} {a1 : Int32} {z : (Int32 × jj_S)} (ho : f_Mesh_run n S SD F σ a1 = some z) : jj_Mi l yX7_run (Cond.code yX7_run cX7_run 4 (some .int) :: jw_t) { frames := 5, cells := 0, slots := 0, locals := 200 } D vwCl ad cA (gc n S SD) [.ref (ad 0), .int a1] σ z := by
  refine jj_ofi (cc := cX7_run) (nL := 4) (ret := (some .int)) rfl ho (Nat.le_of_ble_eq_true rfl) ?_
  intro p e s m below meth c C hr hlocks
  generalize hA : va_A (jj_w ad cA (gc n S SD) σ) s.heap.size = A at C ⊢
  have hRm : 5 ≤ (headSpec (Cond.code yX7_run cX7_run 4 (some .int) :: jw_t) { frames := 5, cells := 0, slots := 0, locals := 200 }).room.frames ∧ 200 ≤ (headSpec (Cond.code yX7_run cX7_run 4 (some .int) :: jw_t) { frames := 5, cells := 0, slots := 0, locals := 200 }).room.locals := ⟨Nat.le_refl _, Nat.le_refl _⟩
  generalize (headSpec (Cond.code yX7_run cX7_run 4 (some .int) :: jw_t) { frames := 5, cells := 0, slots := 0, locals := 200 }).room = R at C hRm ⊢
  generalize List.toArray ([.ref (ad 0), .int a1] : List Value) = args at C ⊢
  refine jj_sub (lv' := [(0, .ref (ad 0)), (1, .int a1)]) [0, 1] rfl ?_
  unfold f_Mesh_run
  refine jj_iload_n C 1 dX7_run_0 rfl rfl ?_
  refine jj_if_lt C (tgt := 10) dX7_run_1 (by decide) (fun _ => ?_) (fun _ => ?_)
  · refine jj_iconst C (v := (-1 : Int32)) dX7_run_10 (by decide) ?_
    exact jj_iret C hr hlocks dX7_run_11
  · refine jj_iload_n C 1 dX7_run_4 rfl rfl ?_
    refine jj_bipush C (v := (60 : Int32)) dX7_run_5 (by decide) ?_
    refine jj_icmp_le C (tgt := 12) dX7_run_7 (by decide) (fun _ => ?_) (fun _ => ?_)
    · refine jj_aload_n C 0 dX7_run_12 rfl rfl ?_
      refine jj_getr C 0 3 in_Mesh (g_0 n S SD) k_Mesh (by decide) fl_Mesh_39 rfl dX7_run_13 ?_
      refine jj_getr C 16 5 in_Ifs (g_16 n S SD) k_Ifs (by decide) fl_Mesh_84 rfl dX7_run_16 ?_
      refine jj_geti C 17 2 in_Complete (g_17 n S SD) k_Complete (by decide) fl_Mesh_88 rfl dX7_run_19 ?_
      refine jj_ltn (fun v2_1 => ?_)
      refine jj_istore_n C [(2, .int v2_1), (0, .ref (ad 0)), (1, .int a1)] dX7_run_22 rfl (by decide) rfl ?_
      refine jj_iconst C (v := (0 : Int32)) dX7_run_23 (by decide) ?_
      refine jj_istore_n C [(3, .int (0 : Int32)), (2, .int v2_1), (0, .ref (ad 0)), (1, .int a1)] dX7_run_24 rfl (by decide) rfl ?_
      refine jj_sub [2, 3, 1, 0] rfl ?_
      refine l_Mesh_run_25 C hr hlocks hRm (fun σ3 x1_4 x2_5 x3_6 => ?_) F σ a1 v2_1 (0 : Int32)
      refine jj_aload_n C 0 dX7_run_40 rfl rfl ?_
      refine jj_getr C 0 3 in_Mesh (g_0 n S SD) k_Mesh (by decide) fl_Mesh_39 rfl dX7_run_41 ?_
      refine jj_getr C 16 5 in_Ifs (g_16 n S SD) k_Ifs (by decide) fl_Mesh_84 rfl dX7_run_44 ?_
      refine jj_geti C 17 2 in_Complete (g_17 n S SD) k_Complete (by decide) fl_Mesh_88 rfl dX7_run_47 ?_
      refine jj_iload_n C 2 dX7_run_50 rfl rfl ?_
      refine jj_isub C dX7_run_51 ?_
      exact jj_iret C hr hlocks dX7_run_52
    · refine jj_iconst C (v := (-1 : Int32)) dX7_run_10 (by decide) ?_
      exact jj_iret C hr hlocks dX7_run_11

set_option maxHeartbeats 4000000 in
set_option maxRecDepth 100000 in
theorem c_Mesh_ticks {l : Launch} {D : va_G} {ad : Nat → Nat} {cA : FieldType → ClassId} {n S SD F : Nat} {σ : jj_S} {z : (Int32 × jj_S)} (ho : f_Mesh_ticks n S SD F σ = some z) : jj_Mi l yX7_ticks (Cond.code yX7_ticks cX7_ticks 1 (some .int) :: jw_t) { frames := 0, cells := 0, slots := 0, locals := 0 } D vwCl ad cA (gc n S SD) [.ref (ad 0)] σ z := by
  refine jj_ofi (cc := cX7_ticks) (nL := 1) (ret := (some .int)) rfl ho (Nat.le_of_ble_eq_true rfl) ?_
  intro p e s m below meth c C hr hlocks
  generalize hA : va_A (jj_w ad cA (gc n S SD) σ) s.heap.size = A at C ⊢
  have hRm : 0 ≤ (headSpec (Cond.code yX7_ticks cX7_ticks 1 (some .int) :: jw_t) { frames := 0, cells := 0, slots := 0, locals := 0 }).room.frames ∧ 0 ≤ (headSpec (Cond.code yX7_ticks cX7_ticks 1 (some .int) :: jw_t) { frames := 0, cells := 0, slots := 0, locals := 0 }).room.locals := ⟨Nat.le_refl _, Nat.le_refl _⟩
  generalize (headSpec (Cond.code yX7_ticks cX7_ticks 1 (some .int) :: jw_t) { frames := 0, cells := 0, slots := 0, locals := 0 }).room = R at C hRm ⊢
  generalize List.toArray ([.ref (ad 0)] : List Value) = args at C ⊢
  refine jj_sub (lv' := [(0, .ref (ad 0))]) [0] rfl ?_
  unfold f_Mesh_ticks
  refine jj_aload_n C 0 dX7_ticks_0 rfl rfl ?_
  refine jj_geti C 0 5 in_Mesh (g_0 n S SD) k_Mesh (by decide) fl_Mesh_96 rfl dX7_ticks_1 ?_
  exact jj_iret C hr hlocks dX7_ticks_4

set_option maxHeartbeats 4000000 in
set_option maxRecDepth 100000 in
theorem c_Mesh_replies {l : Launch} {D : va_G} {ad : Nat → Nat} {cA : FieldType → ClassId} {n S SD F : Nat} {σ : jj_S} {z : (Int32 × jj_S)} (ho : f_Mesh_replies n S SD F σ = some z) : jj_Mi l yX7_replies (Cond.code yX7_replies cX7_replies 1 (some .int) :: jw_t) { frames := 0, cells := 0, slots := 0, locals := 0 } D vwCl ad cA (gc n S SD) [.ref (ad 0)] σ z := by
  refine jj_ofi (cc := cX7_replies) (nL := 1) (ret := (some .int)) rfl ho (Nat.le_of_ble_eq_true rfl) ?_
  intro p e s m below meth c C hr hlocks
  generalize hA : va_A (jj_w ad cA (gc n S SD) σ) s.heap.size = A at C ⊢
  have hRm : 0 ≤ (headSpec (Cond.code yX7_replies cX7_replies 1 (some .int) :: jw_t) { frames := 0, cells := 0, slots := 0, locals := 0 }).room.frames ∧ 0 ≤ (headSpec (Cond.code yX7_replies cX7_replies 1 (some .int) :: jw_t) { frames := 0, cells := 0, slots := 0, locals := 0 }).room.locals := ⟨Nat.le_refl _, Nat.le_refl _⟩
  generalize (headSpec (Cond.code yX7_replies cX7_replies 1 (some .int) :: jw_t) { frames := 0, cells := 0, slots := 0, locals := 0 }).room = R at C hRm ⊢
  generalize List.toArray ([.ref (ad 0)] : List Value) = args at C ⊢
  refine jj_sub (lv' := [(0, .ref (ad 0))]) [0] rfl ?_
  unfold f_Mesh_replies
  refine jj_aload_n C 0 dX7_replies_0 rfl rfl ?_
  refine jj_getr C 0 3 in_Mesh (g_0 n S SD) k_Mesh (by decide) fl_Mesh_39 rfl dX7_replies_1 ?_
  refine jj_getr C 16 5 in_Ifs (g_16 n S SD) k_Ifs (by decide) fl_Mesh_84 rfl dX7_replies_4 ?_
  refine jj_geti C 17 2 in_Complete (g_17 n S SD) k_Complete (by decide) fl_Mesh_88 rfl dX7_replies_7 ?_
  exact jj_iret C hr hlocks dX7_replies_10

set_option maxHeartbeats 4000000 in
set_option maxRecDepth 100000 in
theorem c_Mesh_reply {l : Launch} {D : va_G} {ad : Nat → Nat} {cA : FieldType → ClassId} {n S SD F : Nat} {σ : jj_S} {a1 a2 : Int32} {z : (Int32 × jj_S)} (ho : f_Mesh_reply n S SD F σ a1 a2 = some z) : jj_Mi l yX7_reply (Cond.code yX7_reply cX7_reply 4 (some .int) :: jw_t) { frames := 0, cells := 0, slots := 0, locals := 0 } D vwCl ad cA (gc n S SD) [.ref (ad 0), .int a1, .int a2] σ z := by
  refine jj_ofi (cc := cX7_reply) (nL := 4) (ret := (some .int)) rfl ho (Nat.le_of_ble_eq_true rfl) ?_
  intro p e s m below meth c C hr hlocks
  generalize hA : va_A (jj_w ad cA (gc n S SD) σ) s.heap.size = A at C ⊢
  have hRm : 0 ≤ (headSpec (Cond.code yX7_reply cX7_reply 4 (some .int) :: jw_t) { frames := 0, cells := 0, slots := 0, locals := 0 }).room.frames ∧ 0 ≤ (headSpec (Cond.code yX7_reply cX7_reply 4 (some .int) :: jw_t) { frames := 0, cells := 0, slots := 0, locals := 0 }).room.locals := ⟨Nat.le_refl _, Nat.le_refl _⟩
  generalize (headSpec (Cond.code yX7_reply cX7_reply 4 (some .int) :: jw_t) { frames := 0, cells := 0, slots := 0, locals := 0 }).room = R at C hRm ⊢
  generalize List.toArray ([.ref (ad 0), .int a1, .int a2] : List Value) = args at C ⊢
  refine jj_sub (lv' := [(0, .ref (ad 0)), (1, .int a1), (2, .int a2)]) [0, 1, 2] rfl ?_
  unfold f_Mesh_reply
  refine jj_aload_n C 0 dX7_reply_0 rfl rfl ?_
  refine jj_getr C 0 3 in_Mesh (g_0 n S SD) k_Mesh (by decide) fl_Mesh_39 rfl dX7_reply_1 ?_
  refine jj_getr C 16 5 in_Ifs (g_16 n S SD) k_Ifs (by decide) fl_Mesh_84 rfl dX7_reply_4 ?_
  refine jj_astore_n C [(3, .ref (ad 17)), (0, .ref (ad 0)), (1, .int a1), (2, .int a2)] dX7_reply_7 rfl (by decide) rfl ?_
  refine jj_iload_n C 2 dX7_reply_8 rfl rfl ?_
  refine jj_if_lt C (tgt := 20) dX7_reply_9 (by decide) (fun _ => ?_) (fun _ => ?_)
  · refine jj_iconst C (v := (-1 : Int32)) dX7_reply_20 (by decide) ?_
    exact jj_iret C hr hlocks dX7_reply_21
  · refine jj_iload_n C 2 dX7_reply_12 rfl rfl ?_
    refine jj_aload_n C 0 dX7_reply_13 rfl rfl ?_
    refine jj_geti C 17 2 in_Complete (g_17 n S SD) k_Complete (by decide) fl_Mesh_88 rfl dX7_reply_14 ?_
    refine jj_icmp_lt C (tgt := 22) dX7_reply_17 (by decide) (fun _ => ?_) (fun _ => ?_)
    · refine jj_iload_n C 3 dX7_reply_22 rfl rfl ?_
      refine jj_by (fun hx => ?_) (fun hx0 => ?_)
      · refine jj_tsi C (v := (0 : Int32)) (tgt := 48) dX7_reply_23 hx (by decide) (by decide) rfl (by decide) ?_
        refine jj_aload_n C 0 dX7_reply_48 rfl rfl ?_
        refine jj_getr C 17 0 in_Complete (g_17 n S SD) k_Complete (by decide) fl_Mesh_99 rfl dX7_reply_49 ?_
        refine jj_iload_n C 2 dX7_reply_52 rfl rfl ?_
        refine jj_iald C 18 (g_18 n S SD) dX7_reply_53 ?_
        exact jj_iret C hr hlocks dX7_reply_54
      refine jj_by (fun hx => ?_) (fun hx1 => ?_)
      · refine jj_tsi C (v := (1 : Int32)) (tgt := 55) dX7_reply_23 hx (by decide) (by decide) rfl (by decide) ?_
        refine jj_aload_n C 1 dX7_reply_55 rfl rfl ?_
        refine jj_getr C 0 2 in_Mesh (g_0 n S SD) k_Mesh (by decide) fl_Mesh_30 rfl dX7_reply_56 ?_
        refine jj_getr C 10 5 in_Packets (g_10 n S SD) k_Packets (by decide) fl_Mesh_103 rfl dX7_reply_59 ?_
        refine jj_aload_n C 0 dX7_reply_62 rfl rfl ?_
        refine jj_getr C 17 0 in_Complete (g_17 n S SD) k_Complete (by decide) fl_Mesh_99 rfl dX7_reply_63 ?_
        refine jj_iload_n C 2 dX7_reply_66 rfl rfl ?_
        refine jj_iald C 18 (g_18 n S SD) dX7_reply_67 ?_
        refine jj_iald C 15 (g_15 n S SD) dX7_reply_68 ?_
        exact jj_iret C hr hlocks dX7_reply_69
      refine jj_by (fun hx => ?_) (fun hx2 => ?_)
      · refine jj_tsi C (v := (2 : Int32)) (tgt := 70) dX7_reply_23 hx (by decide) (by decide) rfl (by decide) ?_
        refine jj_aload_n C 0 dX7_reply_70 rfl rfl ?_
        refine jj_getr C 17 1 in_Complete (g_17 n S SD) k_Complete (by decide) fl_Mesh_106 rfl dX7_reply_71 ?_
        refine jj_iload_n C 2 dX7_reply_74 rfl rfl ?_
        refine jj_iald C 19 (g_19 n S SD) dX7_reply_75 ?_
        exact jj_iret C hr hlocks dX7_reply_76
      refine jj_tso C (tgt := 77) dX7_reply_23 (fun j h1 h2 e1 => by rcases (show j = 0 ∨ j = 1 ∨ j = 2 by omega) with rfl | rfl | rfl <;> first | exact hx0 (Int32.toInt_inj.mp e1) | exact hx1 (Int32.toInt_inj.mp e1) | exact hx2 (Int32.toInt_inj.mp e1)) (by decide) ?_
      refine jj_iconst C (v := (-1 : Int32)) dX7_reply_77 (by decide) ?_
      exact jj_iret C hr hlocks dX7_reply_78
    · refine jj_iconst C (v := (-1 : Int32)) dX7_reply_20 (by decide) ?_
      exact jj_iret C hr hlocks dX7_reply_21
end
section
set_option maxHeartbeats 4000000 in
set_option maxRecDepth 100000 in
theorem c_Mesh_memory {l : Launch} {D : va_G} {ad : Nat → Nat} {cA : FieldType → ClassId} {n S SD F : Nat} {σ : jj_S} {a1 a2 : Int32} {z : (Int32 × jj_S)} (ho : f_Mesh_memory n S SD F σ a1 a2 = some z) : jj_Mi l yX7_memory (Cond.code yX7_memory cX7_memory 3 (some .int) :: jw_t) { frames := 1, cells := 0, slots := 0, locals := 40 } D vwCl ad cA (gc n S SD) [.ref (ad 0), .int a1, .int a2] σ z := by
  refine jj_ofi (cc := cX7_memory) (nL := 3) (ret := (some .int)) rfl ho (Nat.le_of_ble_eq_true rfl) ?_
  intro p e s m below meth c C hr hlocks
  generalize hA : va_A (jj_w ad cA (gc n S SD) σ) s.heap.size = A at C ⊢
  have hRm : 1 ≤ (headSpec (Cond.code yX7_memory cX7_memory 3 (some .int) :: jw_t) { frames := 1, cells := 0, slots := 0, locals := 40 }).room.frames ∧ 40 ≤ (headSpec (Cond.code yX7_memory cX7_memory 3 (some .int) :: jw_t) { frames := 1, cells := 0, slots := 0, locals := 40 }).room.locals := ⟨Nat.le_refl _, Nat.le_refl _⟩
  generalize (headSpec (Cond.code yX7_memory cX7_memory 3 (some .int) :: jw_t) { frames := 1, cells := 0, slots := 0, locals := 40 }).room = R at C hRm ⊢
  generalize List.toArray ([.ref (ad 0), .int a1, .int a2] : List Value) = args at C ⊢
  refine jj_sub (lv' := [(0, .ref (ad 0)), (1, .int a1), (2, .int a2)]) [0, 1, 2] rfl ?_
  unfold f_Mesh_memory
  refine jj_aload_n C 0 dX7_memory_0 rfl rfl ?_
  refine jj_getr C 0 0 in_Mesh (g_0 n S SD) k_Mesh (by decide) fl_Mesh_12 rfl dX7_memory_1 ?_
  refine jj_iload_n C 1 dX7_memory_4 rfl rfl ?_
  refine jj_callVi C (As := [.int a1]) (rest := []) (fun z hz => c_Grid_hasNode hz) (q_Mesh_54 C.2.2.2.2.1 (rm := { frames := 0, cells := 0, slots := 0, locals := 0 }) rfl rfl ⟨Nat.le_trans (by decide) hRm.1, Nat.le_trans (by decide) hRm.2⟩) (g_1 n S SD) k_Grid rfl rfl (Nat.le_of_ble_eq_true rfl) dX7_memory_5 (fun r2 σ1 _ => ?_)
  refine jj_if_eq C (tgt := 18) dX7_memory_8 (by decide) (fun _ => ?_) (fun _ => ?_)
  · refine jj_iconst C (v := (0 : Int32)) dX7_memory_18 (by decide) ?_
    exact jj_iret C hr hlocks dX7_memory_19
  · refine jj_iload_n C 2 dX7_memory_11 rfl rfl ?_
    refine jj_callSi C (As := [.int a2]) (rest := []) (fun z hz => c_Mesh_isWord hz) (q_Mesh_58 C.2.2.2.2.1 (rm := { frames := 0, cells := 0, slots := 0, locals := 0 }) rfl rfl ⟨Nat.le_trans (by decide) hRm.1, Nat.le_trans (by decide) hRm.2⟩) rfl rfl (Nat.le_of_ble_eq_true rfl) dX7_memory_12 (fun r4 σ3 _ => ?_)
    refine jj_if_ne C (tgt := 20) dX7_memory_15 (by decide) (fun _ => ?_) (fun _ => ?_)
    · refine jj_aload_n C 0 dX7_memory_20 rfl rfl ?_
      refine jj_getr C 0 3 in_Mesh (g_0 n S SD) k_Mesh (by decide) fl_Mesh_39 rfl dX7_memory_21 ?_
      refine jj_getr C 16 6 in_Ifs (g_16 n S SD) k_Ifs (by decide) fl_Mesh_108 rfl dX7_memory_24 ?_
      refine jj_iload_n C 1 dX7_memory_27 rfl rfl ?_
      refine jj_bipush C (v := (8 : Int32)) dX7_memory_28 (by decide) ?_
      refine jj_imul C dX7_memory_30 ?_
      refine jj_iload_n C 2 dX7_memory_31 rfl rfl ?_
      refine jj_iadd C dX7_memory_32 ?_
      refine jj_iald C 28 (g_28 n S SD) dX7_memory_33 ?_
      exact jj_iret C hr hlocks dX7_memory_34
    · refine jj_iconst C (v := (0 : Int32)) dX7_memory_18 (by decide) ?_
      exact jj_iret C hr hlocks dX7_memory_19

set_option maxHeartbeats 4000000 in
set_option maxRecDepth 100000 in
theorem c_Mesh_waiting {l : Launch} {D : va_G} {ad : Nat → Nat} {cA : FieldType → ClassId} {n S SD F : Nat} {σ : jj_S} {a1 : Int32} {z : (Int32 × jj_S)} (ho : f_Mesh_waiting n S SD F σ a1 = some z) : jj_Mi l yX7_waiting (Cond.code yX7_waiting cX7_waiting 2 (some .int) :: jw_t) { frames := 1, cells := 0, slots := 0, locals := 40 } D vwCl ad cA (gc n S SD) [.ref (ad 0), .int a1] σ z := by
  refine jj_ofi (cc := cX7_waiting) (nL := 2) (ret := (some .int)) rfl ho (Nat.le_of_ble_eq_true rfl) ?_
  intro p e s m below meth c C hr hlocks
  generalize hA : va_A (jj_w ad cA (gc n S SD) σ) s.heap.size = A at C ⊢
  have hRm : 1 ≤ (headSpec (Cond.code yX7_waiting cX7_waiting 2 (some .int) :: jw_t) { frames := 1, cells := 0, slots := 0, locals := 40 }).room.frames ∧ 40 ≤ (headSpec (Cond.code yX7_waiting cX7_waiting 2 (some .int) :: jw_t) { frames := 1, cells := 0, slots := 0, locals := 40 }).room.locals := ⟨Nat.le_refl _, Nat.le_refl _⟩
  generalize (headSpec (Cond.code yX7_waiting cX7_waiting 2 (some .int) :: jw_t) { frames := 1, cells := 0, slots := 0, locals := 40 }).room = R at C hRm ⊢
  generalize List.toArray ([.ref (ad 0), .int a1] : List Value) = args at C ⊢
  refine jj_sub (lv' := [(0, .ref (ad 0)), (1, .int a1)]) [0, 1] rfl ?_
  unfold f_Mesh_waiting
  refine jj_aload_n C 0 dX7_waiting_0 rfl rfl ?_
  refine jj_getr C 0 0 in_Mesh (g_0 n S SD) k_Mesh (by decide) fl_Mesh_12 rfl dX7_waiting_1 ?_
  refine jj_iload_n C 1 dX7_waiting_4 rfl rfl ?_
  refine jj_callVi C (As := [.int a1]) (rest := []) (fun z hz => c_Grid_hasNode hz) (q_Mesh_54 C.2.2.2.2.1 (rm := { frames := 0, cells := 0, slots := 0, locals := 0 }) rfl rfl ⟨Nat.le_trans (by decide) hRm.1, Nat.le_trans (by decide) hRm.2⟩) (g_1 n S SD) k_Grid rfl rfl (Nat.le_of_ble_eq_true rfl) dX7_waiting_5 (fun r2 σ1 _ => ?_)
  refine jj_if_ne C (tgt := 13) dX7_waiting_8 (by decide) (fun _ => ?_) (fun _ => ?_)
  · refine jj_aload_n C 0 dX7_waiting_13 rfl rfl ?_
    refine jj_getr C 0 3 in_Mesh (g_0 n S SD) k_Mesh (by decide) fl_Mesh_39 rfl dX7_waiting_14 ?_
    refine jj_getr C 16 3 in_Ifs (g_16 n S SD) k_Ifs (by decide) fl_Mesh_61 rfl dX7_waiting_17 ?_
    refine jj_getr C 20 3 in_Queues (g_20 n S SD) k_Queues (by decide) fl_Mesh_111 rfl dX7_waiting_20 ?_
    refine jj_iload_n C 1 dX7_waiting_23 rfl rfl ?_
    refine jj_iald C 22 (g_22 n S SD) dX7_waiting_24 ?_
    refine jj_bipush C (v := (8 : Int32)) dX7_waiting_25 (by decide) ?_
    refine jj_aload_n C 0 dX7_waiting_27 rfl rfl ?_
    refine jj_getr C 0 3 in_Mesh (g_0 n S SD) k_Mesh (by decide) fl_Mesh_39 rfl dX7_waiting_28 ?_
    refine jj_getr C 16 4 in_Ifs (g_16 n S SD) k_Ifs (by decide) fl_Mesh_113 rfl dX7_waiting_31 ?_
    refine jj_getr C 24 3 in_Queues (g_24 n S SD) k_Queues (by decide) fl_Mesh_111 rfl dX7_waiting_34 ?_
    refine jj_iload_n C 1 dX7_waiting_37 rfl rfl ?_
    refine jj_iald C 26 (g_26 n S SD) dX7_waiting_38 ?_
    refine jj_imul C dX7_waiting_39 ?_
    refine jj_iadd C dX7_waiting_40 ?_
    exact jj_iret C hr hlocks dX7_waiting_41
  · refine jj_iconst C (v := (-1 : Int32)) dX7_waiting_11 (by decide) ?_
    exact jj_iret C hr hlocks dX7_waiting_12

set_option maxHeartbeats 4000000 in
set_option maxRecDepth 100000 in
theorem c_Grid_hasChannel {l : Launch} {D : va_G} {ad : Nat → Nat} {cA : FieldType → ClassId} {n S SD F : Nat} {σ : jj_S} {a1 : Int32} {z : (Int32 × jj_S)} (ho : f_Grid_hasChannel n S SD F σ a1 = some z) : jj_Mi l yX1_hasChannel (Cond.code yX1_hasChannel cX1_hasChannel 2 (some .boolean) :: jw_t) { frames := 0, cells := 0, slots := 0, locals := 0 } D vwCl ad cA (gc n S SD) [.ref (ad 1), .int a1] σ z := by
  refine jj_ofi (cc := cX1_hasChannel) (nL := 2) (ret := (some .boolean)) rfl ho (Nat.le_of_ble_eq_true rfl) ?_
  intro p e s m below meth c C hr hlocks
  generalize hA : va_A (jj_w ad cA (gc n S SD) σ) s.heap.size = A at C ⊢
  have hRm : 0 ≤ (headSpec (Cond.code yX1_hasChannel cX1_hasChannel 2 (some .boolean) :: jw_t) { frames := 0, cells := 0, slots := 0, locals := 0 }).room.frames ∧ 0 ≤ (headSpec (Cond.code yX1_hasChannel cX1_hasChannel 2 (some .boolean) :: jw_t) { frames := 0, cells := 0, slots := 0, locals := 0 }).room.locals := ⟨Nat.le_refl _, Nat.le_refl _⟩
  generalize (headSpec (Cond.code yX1_hasChannel cX1_hasChannel 2 (some .boolean) :: jw_t) { frames := 0, cells := 0, slots := 0, locals := 0 }).room = R at C hRm ⊢
  generalize List.toArray ([.ref (ad 1), .int a1] : List Value) = args at C ⊢
  refine jj_sub (lv' := [(0, .ref (ad 1)), (1, .int a1)]) [0, 1] rfl ?_
  unfold f_Grid_hasChannel
  refine jj_iload_n C 1 dX1_hasChannel_0 rfl rfl ?_
  refine jj_if_lt C (tgt := 16) dX1_hasChannel_1 (by decide) (fun _ => ?_) (fun _ => ?_)
  · refine jj_iconst C (v := (0 : Int32)) dX1_hasChannel_16 (by decide) ?_
    exact jj_zret C hr hlocks (by first | rfl | decide +kernel) dX1_hasChannel_17
  · refine jj_iload_n C 1 dX1_hasChannel_4 rfl rfl ?_
    refine jj_aload_n C 0 dX1_hasChannel_5 rfl rfl ?_
    refine jj_geti C 1 4 in_Grid (g_1 n S SD) k_Grid (by decide) fl_Grid_28 rfl dX1_hasChannel_6 ?_
    refine jj_icmp_ge C (tgt := 16) dX1_hasChannel_9 (by decide) (fun _ => ?_) (fun _ => ?_)
    · refine jj_iconst C (v := (0 : Int32)) dX1_hasChannel_16 (by decide) ?_
      exact jj_zret C hr hlocks (by first | rfl | decide +kernel) dX1_hasChannel_17
    · refine jj_iconst C (v := (1 : Int32)) dX1_hasChannel_12 (by decide) ?_
      refine jj_goto C (tgt := 17) dX1_hasChannel_13 (by decide) ?_
      exact jj_zret C hr hlocks (by first | rfl | decide +kernel) dX1_hasChannel_17

set_option maxHeartbeats 4000000 in
set_option maxRecDepth 100000 in
theorem c_Mesh_isRouterPlace {l : Launch} {D : va_G} {ad : Nat → Nat} {cA : FieldType → ClassId} {n S SD F : Nat} {σ : jj_S} {a1 a2 a3 : Int32} {z : (Int32 × jj_S)} (ho : f_Mesh_isRouterPlace n S SD F σ a1 a2 a3 = some z) : jj_Mi l yX7_isRouterPlace (Cond.code yX7_isRouterPlace cX7_isRouterPlace 4 (some .boolean) :: jw_t) { frames := 1, cells := 0, slots := 0, locals := 40 } D vwCl ad cA (gc n S SD) [.ref (ad 0), .int a1, .int a2, .int a3] σ z := by
  refine jj_ofi (cc := cX7_isRouterPlace) (nL := 4) (ret := (some .boolean)) rfl ho (Nat.le_of_ble_eq_true rfl) ?_
  intro p e s m below meth c C hr hlocks
  generalize hA : va_A (jj_w ad cA (gc n S SD) σ) s.heap.size = A at C ⊢
  have hRm : 1 ≤ (headSpec (Cond.code yX7_isRouterPlace cX7_isRouterPlace 4 (some .boolean) :: jw_t) { frames := 1, cells := 0, slots := 0, locals := 40 }).room.frames ∧ 40 ≤ (headSpec (Cond.code yX7_isRouterPlace cX7_isRouterPlace 4 (some .boolean) :: jw_t) { frames := 1, cells := 0, slots := 0, locals := 40 }).room.locals := ⟨Nat.le_refl _, Nat.le_refl _⟩
  generalize (headSpec (Cond.code yX7_isRouterPlace cX7_isRouterPlace 4 (some .boolean) :: jw_t) { frames := 1, cells := 0, slots := 0, locals := 40 }).room = R at C hRm ⊢
  generalize List.toArray ([.ref (ad 0), .int a1, .int a2, .int a3] : List Value) = args at C ⊢
  refine jj_sub (lv' := [(0, .ref (ad 0)), (1, .int a1), (2, .int a2), (3, .int a3)]) [0, 1, 2, 3] rfl ?_
  unfold f_Mesh_isRouterPlace
  refine jj_aload_n C 0 dX7_isRouterPlace_0 rfl rfl ?_
  refine jj_getr C 0 0 in_Mesh (g_0 n S SD) k_Mesh (by decide) fl_Mesh_12 rfl dX7_isRouterPlace_1 ?_
  refine jj_iload_n C 1 dX7_isRouterPlace_4 rfl rfl ?_
  refine jj_callVi C (As := [.int a1]) (rest := []) (fun z hz => c_Grid_hasNode hz) (q_Mesh_54 C.2.2.2.2.1 (rm := { frames := 0, cells := 0, slots := 0, locals := 0 }) rfl rfl ⟨Nat.le_trans (by decide) hRm.1, Nat.le_trans (by decide) hRm.2⟩) (g_1 n S SD) k_Grid rfl rfl (Nat.le_of_ble_eq_true rfl) dX7_isRouterPlace_5 (fun r2 σ1 _ => ?_)
  refine jj_if_eq C (tgt := 35) dX7_isRouterPlace_8 (by decide) (fun _ => ?_) (fun _ => ?_)
  · refine jj_iconst C (v := (0 : Int32)) dX7_isRouterPlace_35 (by decide) ?_
    exact jj_zret C hr hlocks (by first | rfl | decide +kernel) dX7_isRouterPlace_36
  · refine jj_iload_n C 2 dX7_isRouterPlace_11 rfl rfl ?_
    refine jj_if_lt C (tgt := 35) dX7_isRouterPlace_12 (by decide) (fun _ => ?_) (fun _ => ?_)
    · refine jj_iconst C (v := (0 : Int32)) dX7_isRouterPlace_35 (by decide) ?_
      exact jj_zret C hr hlocks (by first | rfl | decide +kernel) dX7_isRouterPlace_36
    · refine jj_iload_n C 2 dX7_isRouterPlace_15 rfl rfl ?_
      refine jj_iconst C (v := (5 : Int32)) dX7_isRouterPlace_16 (by decide) ?_
      refine jj_icmp_ge C (tgt := 35) dX7_isRouterPlace_17 (by decide) (fun _ => ?_) (fun _ => ?_)
      · refine jj_iconst C (v := (0 : Int32)) dX7_isRouterPlace_35 (by decide) ?_
        exact jj_zret C hr hlocks (by first | rfl | decide +kernel) dX7_isRouterPlace_36
      · refine jj_aload_n C 0 dX7_isRouterPlace_20 rfl rfl ?_
        refine jj_getr C 0 0 in_Mesh (g_0 n S SD) k_Mesh (by decide) fl_Mesh_12 rfl dX7_isRouterPlace_21 ?_
        refine jj_iload_n C 3 dX7_isRouterPlace_24 rfl rfl ?_
        refine jj_callVi C (As := [.int a3]) (rest := []) (fun z hz => c_Grid_hasChannel hz) (q_Mesh_137 C.2.2.2.2.1 (rm := { frames := 0, cells := 0, slots := 0, locals := 0 }) rfl rfl ⟨Nat.le_trans (by decide) hRm.1, Nat.le_trans (by decide) hRm.2⟩) (g_1 n S SD) k_Grid rfl rfl (Nat.le_of_ble_eq_true rfl) dX7_isRouterPlace_25 (fun r4 σ3 _ => ?_)
        refine jj_if_eq C (tgt := 35) dX7_isRouterPlace_28 (by decide) (fun _ => ?_) (fun _ => ?_)
        · refine jj_iconst C (v := (0 : Int32)) dX7_isRouterPlace_35 (by decide) ?_
          exact jj_zret C hr hlocks (by first | rfl | decide +kernel) dX7_isRouterPlace_36
        · refine jj_iconst C (v := (1 : Int32)) dX7_isRouterPlace_31 (by decide) ?_
          refine jj_goto C (tgt := 36) dX7_isRouterPlace_32 (by decide) ?_
          exact jj_zret C hr hlocks (by first | rfl | decide +kernel) dX7_isRouterPlace_36

set_option maxHeartbeats 4000000 in
set_option maxRecDepth 100000 in
theorem c_Mesh_lane {l : Launch} {D : va_G} {ad : Nat → Nat} {cA : FieldType → ClassId} {n S SD F : Nat} {σ : jj_S} {a1 a2 a3 : Int32} {z : (Int32 × jj_S)} (ho : f_Mesh_lane n S SD F σ a1 a2 a3 = some z) : jj_Mi l yX7_lane (Cond.code yX7_lane cX7_lane 7 (some .int) :: jw_t) { frames := 2, cells := 0, slots := 0, locals := 80 } D vwCl ad cA (gc n S SD) [.ref (ad 0), .int a1, .int a2, .int a3] σ z := by
  refine jj_ofi (cc := cX7_lane) (nL := 7) (ret := (some .int)) rfl ho (Nat.le_of_ble_eq_true rfl) ?_
  intro p e s m below meth c C hr hlocks
  generalize hA : va_A (jj_w ad cA (gc n S SD) σ) s.heap.size = A at C ⊢
  have hRm : 2 ≤ (headSpec (Cond.code yX7_lane cX7_lane 7 (some .int) :: jw_t) { frames := 2, cells := 0, slots := 0, locals := 80 }).room.frames ∧ 80 ≤ (headSpec (Cond.code yX7_lane cX7_lane 7 (some .int) :: jw_t) { frames := 2, cells := 0, slots := 0, locals := 80 }).room.locals := ⟨Nat.le_refl _, Nat.le_refl _⟩
  generalize (headSpec (Cond.code yX7_lane cX7_lane 7 (some .int) :: jw_t) { frames := 2, cells := 0, slots := 0, locals := 80 }).room = R at C hRm ⊢
  generalize List.toArray ([.ref (ad 0), .int a1, .int a2, .int a3] : List Value) = args at C ⊢
  refine jj_sub (lv' := [(0, .ref (ad 0)), (1, .int a1), (2, .int a2), (3, .int a3)]) [0, 1, 2, 3] rfl ?_
  unfold f_Mesh_lane
  refine jj_aload_n C 0 dX7_lane_0 rfl rfl ?_
  refine jj_iload_n C 1 dX7_lane_1 rfl rfl ?_
  refine jj_iload_n C 2 dX7_lane_2 rfl rfl ?_
  refine jj_iload_n C 3 dX7_lane_3 rfl rfl ?_
  refine jj_callVi C (As := [.int a1, .int a2, .int a3]) (rest := []) (fun z hz => c_Mesh_isRouterPlace hz) (q_Mesh_116 C.2.2.2.2.1 (rm := { frames := 1, cells := 0, slots := 0, locals := 40 }) rfl rfl ⟨Nat.le_trans (by decide) hRm.1, Nat.le_trans (by decide) hRm.2⟩) (g_0 n S SD) k_Mesh rfl rfl (Nat.le_of_ble_eq_true rfl) dX7_lane_4 (fun r2 σ1 _ => ?_)
  refine jj_if_ne C (tgt := 12) dX7_lane_7 (by decide) (fun _ => ?_) (fun _ => ?_)
  · refine jj_aload_n C 0 dX7_lane_12 rfl rfl ?_
    refine jj_getr C 0 0 in_Mesh (g_0 n S SD) k_Mesh (by decide) fl_Mesh_12 rfl dX7_lane_13 ?_
    refine jj_iload_n C 1 dX7_lane_16 rfl rfl ?_
    refine jj_iload_n C 2 dX7_lane_17 rfl rfl ?_
    refine jj_iload_n C 3 dX7_lane_18 rfl rfl ?_
    refine jj_callVi C (As := [.int a1, .int a2, .int a3]) (rest := []) (fun z hz => c_Grid_slot hz) (q_Mesh_120 C.2.2.2.2.1 (rm := { frames := 0, cells := 0, slots := 0, locals := 0 }) rfl rfl ⟨Nat.le_trans (by decide) hRm.1, Nat.le_trans (by decide) hRm.2⟩) (g_1 n S SD) k_Grid rfl rfl (Nat.le_of_ble_eq_true rfl) dX7_lane_19 (fun r4 σ3 _ => ?_)
    refine jj_istore C [(4, .int r4), (0, .ref (ad 0)), (1, .int a1), (2, .int a2), (3, .int a3)] dX7_lane_22 (by decide) rfl ?_
    refine jj_aload_n C 1 dX7_lane_24 rfl rfl ?_
    refine jj_getr C 0 4 in_Mesh (g_0 n S SD) k_Mesh (by decide) fl_Mesh_46 rfl dX7_lane_25 ?_
    refine jj_getr C 30 3 in_Routers (g_30 n S SD) k_Routers (by decide) fl_Mesh_124 rfl dX7_lane_28 ?_
    refine jj_iload C 0 dX7_lane_31 rfl ?_
    refine jj_iald C 32 (g_32 n S SD) dX7_lane_33 ?_
    refine jj_ltn (fun v5_5 => ?_)
    refine jj_istore C [(5, .int v5_5), (4, .int r4), (0, .ref (ad 0)), (1, .int a1), (2, .int a2), (3, .int a3)] dX7_lane_34 (by decide) rfl ?_
    refine jj_iload C 0 dX7_lane_36 rfl ?_
    refine jj_if_ne C (tgt := 45) dX7_lane_38 (by decide) (fun _ => ?_) (fun _ => ?_)
    · refine jj_aload_n C 2 dX7_lane_45 rfl rfl ?_
      refine jj_getr C 0 4 in_Mesh (g_0 n S SD) k_Mesh (by decide) fl_Mesh_46 rfl dX7_lane_46 ?_
      refine jj_getr C 30 4 in_Routers (g_30 n S SD) k_Routers (by decide) fl_Mesh_127 rfl dX7_lane_49 ?_
      refine jj_iload C 1 dX7_lane_52 rfl ?_
      refine jj_iald C 33 (g_33 n S SD) dX7_lane_54 ?_
      refine jj_ltn (fun v6_6 => ?_)
      refine jj_istore C [(6, .int v6_6), (5, .int v5_5), (4, .int r4), (0, .ref (ad 0)), (1, .int a1), (2, .int a2), (3, .int a3)] dX7_lane_55 (by decide) rfl ?_
      refine jj_aload_n C 3 dX7_lane_57 rfl rfl ?_
      refine jj_getr C 0 1 in_Mesh (g_0 n S SD) k_Mesh (by decide) fl_Mesh_23 rfl dX7_lane_58 ?_
      refine jj_getr C 2 4 in_Links (g_2 n S SD) k_Links (by decide) fl_Mesh_130 rfl dX7_lane_61 ?_
      refine jj_iload C 2 dX7_lane_64 rfl ?_
      refine jj_iald C 6 (g_6 n S SD) dX7_lane_66 ?_
      refine jj_bipush C (v := (8 : Int32)) dX7_lane_67 (by decide) ?_
      refine jj_iload C 1 dX7_lane_69 rfl ?_
      refine jj_imul C dX7_lane_71 ?_
      refine jj_iadd C dX7_lane_72 ?_
      refine jj_bipush C (v := (64 : Int32)) dX7_lane_73 (by decide) ?_
      refine jj_iload C 0 dX7_lane_75 rfl ?_
      refine jj_imul C dX7_lane_77 ?_
      refine jj_iadd C dX7_lane_78 ?_
      exact jj_iret C hr hlocks dX7_lane_79
    · refine jj_iconst C (v := (0 : Int32)) dX7_lane_41 (by decide) ?_
      refine jj_goto C (tgt := 55) dX7_lane_42 (by decide) ?_
      refine jj_istore C [(6, .int (0 : Int32)), (5, .int v5_5), (4, .int r4), (0, .ref (ad 0)), (1, .int a1), (2, .int a2), (3, .int a3)] dX7_lane_55 (by decide) rfl ?_
      refine jj_aload_n C 3 dX7_lane_57 rfl rfl ?_
      refine jj_getr C 0 1 in_Mesh (g_0 n S SD) k_Mesh (by decide) fl_Mesh_23 rfl dX7_lane_58 ?_
      refine jj_getr C 2 4 in_Links (g_2 n S SD) k_Links (by decide) fl_Mesh_130 rfl dX7_lane_61 ?_
      refine jj_iload C 2 dX7_lane_64 rfl ?_
      refine jj_iald C 6 (g_6 n S SD) dX7_lane_66 ?_
      refine jj_bipush C (v := (8 : Int32)) dX7_lane_67 (by decide) ?_
      refine jj_iload C 1 dX7_lane_69 rfl ?_
      refine jj_imul C dX7_lane_71 ?_
      refine jj_iadd C dX7_lane_72 ?_
      refine jj_bipush C (v := (64 : Int32)) dX7_lane_73 (by decide) ?_
      refine jj_iload C 0 dX7_lane_75 rfl ?_
      refine jj_imul C dX7_lane_77 ?_
      refine jj_iadd C dX7_lane_78 ?_
      exact jj_iret C hr hlocks dX7_lane_79
  · refine jj_iconst C (v := (-1 : Int32)) dX7_lane_10 (by decide) ?_
    exact jj_iret C hr hlocks dX7_lane_11

set_option maxHeartbeats 4000000 in
set_option maxRecDepth 100000 in
theorem c_Mesh_output {l : Launch} {D : va_G} {ad : Nat → Nat} {cA : FieldType → ClassId} {n S SD F : Nat} {σ : jj_S} {a1 a2 a3 : Int32} {z : (Int32 × jj_S)} (ho : f_Mesh_output n S SD F σ a1 a2 a3 = some z) : jj_Mi l yX7_output (Cond.code yX7_output cX7_output 5 (some .int) :: jw_t) { frames := 2, cells := 0, slots := 0, locals := 80 } D vwCl ad cA (gc n S SD) [.ref (ad 0), .int a1, .int a2, .int a3] σ z := by
  refine jj_ofi (cc := cX7_output) (nL := 5) (ret := (some .int)) rfl ho (Nat.le_of_ble_eq_true rfl) ?_
  intro p e s m below meth c C hr hlocks
  generalize hA : va_A (jj_w ad cA (gc n S SD) σ) s.heap.size = A at C ⊢
  have hRm : 2 ≤ (headSpec (Cond.code yX7_output cX7_output 5 (some .int) :: jw_t) { frames := 2, cells := 0, slots := 0, locals := 80 }).room.frames ∧ 80 ≤ (headSpec (Cond.code yX7_output cX7_output 5 (some .int) :: jw_t) { frames := 2, cells := 0, slots := 0, locals := 80 }).room.locals := ⟨Nat.le_refl _, Nat.le_refl _⟩
  generalize (headSpec (Cond.code yX7_output cX7_output 5 (some .int) :: jw_t) { frames := 2, cells := 0, slots := 0, locals := 80 }).room = R at C hRm ⊢
  generalize List.toArray ([.ref (ad 0), .int a1, .int a2, .int a3] : List Value) = args at C ⊢
  refine jj_sub (lv' := [(0, .ref (ad 0)), (1, .int a1), (2, .int a2), (3, .int a3)]) [0, 1, 2, 3] rfl ?_
  unfold f_Mesh_output
  refine jj_aload_n C 0 dX7_output_0 rfl rfl ?_
  refine jj_iload_n C 1 dX7_output_1 rfl rfl ?_
  refine jj_iload_n C 2 dX7_output_2 rfl rfl ?_
  refine jj_iload_n C 3 dX7_output_3 rfl rfl ?_
  refine jj_callVi C (As := [.int a1, .int a2, .int a3]) (rest := []) (fun z hz => c_Mesh_isRouterPlace hz) (q_Mesh_116 C.2.2.2.2.1 (rm := { frames := 1, cells := 0, slots := 0, locals := 40 }) rfl rfl ⟨Nat.le_trans (by decide) hRm.1, Nat.le_trans (by decide) hRm.2⟩) (g_0 n S SD) k_Mesh rfl rfl (Nat.le_of_ble_eq_true rfl) dX7_output_4 (fun r2 σ1 _ => ?_)
  refine jj_if_ne C (tgt := 12) dX7_output_7 (by decide) (fun _ => ?_) (fun _ => ?_)
  · refine jj_aload_n C 0 dX7_output_12 rfl rfl ?_
    refine jj_getr C 0 0 in_Mesh (g_0 n S SD) k_Mesh (by decide) fl_Mesh_12 rfl dX7_output_13 ?_
    refine jj_iload_n C 1 dX7_output_16 rfl rfl ?_
    refine jj_iload_n C 2 dX7_output_17 rfl rfl ?_
    refine jj_iload_n C 3 dX7_output_18 rfl rfl ?_
    refine jj_callVi C (As := [.int a1, .int a2, .int a3]) (rest := []) (fun z hz => c_Grid_slot hz) (q_Mesh_120 C.2.2.2.2.1 (rm := { frames := 0, cells := 0, slots := 0, locals := 0 }) rfl rfl ⟨Nat.le_trans (by decide) hRm.1, Nat.le_trans (by decide) hRm.2⟩) (g_1 n S SD) k_Grid rfl rfl (Nat.le_of_ble_eq_true rfl) dX7_output_19 (fun r4 σ3 _ => ?_)
    refine jj_istore C [(4, .int r4), (0, .ref (ad 0)), (1, .int a1), (2, .int a2), (3, .int a3)] dX7_output_22 (by decide) rfl ?_
    refine jj_aload_n C 1 dX7_output_24 rfl rfl ?_
    refine jj_getr C 0 1 in_Mesh (g_0 n S SD) k_Mesh (by decide) fl_Mesh_23 rfl dX7_output_25 ?_
    refine jj_getr C 2 5 in_Links (g_2 n S SD) k_Links (by decide) fl_Mesh_131 rfl dX7_output_28 ?_
    refine jj_iload C 0 dX7_output_31 rfl ?_
    refine jj_iald C 7 (g_7 n S SD) dX7_output_33 ?_
    refine jj_aload_n C 1 dX7_output_34 rfl rfl ?_
    refine jj_getr C 0 4 in_Mesh (g_0 n S SD) k_Mesh (by decide) fl_Mesh_46 rfl dX7_output_35 ?_
    refine jj_getr C 30 5 in_Routers (g_30 n S SD) k_Routers (by decide) fl_Mesh_134 rfl dX7_output_38 ?_
    refine jj_iload C 0 dX7_output_41 rfl ?_
    refine jj_zald C 34 (g_34 n S SD) dX7_output_43 ?_
    refine jj_if_eq C (tgt := 52) dX7_output_44 (by decide) (fun _ => ?_) (fun _ => ?_)
    · refine jj_iconst C (v := (0 : Int32)) dX7_output_52 (by decide) ?_
      refine jj_iadd C dX7_output_53 ?_
      exact jj_iret C hr hlocks dX7_output_54
    · refine jj_bipush C (v := (8 : Int32)) dX7_output_47 (by decide) ?_
      refine jj_goto C (tgt := 53) dX7_output_49 (by decide) ?_
      refine jj_iadd C dX7_output_53 ?_
      exact jj_iret C hr hlocks dX7_output_54
  · refine jj_iconst C (v := (-1 : Int32)) dX7_output_10 (by decide) ?_
    exact jj_iret C hr hlocks dX7_output_11

set_option maxHeartbeats 4000000 in
set_option maxRecDepth 100000 in
theorem c_Mesh_arrival {l : Launch} {D : va_G} {ad : Nat → Nat} {cA : FieldType → ClassId} {n S SD F : Nat} {σ : jj_S} {a1 a2 : Int32} {z : (Int32 × jj_S)} (ho : f_Mesh_arrival n S SD F σ a1 a2 = some z) : jj_Mi l yX7_arrival (Cond.code yX7_arrival cX7_arrival 4 (some .int) :: jw_t) { frames := 1, cells := 0, slots := 0, locals := 40 } D vwCl ad cA (gc n S SD) [.ref (ad 0), .int a1, .int a2] σ z := by
  refine jj_ofi (cc := cX7_arrival) (nL := 4) (ret := (some .int)) rfl ho (Nat.le_of_ble_eq_true rfl) ?_
  intro p e s m below meth c C hr hlocks
  generalize hA : va_A (jj_w ad cA (gc n S SD) σ) s.heap.size = A at C ⊢
  have hRm : 1 ≤ (headSpec (Cond.code yX7_arrival cX7_arrival 4 (some .int) :: jw_t) { frames := 1, cells := 0, slots := 0, locals := 40 }).room.frames ∧ 40 ≤ (headSpec (Cond.code yX7_arrival cX7_arrival 4 (some .int) :: jw_t) { frames := 1, cells := 0, slots := 0, locals := 40 }).room.locals := ⟨Nat.le_refl _, Nat.le_refl _⟩
  generalize (headSpec (Cond.code yX7_arrival cX7_arrival 4 (some .int) :: jw_t) { frames := 1, cells := 0, slots := 0, locals := 40 }).room = R at C hRm ⊢
  generalize List.toArray ([.ref (ad 0), .int a1, .int a2] : List Value) = args at C ⊢
  refine jj_sub (lv' := [(0, .ref (ad 0)), (1, .int a1), (2, .int a2)]) [0, 1, 2] rfl ?_
  unfold f_Mesh_arrival
  refine jj_aload_n C 0 dX7_arrival_0 rfl rfl ?_
  refine jj_getr C 0 0 in_Mesh (g_0 n S SD) k_Mesh (by decide) fl_Mesh_12 rfl dX7_arrival_1 ?_
  refine jj_iload_n C 1 dX7_arrival_4 rfl rfl ?_
  refine jj_callVi C (As := [.int a1]) (rest := []) (fun z hz => c_Grid_hasNode hz) (q_Mesh_54 C.2.2.2.2.1 (rm := { frames := 0, cells := 0, slots := 0, locals := 0 }) rfl rfl ⟨Nat.le_trans (by decide) hRm.1, Nat.le_trans (by decide) hRm.2⟩) (g_1 n S SD) k_Grid rfl rfl (Nat.le_of_ble_eq_true rfl) dX7_arrival_5 (fun r2 σ1 _ => ?_)
  refine jj_if_eq C (tgt := 22) dX7_arrival_8 (by decide) (fun _ => ?_) (fun _ => ?_)
  · refine jj_iconst C (v := (-1 : Int32)) dX7_arrival_22 (by decide) ?_
    exact jj_iret C hr hlocks dX7_arrival_23
  · refine jj_aload_n C 0 dX7_arrival_11 rfl rfl ?_
    refine jj_getr C 0 0 in_Mesh (g_0 n S SD) k_Mesh (by decide) fl_Mesh_12 rfl dX7_arrival_12 ?_
    refine jj_iload_n C 2 dX7_arrival_15 rfl rfl ?_
    refine jj_callVi C (As := [.int a2]) (rest := []) (fun z hz => c_Grid_hasChannel hz) (q_Mesh_137 C.2.2.2.2.1 (rm := { frames := 0, cells := 0, slots := 0, locals := 0 }) rfl rfl ⟨Nat.le_trans (by decide) hRm.1, Nat.le_trans (by decide) hRm.2⟩) (g_1 n S SD) k_Grid rfl rfl (Nat.le_of_ble_eq_true rfl) dX7_arrival_16 (fun r4 σ3 _ => ?_)
    refine jj_if_ne C (tgt := 24) dX7_arrival_19 (by decide) (fun _ => ?_) (fun _ => ?_)
    · refine jj_aload_n C 0 dX7_arrival_24 rfl rfl ?_
      refine jj_getr C 0 0 in_Mesh (g_0 n S SD) k_Mesh (by decide) fl_Mesh_12 rfl dX7_arrival_25 ?_
      refine jj_iload_n C 1 dX7_arrival_28 rfl rfl ?_
      refine jj_iconst C (v := (5 : Int32)) dX7_arrival_29 (by decide) ?_
      refine jj_iload_n C 2 dX7_arrival_30 rfl rfl ?_
      refine jj_callVi C (As := [.int a1, .int (5 : Int32), .int a2]) (rest := []) (fun z hz => c_Grid_slot hz) (q_Mesh_120 C.2.2.2.2.1 (rm := { frames := 0, cells := 0, slots := 0, locals := 0 }) rfl rfl ⟨Nat.le_trans (by decide) hRm.1, Nat.le_trans (by decide) hRm.2⟩) (g_1 n S SD) k_Grid rfl rfl (Nat.le_of_ble_eq_true rfl) dX7_arrival_31 (fun r6 σ5 _ => ?_)
      refine jj_istore_n C [(3, .int r6), (0, .ref (ad 0)), (1, .int a1), (2, .int a2)] dX7_arrival_34 rfl (by decide) rfl ?_
      refine jj_aload_n C 1 dX7_arrival_35 rfl rfl ?_
      refine jj_getr C 0 1 in_Mesh (g_0 n S SD) k_Mesh (by decide) fl_Mesh_23 rfl dX7_arrival_36 ?_
      refine jj_getr C 2 4 in_Links (g_2 n S SD) k_Links (by decide) fl_Mesh_130 rfl dX7_arrival_39 ?_
      refine jj_iload_n C 0 dX7_arrival_42 rfl rfl ?_
      refine jj_iald C 6 (g_6 n S SD) dX7_arrival_43 ?_
      refine jj_bipush C (v := (8 : Int32)) dX7_arrival_44 (by decide) ?_
      refine jj_aload_n C 1 dX7_arrival_46 rfl rfl ?_
      refine jj_getr C 0 1 in_Mesh (g_0 n S SD) k_Mesh (by decide) fl_Mesh_23 rfl dX7_arrival_47 ?_
      refine jj_getr C 2 5 in_Links (g_2 n S SD) k_Links (by decide) fl_Mesh_131 rfl dX7_arrival_50 ?_
      refine jj_iload_n C 0 dX7_arrival_53 rfl rfl ?_
      refine jj_iald C 7 (g_7 n S SD) dX7_arrival_54 ?_
      refine jj_imul C dX7_arrival_55 ?_
      refine jj_iadd C dX7_arrival_56 ?_
      exact jj_iret C hr hlocks dX7_arrival_57
    · refine jj_iconst C (v := (-1 : Int32)) dX7_arrival_22 (by decide) ?_
      exact jj_iret C hr hlocks dX7_arrival_23

set_option maxHeartbeats 4000000 in
set_option maxRecDepth 100000 in
theorem c_Mesh_sent {l : Launch} {D : va_G} {ad : Nat → Nat} {cA : FieldType → ClassId} {n S SD F : Nat} {σ : jj_S} {z : (Int32 × jj_S)} (ho : f_Mesh_sent n S SD F σ = some z) : jj_Mi l yX7_sent (Cond.code yX7_sent cX7_sent 1 (some .int) :: jw_t) { frames := 0, cells := 0, slots := 0, locals := 0 } D vwCl ad cA (gc n S SD) [.ref (ad 0)] σ z := by
  refine jj_ofi (cc := cX7_sent) (nL := 1) (ret := (some .int)) rfl ho (Nat.le_of_ble_eq_true rfl) ?_
  intro p e s m below meth c C hr hlocks
  generalize hA : va_A (jj_w ad cA (gc n S SD) σ) s.heap.size = A at C ⊢
  have hRm : 0 ≤ (headSpec (Cond.code yX7_sent cX7_sent 1 (some .int) :: jw_t) { frames := 0, cells := 0, slots := 0, locals := 0 }).room.frames ∧ 0 ≤ (headSpec (Cond.code yX7_sent cX7_sent 1 (some .int) :: jw_t) { frames := 0, cells := 0, slots := 0, locals := 0 }).room.locals := ⟨Nat.le_refl _, Nat.le_refl _⟩
  generalize (headSpec (Cond.code yX7_sent cX7_sent 1 (some .int) :: jw_t) { frames := 0, cells := 0, slots := 0, locals := 0 }).room = R at C hRm ⊢
  generalize List.toArray ([.ref (ad 0)] : List Value) = args at C ⊢
  refine jj_sub (lv' := [(0, .ref (ad 0))]) [0] rfl ?_
  unfold f_Mesh_sent
  refine jj_aload_n C 0 dX7_sent_0 rfl rfl ?_
  refine jj_getr C 0 1 in_Mesh (g_0 n S SD) k_Mesh (by decide) fl_Mesh_23 rfl dX7_sent_1 ?_
  refine jj_geti C 2 8 in_Links (g_2 n S SD) k_Links (by decide) fl_Mesh_140 rfl dX7_sent_4 ?_
  exact jj_iret C hr hlocks dX7_sent_7
end
