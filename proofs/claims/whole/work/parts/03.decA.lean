theorem dX0_init_0 : decode cX0_init 0 = .ok (.aload_n 0, 1) := by decide +kernel
theorem dX0_init_1 : decode cX0_init 1 = .ok (.invokespecial 3, 3) := by decide +kernel
theorem dX0_init_4 : decode cX0_init 4 = .ok (.aload_n 0, 1) := by decide +kernel
theorem dX0_init_5 : decode cX0_init 5 = .ok (.sipush 400, 3) := by decide +kernel
theorem dX0_init_8 : decode cX0_init 8 = .ok (.newarray .int, 2) := by decide +kernel
theorem dX0_init_10 : decode cX0_init 10 = .ok (.putfield 9, 3) := by decide +kernel
theorem dX0_init_13 : decode cX0_init 13 = .ok (.aload_n 0, 1) := by decide +kernel
theorem dX0_init_14 : decode cX0_init 14 = .ok (.sipush 400, 3) := by decide +kernel
theorem dX0_init_17 : decode cX0_init 17 = .ok (.newarray .int, 2) := by decide +kernel
theorem dX0_init_19 : decode cX0_init 19 = .ok (.putfield 15, 3) := by decide +kernel
theorem dX0_init_22 : decode cX0_init 22 = .ok (.return_, 1) := by decide +kernel
theorem dX0_add_0 : decode cX0_add 0 = .ok (.aload_n 0, 1) := by decide +kernel
theorem dX0_add_1 : decode cX0_add 1 = .ok (.getfield 9, 3) := by decide +kernel
theorem dX0_add_4 : decode cX0_add 4 = .ok (.aload_n 0, 1) := by decide +kernel
theorem dX0_add_5 : decode cX0_add 5 = .ok (.getfield 18, 3) := by decide +kernel
theorem dX0_add_8 : decode cX0_add 8 = .ok (.iload_n 1, 1) := by decide +kernel
theorem dX0_add_9 : decode cX0_add 9 = .ok (.iastore, 1) := by decide +kernel
theorem dX0_add_10 : decode cX0_add 10 = .ok (.aload_n 0, 1) := by decide +kernel
theorem dX0_add_11 : decode cX0_add 11 = .ok (.getfield 15, 3) := by decide +kernel
theorem dX0_add_14 : decode cX0_add 14 = .ok (.aload_n 0, 1) := by decide +kernel
theorem dX0_add_15 : decode cX0_add 15 = .ok (.getfield 18, 3) := by decide +kernel
theorem dX0_add_18 : decode cX0_add 18 = .ok (.iload_n 2, 1) := by decide +kernel
theorem dX0_add_19 : decode cX0_add 19 = .ok (.iastore, 1) := by decide +kernel
theorem dX0_add_20 : decode cX0_add 20 = .ok (.aload_n 0, 1) := by decide +kernel
theorem dX0_add_21 : decode cX0_add 21 = .ok (.dup, 1) := by decide +kernel
theorem dX0_add_22 : decode cX0_add 22 = .ok (.getfield 18, 3) := by decide +kernel
theorem dX0_add_25 : decode cX0_add 25 = .ok (.iconst 1, 1) := by decide +kernel
theorem dX0_add_26 : decode cX0_add 26 = .ok (.iadd, 1) := by decide +kernel
theorem dX0_add_27 : decode cX0_add 27 = .ok (.putfield 18, 3) := by decide +kernel
theorem dX0_add_30 : decode cX0_add 30 = .ok (.return_, 1) := by decide +kernel
theorem dX1_init_0 : decode cX1_init 0 = .ok (.aload_n 0, 1) := by decide +kernel
theorem dX1_init_1 : decode cX1_init 1 = .ok (.invokespecial 3, 3) := by decide +kernel
theorem dX1_init_4 : decode cX1_init 4 = .ok (.aload_n 0, 1) := by decide +kernel
theorem dX1_init_5 : decode cX1_init 5 = .ok (.iload_n 1, 1) := by decide +kernel
theorem dX1_init_6 : decode cX1_init 6 = .ok (.iconst 3, 1) := by decide +kernel
theorem dX1_init_7 : decode cX1_init 7 = .ok (.invokestatic 9, 3) := by decide +kernel
theorem dX1_init_10 : decode cX1_init 10 = .ok (.putfield 15, 3) := by decide +kernel
theorem dX1_init_13 : decode cX1_init 13 = .ok (.aload_n 0, 1) := by decide +kernel
theorem dX1_init_14 : decode cX1_init 14 = .ok (.iload_n 2, 1) := by decide +kernel
theorem dX1_init_15 : decode cX1_init 15 = .ok (.iconst 3, 1) := by decide +kernel
theorem dX1_init_16 : decode cX1_init 16 = .ok (.invokestatic 9, 3) := by decide +kernel
theorem dX1_init_19 : decode cX1_init 19 = .ok (.putfield 19, 3) := by decide +kernel
theorem dX1_init_22 : decode cX1_init 22 = .ok (.aload_n 0, 1) := by decide +kernel
theorem dX1_init_23 : decode cX1_init 23 = .ok (.iload_n 3, 1) := by decide +kernel
theorem dX1_init_24 : decode cX1_init 24 = .ok (.iconst 4, 1) := by decide +kernel
theorem dX1_init_25 : decode cX1_init 25 = .ok (.invokestatic 9, 3) := by decide +kernel
theorem dX1_init_28 : decode cX1_init 28 = .ok (.putfield 22, 3) := by decide +kernel
theorem dX1_init_31 : decode cX1_init 31 = .ok (.aload_n 0, 1) := by decide +kernel
theorem dX1_init_32 : decode cX1_init 32 = .ok (.iload 4, 2) := by decide +kernel
theorem dX1_init_34 : decode cX1_init 34 = .ok (.iconst 2, 1) := by decide +kernel
theorem dX1_init_35 : decode cX1_init 35 = .ok (.invokestatic 9, 3) := by decide +kernel
theorem dX1_init_38 : decode cX1_init 38 = .ok (.putfield 25, 3) := by decide +kernel
theorem dX1_init_41 : decode cX1_init 41 = .ok (.aload_n 0, 1) := by decide +kernel
theorem dX1_init_42 : decode cX1_init 42 = .ok (.iconst 2, 1) := by decide +kernel
theorem dX1_init_43 : decode cX1_init 43 = .ok (.aload_n 0, 1) := by decide +kernel
theorem dX1_init_44 : decode cX1_init 44 = .ok (.getfield 25, 3) := by decide +kernel
theorem dX1_init_47 : decode cX1_init 47 = .ok (.imul, 1) := by decide +kernel
theorem dX1_init_48 : decode cX1_init 48 = .ok (.putfield 28, 3) := by decide +kernel
theorem dX1_init_51 : decode cX1_init 51 = .ok (.aload_n 0, 1) := by decide +kernel
theorem dX1_init_52 : decode cX1_init 52 = .ok (.aload_n 0, 1) := by decide +kernel
theorem dX1_init_53 : decode cX1_init 53 = .ok (.getfield 15, 3) := by decide +kernel
theorem dX1_init_56 : decode cX1_init 56 = .ok (.aload_n 0, 1) := by decide +kernel
theorem dX1_init_57 : decode cX1_init 57 = .ok (.getfield 19, 3) := by decide +kernel
theorem dX1_init_60 : decode cX1_init 60 = .ok (.imul, 1) := by decide +kernel
theorem dX1_init_61 : decode cX1_init 61 = .ok (.putfield 31, 3) := by decide +kernel
theorem dX1_init_64 : decode cX1_init 64 = .ok (.aload_n 0, 1) := by decide +kernel
theorem dX1_init_65 : decode cX1_init 65 = .ok (.aload_n 0, 1) := by decide +kernel
theorem dX1_init_66 : decode cX1_init 66 = .ok (.getfield 31, 3) := by decide +kernel
theorem dX1_init_69 : decode cX1_init 69 = .ok (.bipush 6, 2) := by decide +kernel
theorem dX1_init_71 : decode cX1_init 71 = .ok (.imul, 1) := by decide +kernel
theorem dX1_init_72 : decode cX1_init 72 = .ok (.aload_n 0, 1) := by decide +kernel
theorem dX1_init_73 : decode cX1_init 73 = .ok (.getfield 28, 3) := by decide +kernel
theorem dX1_init_76 : decode cX1_init 76 = .ok (.imul, 1) := by decide +kernel
theorem dX1_init_77 : decode cX1_init 77 = .ok (.putfield 34, 3) := by decide +kernel
theorem dX1_init_80 : decode cX1_init 80 = .ok (.return_, 1) := by decide +kernel
theorem dX1_within_0 : decode cX1_within 0 = .ok (.iconst 1, 1) := by decide +kernel
theorem dX1_within_1 : decode cX1_within 1 = .ok (.iload_n 1, 1) := by decide +kernel
theorem dX1_within_2 : decode cX1_within 2 = .ok (.iload_n 0, 1) := by decide +kernel
theorem dX1_within_3 : decode cX1_within 3 = .ok (.invokestatic 37, 3) := by decide +kernel
theorem dX1_within_6 : decode cX1_within 6 = .ok (.invokestatic 42, 3) := by decide +kernel
theorem dX1_within_9 : decode cX1_within 9 = .ok (.ireturn, 1) := by decide +kernel
theorem dX1_hasNode_0 : decode cX1_hasNode 0 = .ok (.iload_n 1, 1) := by decide +kernel
theorem dX1_hasNode_1 : decode cX1_hasNode 1 = .ok (.ifCond .lt 15, 3) := by decide +kernel
theorem dX1_hasNode_4 : decode cX1_hasNode 4 = .ok (.iload_n 1, 1) := by decide +kernel
theorem dX1_hasNode_5 : decode cX1_hasNode 5 = .ok (.aload_n 0, 1) := by decide +kernel
theorem dX1_hasNode_6 : decode cX1_hasNode 6 = .ok (.getfield 31, 3) := by decide +kernel
theorem dX1_hasNode_9 : decode cX1_hasNode 9 = .ok (.if_icmp .ge 7, 3) := by decide +kernel
theorem dX1_hasNode_12 : decode cX1_hasNode 12 = .ok (.iconst 1, 1) := by decide +kernel
theorem dX1_hasNode_13 : decode cX1_hasNode 13 = .ok (.goto 4, 3) := by decide +kernel
theorem dX1_hasNode_16 : decode cX1_hasNode 16 = .ok (.iconst 0, 1) := by decide +kernel
theorem dX1_hasNode_17 : decode cX1_hasNode 17 = .ok (.ireturn, 1) := by decide +kernel
theorem dX1_hasChannel_0 : decode cX1_hasChannel 0 = .ok (.iload_n 1, 1) := by decide +kernel
theorem dX1_hasChannel_1 : decode cX1_hasChannel 1 = .ok (.ifCond .lt 15, 3) := by decide +kernel
theorem dX1_hasChannel_4 : decode cX1_hasChannel 4 = .ok (.iload_n 1, 1) := by decide +kernel
theorem dX1_hasChannel_5 : decode cX1_hasChannel 5 = .ok (.aload_n 0, 1) := by decide +kernel
theorem dX1_hasChannel_6 : decode cX1_hasChannel 6 = .ok (.getfield 28, 3) := by decide +kernel
theorem dX1_hasChannel_9 : decode cX1_hasChannel 9 = .ok (.if_icmp .ge 7, 3) := by decide +kernel
theorem dX1_hasChannel_12 : decode cX1_hasChannel 12 = .ok (.iconst 1, 1) := by decide +kernel
theorem dX1_hasChannel_13 : decode cX1_hasChannel 13 = .ok (.goto 4, 3) := by decide +kernel
theorem dX1_hasChannel_16 : decode cX1_hasChannel 16 = .ok (.iconst 0, 1) := by decide +kernel
theorem dX1_hasChannel_17 : decode cX1_hasChannel 17 = .ok (.ireturn, 1) := by decide +kernel
theorem dX1_slot_0 : decode cX1_slot 0 = .ok (.iload_n 1, 1) := by decide +kernel
theorem dX1_slot_1 : decode cX1_slot 1 = .ok (.bipush 6, 2) := by decide +kernel
theorem dX1_slot_3 : decode cX1_slot 3 = .ok (.imul, 1) := by decide +kernel
theorem dX1_slot_4 : decode cX1_slot 4 = .ok (.iload_n 2, 1) := by decide +kernel
theorem dX1_slot_5 : decode cX1_slot 5 = .ok (.iadd, 1) := by decide +kernel
theorem dX1_slot_6 : decode cX1_slot 6 = .ok (.aload_n 0, 1) := by decide +kernel
theorem dX1_slot_7 : decode cX1_slot 7 = .ok (.getfield 28, 3) := by decide +kernel
theorem dX1_slot_10 : decode cX1_slot 10 = .ok (.imul, 1) := by decide +kernel
theorem dX1_slot_11 : decode cX1_slot 11 = .ok (.iload_n 3, 1) := by decide +kernel
theorem dX1_slot_12 : decode cX1_slot 12 = .ok (.iadd, 1) := by decide +kernel
theorem dX1_slot_13 : decode cX1_slot 13 = .ok (.ireturn, 1) := by decide +kernel
theorem dX1_column_0 : decode cX1_column 0 = .ok (.iload_n 1, 1) := by decide +kernel
theorem dX1_column_1 : decode cX1_column 1 = .ok (.aload_n 0, 1) := by decide +kernel
theorem dX1_column_2 : decode cX1_column 2 = .ok (.getfield 15, 3) := by decide +kernel
theorem dX1_column_5 : decode cX1_column 5 = .ok (.irem, 1) := by decide +kernel
theorem dX1_column_6 : decode cX1_column 6 = .ok (.ireturn, 1) := by decide +kernel
theorem dX1_row_0 : decode cX1_row 0 = .ok (.iload_n 1, 1) := by decide +kernel
theorem dX1_row_1 : decode cX1_row 1 = .ok (.aload_n 0, 1) := by decide +kernel
theorem dX1_row_2 : decode cX1_row 2 = .ok (.getfield 15, 3) := by decide +kernel
theorem dX1_row_5 : decode cX1_row 5 = .ok (.idiv, 1) := by decide +kernel
theorem dX1_row_6 : decode cX1_row 6 = .ok (.ireturn, 1) := by decide +kernel
theorem dX1_farSlot_0 : decode cX1_farSlot 0 = .ok (.aload_n 0, 1) := by decide +kernel
theorem dX1_farSlot_1 : decode cX1_farSlot 1 = .ok (.iload_n 1, 1) := by decide +kernel
theorem dX1_farSlot_2 : decode cX1_farSlot 2 = .ok (.iload_n 2, 1) := by decide +kernel
theorem dX1_farSlot_3 : decode cX1_farSlot 3 = .ok (.invokevirtual 45, 3) := by decide +kernel
theorem dX1_farSlot_6 : decode cX1_farSlot 6 = .ok (.istore 4, 2) := by decide +kernel
theorem dX1_farSlot_8 : decode cX1_farSlot 8 = .ok (.iload 4, 2) := by decide +kernel
theorem dX1_farSlot_10 : decode cX1_farSlot 10 = .ok (.iconst (-1), 1) := by decide +kernel
theorem dX1_farSlot_11 : decode cX1_farSlot 11 = .ok (.if_icmp .ne 13, 3) := by decide +kernel
theorem dX1_farSlot_14 : decode cX1_farSlot 14 = .ok (.aload_n 0, 1) := by decide +kernel
theorem dX1_farSlot_15 : decode cX1_farSlot 15 = .ok (.iload_n 1, 1) := by decide +kernel
theorem dX1_farSlot_16 : decode cX1_farSlot 16 = .ok (.iload_n 2, 1) := by decide +kernel
theorem dX1_farSlot_17 : decode cX1_farSlot 17 = .ok (.iload_n 3, 1) := by decide +kernel
theorem dX1_farSlot_18 : decode cX1_farSlot 18 = .ok (.invokevirtual 48, 3) := by decide +kernel
theorem dX1_farSlot_21 : decode cX1_farSlot 21 = .ok (.goto 14, 3) := by decide +kernel
theorem dX1_farSlot_24 : decode cX1_farSlot 24 = .ok (.aload_n 0, 1) := by decide +kernel
theorem dX1_farSlot_25 : decode cX1_farSlot 25 = .ok (.iload 4, 2) := by decide +kernel
theorem dX1_farSlot_27 : decode cX1_farSlot 27 = .ok (.iload_n 2, 1) := by decide +kernel
theorem dX1_farSlot_28 : decode cX1_farSlot 28 = .ok (.invokestatic 52, 3) := by decide +kernel
theorem dX1_farSlot_31 : decode cX1_farSlot 31 = .ok (.iload_n 3, 1) := by decide +kernel
theorem dX1_farSlot_32 : decode cX1_farSlot 32 = .ok (.invokevirtual 48, 3) := by decide +kernel
theorem dX1_farSlot_35 : decode cX1_farSlot 35 = .ok (.ireturn, 1) := by decide +kernel
theorem dX1_neighbour_0 : decode cX1_neighbour 0 = .ok (.iload_n 2, 1) := by decide +kernel
theorem dX1_neighbour_1 : decode cX1_neighbour 1 = .ok (.tableswitch 113 1 4 #[31, 53, 69, 94], 31) := by decide +kernel
theorem dX1_neighbour_32 : decode cX1_neighbour 32 = .ok (.aload_n 0, 1) := by decide +kernel
theorem dX1_neighbour_33 : decode cX1_neighbour 33 = .ok (.iload_n 1, 1) := by decide +kernel
theorem dX1_neighbour_34 : decode cX1_neighbour 34 = .ok (.invokevirtual 56, 3) := by decide +kernel
theorem dX1_neighbour_37 : decode cX1_neighbour 37 = .ok (.iconst 1, 1) := by decide +kernel
theorem dX1_neighbour_38 : decode cX1_neighbour 38 = .ok (.iadd, 1) := by decide +kernel
theorem dX1_neighbour_39 : decode cX1_neighbour 39 = .ok (.aload_n 0, 1) := by decide +kernel
theorem dX1_neighbour_40 : decode cX1_neighbour 40 = .ok (.getfield 15, 3) := by decide +kernel
theorem dX1_neighbour_43 : decode cX1_neighbour 43 = .ok (.if_icmp .ge 9, 3) := by decide +kernel
theorem dX1_neighbour_46 : decode cX1_neighbour 46 = .ok (.iload_n 1, 1) := by decide +kernel
theorem dX1_neighbour_47 : decode cX1_neighbour 47 = .ok (.iconst 1, 1) := by decide +kernel
theorem dX1_neighbour_48 : decode cX1_neighbour 48 = .ok (.iadd, 1) := by decide +kernel
theorem dX1_neighbour_49 : decode cX1_neighbour 49 = .ok (.goto 4, 3) := by decide +kernel
theorem dX1_neighbour_52 : decode cX1_neighbour 52 = .ok (.iconst (-1), 1) := by decide +kernel
theorem dX1_neighbour_53 : decode cX1_neighbour 53 = .ok (.ireturn, 1) := by decide +kernel
theorem dX1_neighbour_54 : decode cX1_neighbour 54 = .ok (.aload_n 0, 1) := by decide +kernel
theorem dX1_neighbour_55 : decode cX1_neighbour 55 = .ok (.iload_n 1, 1) := by decide +kernel
theorem dX1_neighbour_56 : decode cX1_neighbour 56 = .ok (.invokevirtual 56, 3) := by decide +kernel
theorem dX1_neighbour_59 : decode cX1_neighbour 59 = .ok (.ifCond .le 9, 3) := by decide +kernel
theorem dX1_neighbour_62 : decode cX1_neighbour 62 = .ok (.iload_n 1, 1) := by decide +kernel
theorem dX1_neighbour_63 : decode cX1_neighbour 63 = .ok (.iconst 1, 1) := by decide +kernel
theorem dX1_neighbour_64 : decode cX1_neighbour 64 = .ok (.isub, 1) := by decide +kernel
theorem dX1_neighbour_65 : decode cX1_neighbour 65 = .ok (.goto 4, 3) := by decide +kernel
theorem dX1_neighbour_68 : decode cX1_neighbour 68 = .ok (.iconst (-1), 1) := by decide +kernel
theorem dX1_neighbour_69 : decode cX1_neighbour 69 = .ok (.ireturn, 1) := by decide +kernel
theorem dX1_neighbour_70 : decode cX1_neighbour 70 = .ok (.aload_n 0, 1) := by decide +kernel
theorem dX1_neighbour_71 : decode cX1_neighbour 71 = .ok (.iload_n 1, 1) := by decide +kernel
theorem dX1_neighbour_72 : decode cX1_neighbour 72 = .ok (.invokevirtual 59, 3) := by decide +kernel
theorem dX1_neighbour_75 : decode cX1_neighbour 75 = .ok (.iconst 1, 1) := by decide +kernel
theorem dX1_neighbour_76 : decode cX1_neighbour 76 = .ok (.iadd, 1) := by decide +kernel
theorem dX1_neighbour_77 : decode cX1_neighbour 77 = .ok (.aload_n 0, 1) := by decide +kernel
theorem dX1_neighbour_78 : decode cX1_neighbour 78 = .ok (.getfield 19, 3) := by decide +kernel
theorem dX1_neighbour_81 : decode cX1_neighbour 81 = .ok (.if_icmp .ge 12, 3) := by decide +kernel
theorem dX1_neighbour_84 : decode cX1_neighbour 84 = .ok (.iload_n 1, 1) := by decide +kernel
theorem dX1_neighbour_85 : decode cX1_neighbour 85 = .ok (.aload_n 0, 1) := by decide +kernel
theorem dX1_neighbour_86 : decode cX1_neighbour 86 = .ok (.getfield 15, 3) := by decide +kernel
theorem dX1_neighbour_89 : decode cX1_neighbour 89 = .ok (.iadd, 1) := by decide +kernel
theorem dX1_neighbour_90 : decode cX1_neighbour 90 = .ok (.goto 4, 3) := by decide +kernel
theorem dX1_neighbour_93 : decode cX1_neighbour 93 = .ok (.iconst (-1), 1) := by decide +kernel
theorem dX1_neighbour_94 : decode cX1_neighbour 94 = .ok (.ireturn, 1) := by decide +kernel
theorem dX1_neighbour_95 : decode cX1_neighbour 95 = .ok (.aload_n 0, 1) := by decide +kernel
theorem dX1_neighbour_96 : decode cX1_neighbour 96 = .ok (.iload_n 1, 1) := by decide +kernel
theorem dX1_neighbour_97 : decode cX1_neighbour 97 = .ok (.invokevirtual 59, 3) := by decide +kernel
theorem dX1_neighbour_100 : decode cX1_neighbour 100 = .ok (.ifCond .le 12, 3) := by decide +kernel
theorem dX1_neighbour_103 : decode cX1_neighbour 103 = .ok (.iload_n 1, 1) := by decide +kernel
theorem dX1_neighbour_104 : decode cX1_neighbour 104 = .ok (.aload_n 0, 1) := by decide +kernel
theorem dX1_neighbour_105 : decode cX1_neighbour 105 = .ok (.getfield 15, 3) := by decide +kernel
theorem dX1_neighbour_108 : decode cX1_neighbour 108 = .ok (.isub, 1) := by decide +kernel
theorem dX1_neighbour_109 : decode cX1_neighbour 109 = .ok (.goto 4, 3) := by decide +kernel
theorem dX1_neighbour_112 : decode cX1_neighbour 112 = .ok (.iconst (-1), 1) := by decide +kernel
theorem dX1_neighbour_113 : decode cX1_neighbour 113 = .ok (.ireturn, 1) := by decide +kernel
theorem dX1_neighbour_114 : decode cX1_neighbour 114 = .ok (.iload_n 1, 1) := by decide +kernel
theorem dX1_neighbour_115 : decode cX1_neighbour 115 = .ok (.ireturn, 1) := by decide +kernel
theorem dX1_opposite_0 : decode cX1_opposite 0 = .ok (.iload_n 0, 1) := by decide +kernel
theorem dX1_opposite_1 : decode cX1_opposite 1 = .ok (.tableswitch 45 0 4 #[43, 35, 37, 39, 41], 35) := by decide +kernel
theorem dX1_opposite_36 : decode cX1_opposite 36 = .ok (.iconst 2, 1) := by decide +kernel
theorem dX1_opposite_37 : decode cX1_opposite 37 = .ok (.ireturn, 1) := by decide +kernel
theorem dX1_opposite_38 : decode cX1_opposite 38 = .ok (.iconst 1, 1) := by decide +kernel
theorem dX1_opposite_39 : decode cX1_opposite 39 = .ok (.ireturn, 1) := by decide +kernel
theorem dX1_opposite_40 : decode cX1_opposite 40 = .ok (.iconst 4, 1) := by decide +kernel
theorem dX1_opposite_41 : decode cX1_opposite 41 = .ok (.ireturn, 1) := by decide +kernel
theorem dX1_opposite_42 : decode cX1_opposite 42 = .ok (.iconst 3, 1) := by decide +kernel
theorem dX1_opposite_43 : decode cX1_opposite 43 = .ok (.ireturn, 1) := by decide +kernel
theorem dX1_opposite_44 : decode cX1_opposite 44 = .ok (.iconst 5, 1) := by decide +kernel
theorem dX1_opposite_45 : decode cX1_opposite 45 = .ok (.ireturn, 1) := by decide +kernel
theorem dX1_opposite_46 : decode cX1_opposite 46 = .ok (.iconst 0, 1) := by decide +kernel
theorem dX1_opposite_47 : decode cX1_opposite 47 = .ok (.ireturn, 1) := by decide +kernel
theorem dX4_init_0 : decode cX4_init 0 = .ok (.aload_n 0, 1) := by decide +kernel
theorem dX4_init_1 : decode cX4_init 1 = .ok (.invokespecial 3, 3) := by decide +kernel
theorem dX4_init_4 : decode cX4_init 4 = .ok (.aload_n 0, 1) := by decide +kernel
theorem dX4_init_5 : decode cX4_init 5 = .ok (.sipush 400, 3) := by decide +kernel
theorem dX4_init_8 : decode cX4_init 8 = .ok (.newarray .int, 2) := by decide +kernel
theorem dX4_init_10 : decode cX4_init 10 = .ok (.putfield 9, 3) := by decide +kernel
theorem dX4_init_13 : decode cX4_init 13 = .ok (.aload_n 0, 1) := by decide +kernel
theorem dX4_init_14 : decode cX4_init 14 = .ok (.sipush 400, 3) := by decide +kernel
theorem dX4_init_17 : decode cX4_init 17 = .ok (.newarray .int, 2) := by decide +kernel
theorem dX4_init_19 : decode cX4_init 19 = .ok (.putfield 15, 3) := by decide +kernel
theorem dX4_init_22 : decode cX4_init 22 = .ok (.aload_n 0, 1) := by decide +kernel
theorem dX4_init_23 : decode cX4_init 23 = .ok (.sipush 400, 3) := by decide +kernel
theorem dX4_init_26 : decode cX4_init 26 = .ok (.newarray .boolean, 2) := by decide +kernel
theorem dX4_init_28 : decode cX4_init 28 = .ok (.putfield 18, 3) := by decide +kernel
theorem dX4_init_31 : decode cX4_init 31 = .ok (.aload_n 0, 1) := by decide +kernel
theorem dX4_init_32 : decode cX4_init 32 = .ok (.sipush 400, 3) := by decide +kernel
theorem dX4_init_35 : decode cX4_init 35 = .ok (.newarray .int, 2) := by decide +kernel
theorem dX4_init_37 : decode cX4_init 37 = .ok (.putfield 22, 3) := by decide +kernel
theorem dX4_init_40 : decode cX4_init 40 = .ok (.aload_n 0, 1) := by decide +kernel
theorem dX4_init_41 : decode cX4_init 41 = .ok (.sipush 400, 3) := by decide +kernel
theorem dX4_init_44 : decode cX4_init 44 = .ok (.newarray .int, 2) := by decide +kernel
theorem dX4_init_46 : decode cX4_init 46 = .ok (.putfield 25, 3) := by decide +kernel
theorem dX4_init_49 : decode cX4_init 49 = .ok (.aload_n 0, 1) := by decide +kernel
theorem dX4_init_50 : decode cX4_init 50 = .ok (.aload_n 1, 1) := by decide +kernel
theorem dX4_init_51 : decode cX4_init 51 = .ok (.putfield 28, 3) := by decide +kernel
theorem dX4_init_54 : decode cX4_init 54 = .ok (.return_, 1) := by decide +kernel
theorem dX4_isFull_0 : decode cX4_isFull 0 = .ok (.aload_n 0, 1) := by decide +kernel
theorem dX4_isFull_1 : decode cX4_isFull 1 = .ok (.getfield 32, 3) := by decide +kernel
theorem dX4_isFull_4 : decode cX4_isFull 4 = .ok (.sipush 400, 3) := by decide +kernel
theorem dX4_isFull_7 : decode cX4_isFull 7 = .ok (.if_icmp .lt 7, 3) := by decide +kernel
theorem dX4_isFull_10 : decode cX4_isFull 10 = .ok (.iconst 1, 1) := by decide +kernel
theorem dX4_isFull_11 : decode cX4_isFull 11 = .ok (.goto 4, 3) := by decide +kernel
theorem dX4_isFull_14 : decode cX4_isFull 14 = .ok (.iconst 0, 1) := by decide +kernel
theorem dX4_isFull_15 : decode cX4_isFull 15 = .ok (.ireturn, 1) := by decide +kernel
theorem dX4_add_0 : decode cX4_add 0 = .ok (.aload_n 0, 1) := by decide +kernel
theorem dX4_add_1 : decode cX4_add 1 = .ok (.getfield 32, 3) := by decide +kernel
theorem dX4_add_4 : decode cX4_add 4 = .ok (.istore 6, 2) := by decide +kernel
theorem dX4_add_6 : decode cX4_add 6 = .ok (.aload_n 0, 1) := by decide +kernel
theorem dX4_add_7 : decode cX4_add 7 = .ok (.getfield 9, 3) := by decide +kernel
theorem dX4_add_10 : decode cX4_add 10 = .ok (.iload 6, 2) := by decide +kernel
theorem dX4_add_12 : decode cX4_add 12 = .ok (.iload_n 1, 1) := by decide +kernel
theorem dX4_add_13 : decode cX4_add 13 = .ok (.iastore, 1) := by decide +kernel
theorem dX4_add_14 : decode cX4_add 14 = .ok (.aload_n 0, 1) := by decide +kernel
theorem dX4_add_15 : decode cX4_add 15 = .ok (.getfield 15, 3) := by decide +kernel
theorem dX4_add_18 : decode cX4_add 18 = .ok (.iload 6, 2) := by decide +kernel
theorem dX4_add_20 : decode cX4_add 20 = .ok (.iload_n 2, 1) := by decide +kernel
theorem dX4_add_21 : decode cX4_add 21 = .ok (.iastore, 1) := by decide +kernel
theorem dX4_add_22 : decode cX4_add 22 = .ok (.aload_n 0, 1) := by decide +kernel
theorem dX4_add_23 : decode cX4_add 23 = .ok (.getfield 18, 3) := by decide +kernel
theorem dX4_add_26 : decode cX4_add 26 = .ok (.iload 6, 2) := by decide +kernel
theorem dX4_add_28 : decode cX4_add 28 = .ok (.iload_n 3, 1) := by decide +kernel
theorem dX4_add_29 : decode cX4_add 29 = .ok (.bastore, 1) := by decide +kernel
theorem dX4_add_30 : decode cX4_add 30 = .ok (.aload_n 0, 1) := by decide +kernel
theorem dX4_add_31 : decode cX4_add 31 = .ok (.getfield 22, 3) := by decide +kernel
theorem dX4_add_34 : decode cX4_add 34 = .ok (.iload 6, 2) := by decide +kernel
theorem dX4_add_36 : decode cX4_add 36 = .ok (.iload 4, 2) := by decide +kernel
theorem dX4_add_38 : decode cX4_add 38 = .ok (.iastore, 1) := by decide +kernel
theorem dX4_add_39 : decode cX4_add 39 = .ok (.aload_n 0, 1) := by decide +kernel
theorem dX4_add_40 : decode cX4_add 40 = .ok (.getfield 25, 3) := by decide +kernel
theorem dX4_add_43 : decode cX4_add 43 = .ok (.iload 6, 2) := by decide +kernel
theorem dX4_add_45 : decode cX4_add 45 = .ok (.iload 5, 2) := by decide +kernel
theorem dX4_add_47 : decode cX4_add 47 = .ok (.iastore, 1) := by decide +kernel
theorem dX4_add_48 : decode cX4_add 48 = .ok (.aload_n 0, 1) := by decide +kernel
theorem dX4_add_49 : decode cX4_add 49 = .ok (.dup, 1) := by decide +kernel
theorem dX4_add_50 : decode cX4_add 50 = .ok (.getfield 32, 3) := by decide +kernel
theorem dX4_add_53 : decode cX4_add 53 = .ok (.iconst 1, 1) := by decide +kernel
theorem dX4_add_54 : decode cX4_add 54 = .ok (.iadd, 1) := by decide +kernel
theorem dX4_add_55 : decode cX4_add 55 = .ok (.putfield 32, 3) := by decide +kernel
theorem dX4_add_58 : decode cX4_add 58 = .ok (.iload 6, 2) := by decide +kernel
theorem dX4_add_60 : decode cX4_add 60 = .ok (.ireturn, 1) := by decide +kernel
theorem dX4_flit_0 : decode cX4_flit 0 = .ok (.iconst 4, 1) := by decide +kernel
theorem dX4_flit_1 : decode cX4_flit 1 = .ok (.iload_n 0, 1) := by decide +kernel
theorem dX4_flit_2 : decode cX4_flit 2 = .ok (.imul, 1) := by decide +kernel
theorem dX4_flit_3 : decode cX4_flit 3 = .ok (.iload_n 1, 1) := by decide +kernel
theorem dX4_flit_4 : decode cX4_flit 4 = .ok (.ifCond .eq 7, 3) := by decide +kernel
theorem dX4_flit_7 : decode cX4_flit 7 = .ok (.iconst 2, 1) := by decide +kernel
theorem dX4_flit_8 : decode cX4_flit 8 = .ok (.goto 4, 3) := by decide +kernel
theorem dX4_flit_11 : decode cX4_flit 11 = .ok (.iconst 0, 1) := by decide +kernel
theorem dX4_flit_12 : decode cX4_flit 12 = .ok (.iadd, 1) := by decide +kernel
theorem dX4_flit_13 : decode cX4_flit 13 = .ok (.iload_n 2, 1) := by decide +kernel
theorem dX4_flit_14 : decode cX4_flit 14 = .ok (.ifCond .eq 7, 3) := by decide +kernel
theorem dX4_flit_17 : decode cX4_flit 17 = .ok (.iconst 1, 1) := by decide +kernel
theorem dX4_flit_18 : decode cX4_flit 18 = .ok (.goto 4, 3) := by decide +kernel
theorem dX4_flit_21 : decode cX4_flit 21 = .ok (.iconst 0, 1) := by decide +kernel
theorem dX4_flit_22 : decode cX4_flit 22 = .ok (.iadd, 1) := by decide +kernel
theorem dX4_flit_23 : decode cX4_flit 23 = .ok (.ireturn, 1) := by decide +kernel
theorem dX4_number_0 : decode cX4_number 0 = .ok (.iload_n 0, 1) := by decide +kernel
theorem dX4_number_1 : decode cX4_number 1 = .ok (.iconst 4, 1) := by decide +kernel
theorem dX4_number_2 : decode cX4_number 2 = .ok (.idiv, 1) := by decide +kernel
theorem dX4_number_3 : decode cX4_number 3 = .ok (.ireturn, 1) := by decide +kernel
theorem dX4_isOfReply_0 : decode cX4_isOfReply 0 = .ok (.iload_n 0, 1) := by decide +kernel
theorem dX4_isOfReply_1 : decode cX4_isOfReply 1 = .ok (.iconst 2, 1) := by decide +kernel
theorem dX4_isOfReply_2 : decode cX4_isOfReply 2 = .ok (.iand, 1) := by decide +kernel
theorem dX4_isOfReply_3 : decode cX4_isOfReply 3 = .ok (.ifCond .eq 7, 3) := by decide +kernel
theorem dX4_isOfReply_6 : decode cX4_isOfReply 6 = .ok (.iconst 1, 1) := by decide +kernel
theorem dX4_isOfReply_7 : decode cX4_isOfReply 7 = .ok (.goto 4, 3) := by decide +kernel
theorem dX4_isOfReply_10 : decode cX4_isOfReply 10 = .ok (.iconst 0, 1) := by decide +kernel
theorem dX4_isOfReply_11 : decode cX4_isOfReply 11 = .ok (.ireturn, 1) := by decide +kernel
theorem dX4_isLast_0 : decode cX4_isLast 0 = .ok (.iload_n 0, 1) := by decide +kernel
theorem dX4_isLast_1 : decode cX4_isLast 1 = .ok (.iconst 1, 1) := by decide +kernel
theorem dX4_isLast_2 : decode cX4_isLast 2 = .ok (.iand, 1) := by decide +kernel
theorem dX4_isLast_3 : decode cX4_isLast 3 = .ok (.ifCond .eq 7, 3) := by decide +kernel
theorem dX4_isLast_6 : decode cX4_isLast 6 = .ok (.iconst 1, 1) := by decide +kernel
theorem dX4_isLast_7 : decode cX4_isLast 7 = .ok (.goto 4, 3) := by decide +kernel
theorem dX4_isLast_10 : decode cX4_isLast 10 = .ok (.iconst 0, 1) := by decide +kernel
theorem dX4_isLast_11 : decode cX4_isLast 11 = .ok (.ireturn, 1) := by decide +kernel
theorem dX4_goal_0 : decode cX4_goal 0 = .ok (.iload_n 1, 1) := by decide +kernel
theorem dX4_goal_1 : decode cX4_goal 1 = .ok (.invokestatic 36, 3) := by decide +kernel
theorem dX4_goal_4 : decode cX4_goal 4 = .ok (.ifCond .eq 15, 3) := by decide +kernel
theorem dX4_goal_7 : decode cX4_goal 7 = .ok (.aload_n 0, 1) := by decide +kernel
theorem dX4_goal_8 : decode cX4_goal 8 = .ok (.getfield 9, 3) := by decide +kernel
theorem dX4_goal_11 : decode cX4_goal 11 = .ok (.iload_n 1, 1) := by decide +kernel
theorem dX4_goal_12 : decode cX4_goal 12 = .ok (.invokestatic 40, 3) := by decide +kernel
theorem dX4_goal_15 : decode cX4_goal 15 = .ok (.iaload, 1) := by decide +kernel
theorem dX4_goal_16 : decode cX4_goal 16 = .ok (.goto 12, 3) := by decide +kernel
theorem dX4_goal_19 : decode cX4_goal 19 = .ok (.aload_n 0, 1) := by decide +kernel
theorem dX4_goal_20 : decode cX4_goal 20 = .ok (.getfield 15, 3) := by decide +kernel
theorem dX4_goal_23 : decode cX4_goal 23 = .ok (.iload_n 1, 1) := by decide +kernel
theorem dX4_goal_24 : decode cX4_goal 24 = .ok (.invokestatic 40, 3) := by decide +kernel
theorem dX4_goal_27 : decode cX4_goal 27 = .ok (.iaload, 1) := by decide +kernel
theorem dX4_goal_28 : decode cX4_goal 28 = .ok (.ireturn, 1) := by decide +kernel
theorem dX4_channel_0 : decode cX4_channel 0 = .ok (.aload_n 0, 1) := by decide +kernel
theorem dX4_channel_1 : decode cX4_channel 1 = .ok (.getfield 9, 3) := by decide +kernel
theorem dX4_channel_4 : decode cX4_channel 4 = .ok (.iload_n 1, 1) := by decide +kernel
theorem dX4_channel_5 : decode cX4_channel 5 = .ok (.iaload, 1) := by decide +kernel
theorem dX4_channel_6 : decode cX4_channel 6 = .ok (.aload_n 0, 1) := by decide +kernel
theorem dX4_channel_7 : decode cX4_channel 7 = .ok (.getfield 15, 3) := by decide +kernel
theorem dX4_channel_10 : decode cX4_channel 10 = .ok (.iload_n 1, 1) := by decide +kernel
theorem dX4_channel_11 : decode cX4_channel 11 = .ok (.iaload, 1) := by decide +kernel
theorem dX4_channel_12 : decode cX4_channel 12 = .ok (.iadd, 1) := by decide +kernel
theorem dX4_channel_13 : decode cX4_channel 13 = .ok (.aload_n 0, 1) := by decide +kernel
theorem dX4_channel_14 : decode cX4_channel 14 = .ok (.getfield 28, 3) := by decide +kernel
theorem dX4_channel_17 : decode cX4_channel 17 = .ok (.getfield 44, 3) := by decide +kernel
theorem dX4_channel_20 : decode cX4_channel 20 = .ok (.irem, 1) := by decide +kernel
theorem dX4_channel_21 : decode cX4_channel 21 = .ok (.istore_n 3, 1) := by decide +kernel
theorem dX4_channel_22 : decode cX4_channel 22 = .ok (.iload_n 2, 1) := by decide +kernel
theorem dX4_channel_23 : decode cX4_channel 23 = .ok (.ifCond .eq 15, 3) := by decide +kernel
theorem dX4_channel_26 : decode cX4_channel 26 = .ok (.iload_n 3, 1) := by decide +kernel
theorem dX4_channel_27 : decode cX4_channel 27 = .ok (.aload_n 0, 1) := by decide +kernel
theorem dX4_channel_28 : decode cX4_channel 28 = .ok (.getfield 28, 3) := by decide +kernel
theorem dX4_channel_31 : decode cX4_channel 31 = .ok (.getfield 44, 3) := by decide +kernel
theorem dX4_channel_34 : decode cX4_channel 34 = .ok (.iadd, 1) := by decide +kernel
theorem dX4_channel_35 : decode cX4_channel 35 = .ok (.goto 4, 3) := by decide +kernel
theorem dX4_channel_38 : decode cX4_channel 38 = .ok (.iload_n 3, 1) := by decide +kernel
theorem dX4_channel_39 : decode cX4_channel 39 = .ok (.ireturn, 1) := by decide +kernel
theorem dX4_length_0 : decode cX4_length 0 = .ok (.aload_n 0, 1) := by decide +kernel
theorem dX4_length_1 : decode cX4_length 1 = .ok (.getfield 18, 3) := by decide +kernel
theorem dX4_length_4 : decode cX4_length 4 = .ok (.iload_n 1, 1) := by decide +kernel
theorem dX4_length_5 : decode cX4_length 5 = .ok (.baload, 1) := by decide +kernel
theorem dX4_length_6 : decode cX4_length 6 = .ok (.ifCond .ne 5, 3) := by decide +kernel
theorem dX4_length_9 : decode cX4_length 9 = .ok (.iconst 2, 1) := by decide +kernel
theorem dX4_length_10 : decode cX4_length 10 = .ok (.ireturn, 1) := by decide +kernel
theorem dX4_length_11 : decode cX4_length 11 = .ok (.iload_n 2, 1) := by decide +kernel
theorem dX4_length_12 : decode cX4_length 12 = .ok (.ifCond .eq 7, 3) := by decide +kernel
theorem dX4_length_15 : decode cX4_length 15 = .ok (.iconst 1, 1) := by decide +kernel
theorem dX4_length_16 : decode cX4_length 16 = .ok (.goto 4, 3) := by decide +kernel
theorem dX4_length_19 : decode cX4_length 19 = .ok (.iconst 3, 1) := by decide +kernel
theorem dX4_length_20 : decode cX4_length 20 = .ok (.ireturn, 1) := by decide +kernel
theorem dX5_init_0 : decode cX5_init 0 = .ok (.aload_n 0, 1) := by decide +kernel
theorem dX5_init_1 : decode cX5_init 1 = .ok (.invokespecial 1, 3) := by decide +kernel
theorem dX5_init_4 : decode cX5_init 4 = .ok (.aload_n 0, 1) := by decide +kernel
theorem dX5_init_5 : decode cX5_init 5 = .ok (.iload_n 3, 1) := by decide +kernel
theorem dX5_init_6 : decode cX5_init 6 = .ok (.putfield 7, 3) := by decide +kernel
theorem dX5_init_9 : decode cX5_init 9 = .ok (.aload_n 0, 1) := by decide +kernel
theorem dX5_init_10 : decode cX5_init 10 = .ok (.iload_n 2, 1) := by decide +kernel
theorem dX5_init_11 : decode cX5_init 11 = .ok (.putfield 13, 3) := by decide +kernel
theorem dX5_init_14 : decode cX5_init 14 = .ok (.aload_n 0, 1) := by decide +kernel
theorem dX5_init_15 : decode cX5_init 15 = .ok (.iload_n 1, 1) := by decide +kernel
theorem dX5_init_16 : decode cX5_init 16 = .ok (.iload_n 2, 1) := by decide +kernel
theorem dX5_init_17 : decode cX5_init 17 = .ok (.imul, 1) := by decide +kernel
theorem dX5_init_18 : decode cX5_init 18 = .ok (.newarray .int, 2) := by decide +kernel
theorem dX5_init_20 : decode cX5_init 20 = .ok (.putfield 17, 3) := by decide +kernel
theorem dX5_init_23 : decode cX5_init 23 = .ok (.aload_n 0, 1) := by decide +kernel
theorem dX5_init_24 : decode cX5_init 24 = .ok (.iload_n 1, 1) := by decide +kernel
theorem dX5_init_25 : decode cX5_init 25 = .ok (.newarray .int, 2) := by decide +kernel
theorem dX5_init_27 : decode cX5_init 27 = .ok (.putfield 21, 3) := by decide +kernel
theorem dX5_init_30 : decode cX5_init 30 = .ok (.aload_n 0, 1) := by decide +kernel
theorem dX5_init_31 : decode cX5_init 31 = .ok (.iload_n 1, 1) := by decide +kernel
theorem dX5_init_32 : decode cX5_init 32 = .ok (.newarray .int, 2) := by decide +kernel
theorem dX5_init_34 : decode cX5_init 34 = .ok (.putfield 24, 3) := by decide +kernel
theorem dX5_init_37 : decode cX5_init 37 = .ok (.return_, 1) := by decide +kernel
theorem dX5_isFull_0 : decode cX5_isFull 0 = .ok (.aload_n 0, 1) := by decide +kernel
theorem dX5_isFull_1 : decode cX5_isFull 1 = .ok (.getfield 21, 3) := by decide +kernel
theorem dX5_isFull_4 : decode cX5_isFull 4 = .ok (.iload_n 1, 1) := by decide +kernel
theorem dX5_isFull_5 : decode cX5_isFull 5 = .ok (.iaload, 1) := by decide +kernel
theorem dX5_isFull_6 : decode cX5_isFull 6 = .ok (.aload_n 0, 1) := by decide +kernel
theorem dX5_isFull_7 : decode cX5_isFull 7 = .ok (.getfield 13, 3) := by decide +kernel
theorem dX5_isFull_10 : decode cX5_isFull 10 = .ok (.if_icmp .lt 7, 3) := by decide +kernel
theorem dX5_isFull_13 : decode cX5_isFull 13 = .ok (.iconst 1, 1) := by decide +kernel
theorem dX5_isFull_14 : decode cX5_isFull 14 = .ok (.goto 4, 3) := by decide +kernel
theorem dX5_isFull_17 : decode cX5_isFull 17 = .ok (.iconst 0, 1) := by decide +kernel
theorem dX5_isFull_18 : decode cX5_isFull 18 = .ok (.ireturn, 1) := by decide +kernel
theorem dX5_firstNumber_0 : decode cX5_firstNumber 0 = .ok (.aload_n 0, 1) := by decide +kernel
theorem dX5_firstNumber_1 : decode cX5_firstNumber 1 = .ok (.getfield 17, 3) := by decide +kernel
theorem dX5_firstNumber_4 : decode cX5_firstNumber 4 = .ok (.iload_n 1, 1) := by decide +kernel
theorem dX5_firstNumber_5 : decode cX5_firstNumber 5 = .ok (.aload_n 0, 1) := by decide +kernel
theorem dX5_firstNumber_6 : decode cX5_firstNumber 6 = .ok (.getfield 13, 3) := by decide +kernel
theorem dX5_firstNumber_9 : decode cX5_firstNumber 9 = .ok (.imul, 1) := by decide +kernel
theorem dX5_firstNumber_10 : decode cX5_firstNumber 10 = .ok (.iaload, 1) := by decide +kernel
theorem dX5_firstNumber_11 : decode cX5_firstNumber 11 = .ok (.ireturn, 1) := by decide +kernel
theorem dX5_add_0 : decode cX5_add 0 = .ok (.aload_n 0, 1) := by decide +kernel
theorem dX5_add_1 : decode cX5_add 1 = .ok (.getfield 17, 3) := by decide +kernel
theorem dX5_add_4 : decode cX5_add 4 = .ok (.iload_n 1, 1) := by decide +kernel
theorem dX5_add_5 : decode cX5_add 5 = .ok (.aload_n 0, 1) := by decide +kernel
theorem dX5_add_6 : decode cX5_add 6 = .ok (.getfield 13, 3) := by decide +kernel
theorem dX5_add_9 : decode cX5_add 9 = .ok (.imul, 1) := by decide +kernel
theorem dX5_add_10 : decode cX5_add 10 = .ok (.aload_n 0, 1) := by decide +kernel
theorem dX5_add_11 : decode cX5_add 11 = .ok (.getfield 21, 3) := by decide +kernel
theorem dX5_add_14 : decode cX5_add 14 = .ok (.iload_n 1, 1) := by decide +kernel
theorem dX5_add_15 : decode cX5_add 15 = .ok (.iaload, 1) := by decide +kernel
theorem dX5_add_16 : decode cX5_add 16 = .ok (.iadd, 1) := by decide +kernel
theorem dX5_add_17 : decode cX5_add 17 = .ok (.iload_n 2, 1) := by decide +kernel
theorem dX5_add_18 : decode cX5_add 18 = .ok (.iastore, 1) := by decide +kernel
theorem dX5_add_19 : decode cX5_add 19 = .ok (.aload_n 0, 1) := by decide +kernel
theorem dX5_add_20 : decode cX5_add 20 = .ok (.getfield 21, 3) := by decide +kernel
theorem dX5_add_23 : decode cX5_add 23 = .ok (.iload_n 1, 1) := by decide +kernel
theorem dX5_add_24 : decode cX5_add 24 = .ok (.dup2, 1) := by decide +kernel
theorem dX5_add_25 : decode cX5_add 25 = .ok (.iaload, 1) := by decide +kernel
theorem dX5_add_26 : decode cX5_add 26 = .ok (.iconst 1, 1) := by decide +kernel
theorem dX5_add_27 : decode cX5_add 27 = .ok (.iadd, 1) := by decide +kernel
theorem dX5_add_28 : decode cX5_add 28 = .ok (.iastore, 1) := by decide +kernel
theorem dX5_add_29 : decode cX5_add 29 = .ok (.return_, 1) := by decide +kernel
theorem dX5_removeFirst_0 : decode cX5_removeFirst 0 = .ok (.iload_n 1, 1) := by decide +kernel
theorem dX5_removeFirst_1 : decode cX5_removeFirst 1 = .ok (.aload_n 0, 1) := by decide +kernel
theorem dX5_removeFirst_2 : decode cX5_removeFirst 2 = .ok (.getfield 13, 3) := by decide +kernel
theorem dX5_removeFirst_5 : decode cX5_removeFirst 5 = .ok (.imul, 1) := by decide +kernel
theorem dX5_removeFirst_6 : decode cX5_removeFirst 6 = .ok (.istore_n 2, 1) := by decide +kernel
theorem dX5_removeFirst_7 : decode cX5_removeFirst 7 = .ok (.iconst 1, 1) := by decide +kernel
theorem dX5_removeFirst_8 : decode cX5_removeFirst 8 = .ok (.istore_n 3, 1) := by decide +kernel
theorem dX5_removeFirst_9 : decode cX5_removeFirst 9 = .ok (.iload_n 3, 1) := by decide +kernel
theorem dX5_removeFirst_10 : decode cX5_removeFirst 10 = .ok (.aload_n 0, 1) := by decide +kernel
theorem dX5_removeFirst_11 : decode cX5_removeFirst 11 = .ok (.getfield 21, 3) := by decide +kernel
theorem dX5_removeFirst_14 : decode cX5_removeFirst 14 = .ok (.iload_n 1, 1) := by decide +kernel
theorem dX5_removeFirst_15 : decode cX5_removeFirst 15 = .ok (.iaload, 1) := by decide +kernel
theorem dX5_removeFirst_16 : decode cX5_removeFirst 16 = .ok (.if_icmp .ge 27, 3) := by decide +kernel
theorem dX5_removeFirst_19 : decode cX5_removeFirst 19 = .ok (.aload_n 0, 1) := by decide +kernel
theorem dX5_removeFirst_20 : decode cX5_removeFirst 20 = .ok (.getfield 17, 3) := by decide +kernel
theorem dX5_removeFirst_23 : decode cX5_removeFirst 23 = .ok (.iload_n 2, 1) := by decide +kernel
theorem dX5_removeFirst_24 : decode cX5_removeFirst 24 = .ok (.iload_n 3, 1) := by decide +kernel
theorem dX5_removeFirst_25 : decode cX5_removeFirst 25 = .ok (.iadd, 1) := by decide +kernel
theorem dX5_removeFirst_26 : decode cX5_removeFirst 26 = .ok (.iconst 1, 1) := by decide +kernel
theorem dX5_removeFirst_27 : decode cX5_removeFirst 27 = .ok (.isub, 1) := by decide +kernel
theorem dX5_removeFirst_28 : decode cX5_removeFirst 28 = .ok (.aload_n 0, 1) := by decide +kernel
theorem dX5_removeFirst_29 : decode cX5_removeFirst 29 = .ok (.getfield 17, 3) := by decide +kernel
theorem dX5_removeFirst_32 : decode cX5_removeFirst 32 = .ok (.iload_n 2, 1) := by decide +kernel
theorem dX5_removeFirst_33 : decode cX5_removeFirst 33 = .ok (.iload_n 3, 1) := by decide +kernel
theorem dX5_removeFirst_34 : decode cX5_removeFirst 34 = .ok (.iadd, 1) := by decide +kernel
theorem dX5_removeFirst_35 : decode cX5_removeFirst 35 = .ok (.iaload, 1) := by decide +kernel
theorem dX5_removeFirst_36 : decode cX5_removeFirst 36 = .ok (.iastore, 1) := by decide +kernel
theorem dX5_removeFirst_37 : decode cX5_removeFirst 37 = .ok (.iinc 3 1, 3) := by decide +kernel
theorem dX5_removeFirst_40 : decode cX5_removeFirst 40 = .ok (.goto (-31), 3) := by decide +kernel
theorem dX5_removeFirst_43 : decode cX5_removeFirst 43 = .ok (.aload_n 0, 1) := by decide +kernel
theorem dX5_removeFirst_44 : decode cX5_removeFirst 44 = .ok (.getfield 21, 3) := by decide +kernel
theorem dX5_removeFirst_47 : decode cX5_removeFirst 47 = .ok (.iload_n 1, 1) := by decide +kernel
theorem dX5_removeFirst_48 : decode cX5_removeFirst 48 = .ok (.dup2, 1) := by decide +kernel
theorem dX5_removeFirst_49 : decode cX5_removeFirst 49 = .ok (.iaload, 1) := by decide +kernel
theorem dX5_removeFirst_50 : decode cX5_removeFirst 50 = .ok (.iconst 1, 1) := by decide +kernel
theorem dX5_removeFirst_51 : decode cX5_removeFirst 51 = .ok (.isub, 1) := by decide +kernel
theorem dX5_removeFirst_52 : decode cX5_removeFirst 52 = .ok (.iastore, 1) := by decide +kernel
theorem dX5_removeFirst_53 : decode cX5_removeFirst 53 = .ok (.aload_n 0, 1) := by decide +kernel
theorem dX5_removeFirst_54 : decode cX5_removeFirst 54 = .ok (.getfield 24, 3) := by decide +kernel
theorem dX5_removeFirst_57 : decode cX5_removeFirst 57 = .ok (.iload_n 1, 1) := by decide +kernel
theorem dX5_removeFirst_58 : decode cX5_removeFirst 58 = .ok (.iconst 0, 1) := by decide +kernel
theorem dX5_removeFirst_59 : decode cX5_removeFirst 59 = .ok (.iastore, 1) := by decide +kernel
theorem dX5_removeFirst_60 : decode cX5_removeFirst 60 = .ok (.return_, 1) := by decide +kernel
theorem dX2_init_0 : decode cX2_init 0 = .ok (.aload_n 0, 1) := by decide +kernel
theorem dX2_init_1 : decode cX2_init 1 = .ok (.invokespecial 3, 3) := by decide +kernel
theorem dX2_init_4 : decode cX2_init 4 = .ok (.aload_n 0, 1) := by decide +kernel
theorem dX2_init_5 : decode cX2_init 5 = .ok (.new 9, 3) := by decide +kernel
theorem dX2_init_8 : decode cX2_init 8 = .ok (.dup, 1) := by decide +kernel
theorem dX2_init_9 : decode cX2_init 9 = .ok (.invokespecial 11, 3) := by decide +kernel
theorem dX2_init_12 : decode cX2_init 12 = .ok (.putfield 12, 3) := by decide +kernel
theorem dX2_init_15 : decode cX2_init 15 = .ok (.aload_n 0, 1) := by decide +kernel
theorem dX2_init_16 : decode cX2_init 16 = .ok (.aload_n 1, 1) := by decide +kernel
theorem dX2_init_17 : decode cX2_init 17 = .ok (.putfield 18, 3) := by decide +kernel
theorem dX2_init_20 : decode cX2_init 20 = .ok (.aload_n 0, 1) := by decide +kernel
theorem dX2_init_21 : decode cX2_init 21 = .ok (.aload_n 2, 1) := by decide +kernel
theorem dX2_init_22 : decode cX2_init 22 = .ok (.putfield 22, 3) := by decide +kernel
theorem dX2_init_25 : decode cX2_init 25 = .ok (.aload_n 0, 1) := by decide +kernel
theorem dX2_init_26 : decode cX2_init 26 = .ok (.aload_n 3, 1) := by decide +kernel
theorem dX2_init_27 : decode cX2_init 27 = .ok (.putfield 26, 3) := by decide +kernel
theorem dX2_init_30 : decode cX2_init 30 = .ok (.aload_n 0, 1) := by decide +kernel
theorem dX2_init_31 : decode cX2_init 31 = .ok (.new 30, 3) := by decide +kernel
theorem dX2_init_34 : decode cX2_init 34 = .ok (.dup, 1) := by decide +kernel
theorem dX2_init_35 : decode cX2_init 35 = .ok (.aload_n 1, 1) := by decide +kernel
theorem dX2_init_36 : decode cX2_init 36 = .ok (.getfield 32, 3) := by decide +kernel
theorem dX2_init_39 : decode cX2_init 39 = .ok (.iconst 4, 1) := by decide +kernel
theorem dX2_init_40 : decode cX2_init 40 = .ok (.iconst 0, 1) := by decide +kernel
theorem dX2_init_41 : decode cX2_init 41 = .ok (.invokespecial 38, 3) := by decide +kernel
theorem dX2_init_44 : decode cX2_init 44 = .ok (.putfield 41, 3) := by decide +kernel
theorem dX2_init_47 : decode cX2_init 47 = .ok (.aload_n 0, 1) := by decide +kernel
theorem dX2_init_48 : decode cX2_init 48 = .ok (.new 30, 3) := by decide +kernel
theorem dX2_init_51 : decode cX2_init 51 = .ok (.dup, 1) := by decide +kernel
theorem dX2_init_52 : decode cX2_init 52 = .ok (.aload_n 1, 1) := by decide +kernel
theorem dX2_init_53 : decode cX2_init 53 = .ok (.getfield 32, 3) := by decide +kernel
theorem dX2_init_56 : decode cX2_init 56 = .ok (.iconst 2, 1) := by decide +kernel
theorem dX2_init_57 : decode cX2_init 57 = .ok (.iconst 1, 1) := by decide +kernel
theorem dX2_init_58 : decode cX2_init 58 = .ok (.invokespecial 38, 3) := by decide +kernel
theorem dX2_init_61 : decode cX2_init 61 = .ok (.putfield 45, 3) := by decide +kernel
theorem dX2_init_64 : decode cX2_init 64 = .ok (.aload_n 0, 1) := by decide +kernel
theorem dX2_init_65 : decode cX2_init 65 = .ok (.aload_n 1, 1) := by decide +kernel
theorem dX2_init_66 : decode cX2_init 66 = .ok (.getfield 32, 3) := by decide +kernel
theorem dX2_init_69 : decode cX2_init 69 = .ok (.bipush 8, 2) := by decide +kernel
theorem dX2_init_71 : decode cX2_init 71 = .ok (.imul, 1) := by decide +kernel
theorem dX2_init_72 : decode cX2_init 72 = .ok (.newarray .int, 2) := by decide +kernel
theorem dX2_init_74 : decode cX2_init 74 = .ok (.putfield 48, 3) := by decide +kernel
theorem dX2_init_77 : decode cX2_init 77 = .ok (.aload_n 0, 1) := by decide +kernel
theorem dX2_init_78 : decode cX2_init 78 = .ok (.aload_n 1, 1) := by decide +kernel
theorem dX2_init_79 : decode cX2_init 79 = .ok (.getfield 32, 3) := by decide +kernel
theorem dX2_init_82 : decode cX2_init 82 = .ok (.newarray .boolean, 2) := by decide +kernel
theorem dX2_init_84 : decode cX2_init 84 = .ok (.putfield 52, 3) := by decide +kernel
theorem dX2_init_87 : decode cX2_init 87 = .ok (.return_, 1) := by decide +kernel
theorem dX2_takeAll_0 : decode cX2_takeAll 0 = .ok (.iconst 0, 1) := by decide +kernel
theorem dX2_takeAll_1 : decode cX2_takeAll 1 = .ok (.istore_n 2, 1) := by decide +kernel
theorem dX2_takeAll_2 : decode cX2_takeAll 2 = .ok (.iload_n 2, 1) := by decide +kernel
theorem dX2_takeAll_3 : decode cX2_takeAll 3 = .ok (.aload_n 0, 1) := by decide +kernel
theorem dX2_takeAll_4 : decode cX2_takeAll 4 = .ok (.getfield 18, 3) := by decide +kernel
theorem dX2_takeAll_7 : decode cX2_takeAll 7 = .ok (.getfield 32, 3) := by decide +kernel
theorem dX2_takeAll_10 : decode cX2_takeAll 10 = .ok (.if_icmp .ge 85, 3) := by decide +kernel
theorem dX2_takeAll_13 : decode cX2_takeAll 13 = .ok (.iconst 0, 1) := by decide +kernel
theorem dX2_takeAll_14 : decode cX2_takeAll 14 = .ok (.istore_n 3, 1) := by decide +kernel
theorem dX2_takeAll_15 : decode cX2_takeAll 15 = .ok (.iload_n 3, 1) := by decide +kernel
theorem dX2_takeAll_16 : decode cX2_takeAll 16 = .ok (.aload_n 0, 1) := by decide +kernel
theorem dX2_takeAll_17 : decode cX2_takeAll 17 = .ok (.getfield 18, 3) := by decide +kernel
theorem dX2_takeAll_20 : decode cX2_takeAll 20 = .ok (.getfield 56, 3) := by decide +kernel
theorem dX2_takeAll_23 : decode cX2_takeAll 23 = .ok (.if_icmp .ge 66, 3) := by decide +kernel
theorem dX2_takeAll_26 : decode cX2_takeAll 26 = .ok (.aload_n 0, 1) := by decide +kernel
theorem dX2_takeAll_27 : decode cX2_takeAll 27 = .ok (.getfield 18, 3) := by decide +kernel
theorem dX2_takeAll_30 : decode cX2_takeAll 30 = .ok (.iload_n 2, 1) := by decide +kernel
theorem dX2_takeAll_31 : decode cX2_takeAll 31 = .ok (.iconst 5, 1) := by decide +kernel
theorem dX2_takeAll_32 : decode cX2_takeAll 32 = .ok (.iload_n 3, 1) := by decide +kernel
theorem dX2_takeAll_33 : decode cX2_takeAll 33 = .ok (.invokevirtual 59, 3) := by decide +kernel
theorem dX2_takeAll_36 : decode cX2_takeAll 36 = .ok (.istore 4, 2) := by decide +kernel
theorem dX2_takeAll_38 : decode cX2_takeAll 38 = .ok (.aload_n 0, 1) := by decide +kernel
theorem dX2_takeAll_39 : decode cX2_takeAll 39 = .ok (.getfield 22, 3) := by decide +kernel
theorem dX2_takeAll_42 : decode cX2_takeAll 42 = .ok (.getfield 63, 3) := by decide +kernel
theorem dX2_takeAll_45 : decode cX2_takeAll 45 = .ok (.iload 4, 2) := by decide +kernel
theorem dX2_takeAll_47 : decode cX2_takeAll 47 = .ok (.iaload, 1) := by decide +kernel
theorem dX2_takeAll_48 : decode cX2_takeAll 48 = .ok (.ifCond .le 35, 3) := by decide +kernel
theorem dX2_takeAll_51 : decode cX2_takeAll 51 = .ok (.aload_n 0, 1) := by decide +kernel
theorem dX2_takeAll_52 : decode cX2_takeAll 52 = .ok (.iload_n 2, 1) := by decide +kernel
theorem dX2_takeAll_53 : decode cX2_takeAll 53 = .ok (.aload_n 0, 1) := by decide +kernel
theorem dX2_takeAll_54 : decode cX2_takeAll 54 = .ok (.getfield 22, 3) := by decide +kernel
theorem dX2_takeAll_57 : decode cX2_takeAll 57 = .ok (.iload 4, 2) := by decide +kernel
theorem dX2_takeAll_59 : decode cX2_takeAll 59 = .ok (.invokevirtual 68, 3) := by decide +kernel
theorem dX2_takeAll_62 : decode cX2_takeAll 62 = .ok (.invokevirtual 72, 3) := by decide +kernel
theorem dX2_takeAll_65 : decode cX2_takeAll 65 = .ok (.ifCond .eq 18, 3) := by decide +kernel
theorem dX2_takeAll_68 : decode cX2_takeAll 68 = .ok (.aload_n 0, 1) := by decide +kernel
theorem dX2_takeAll_69 : decode cX2_takeAll 69 = .ok (.iload_n 2, 1) := by decide +kernel
theorem dX2_takeAll_70 : decode cX2_takeAll 70 = .ok (.aload_n 0, 1) := by decide +kernel
theorem dX2_takeAll_71 : decode cX2_takeAll 71 = .ok (.getfield 22, 3) := by decide +kernel
theorem dX2_takeAll_74 : decode cX2_takeAll 74 = .ok (.iload 4, 2) := by decide +kernel
theorem dX2_takeAll_76 : decode cX2_takeAll 76 = .ok (.invokevirtual 76, 3) := by decide +kernel
theorem dX2_takeAll_79 : decode cX2_takeAll 79 = .ok (.iload_n 1, 1) := by decide +kernel
theorem dX2_takeAll_80 : decode cX2_takeAll 80 = .ok (.invokevirtual 79, 3) := by decide +kernel
theorem dX2_takeAll_83 : decode cX2_takeAll 83 = .ok (.iinc 3 1, 3) := by decide +kernel
theorem dX2_takeAll_86 : decode cX2_takeAll 86 = .ok (.goto (-71), 3) := by decide +kernel
theorem dX2_takeAll_89 : decode cX2_takeAll 89 = .ok (.iinc 2 1, 3) := by decide +kernel
theorem dX2_takeAll_92 : decode cX2_takeAll 92 = .ok (.goto (-90), 3) := by decide +kernel
theorem dX2_takeAll_95 : decode cX2_takeAll 95 = .ok (.return_, 1) := by decide +kernel
theorem dX2_mayTake_0 : decode cX2_mayTake 0 = .ok (.iload_n 2, 1) := by decide +kernel
theorem dX2_mayTake_1 : decode cX2_mayTake 1 = .ok (.invokestatic 83, 3) := by decide +kernel
theorem dX2_mayTake_4 : decode cX2_mayTake 4 = .ok (.ifCond .ne 10, 3) := by decide +kernel
theorem dX2_mayTake_7 : decode cX2_mayTake 7 = .ok (.iload_n 2, 1) := by decide +kernel
theorem dX2_mayTake_8 : decode cX2_mayTake 8 = .ok (.invokestatic 89, 3) := by decide +kernel
theorem dX2_mayTake_11 : decode cX2_mayTake 11 = .ok (.ifCond .ne 5, 3) := by decide +kernel
theorem dX2_mayTake_14 : decode cX2_mayTake 14 = .ok (.iconst 1, 1) := by decide +kernel
theorem dX2_mayTake_15 : decode cX2_mayTake 15 = .ok (.ireturn, 1) := by decide +kernel
theorem dX2_mayTake_16 : decode cX2_mayTake 16 = .ok (.aload_n 0, 1) := by decide +kernel
theorem dX2_mayTake_17 : decode cX2_mayTake 17 = .ok (.getfield 52, 3) := by decide +kernel
theorem dX2_mayTake_20 : decode cX2_mayTake 20 = .ok (.iload_n 1, 1) := by decide +kernel
theorem dX2_mayTake_21 : decode cX2_mayTake 21 = .ok (.baload, 1) := by decide +kernel
theorem dX2_mayTake_22 : decode cX2_mayTake 22 = .ok (.ifCond .ne 18, 3) := by decide +kernel
theorem dX2_mayTake_25 : decode cX2_mayTake 25 = .ok (.aload_n 0, 1) := by decide +kernel
theorem dX2_mayTake_26 : decode cX2_mayTake 26 = .ok (.getfield 45, 3) := by decide +kernel
theorem dX2_mayTake_29 : decode cX2_mayTake 29 = .ok (.iload_n 1, 1) := by decide +kernel
theorem dX2_mayTake_30 : decode cX2_mayTake 30 = .ok (.invokevirtual 92, 3) := by decide +kernel
theorem dX2_mayTake_33 : decode cX2_mayTake 33 = .ok (.ifCond .ne 7, 3) := by decide +kernel
theorem dX2_mayTake_36 : decode cX2_mayTake 36 = .ok (.iconst 1, 1) := by decide +kernel
theorem dX2_mayTake_37 : decode cX2_mayTake 37 = .ok (.goto 4, 3) := by decide +kernel
theorem dX2_mayTake_40 : decode cX2_mayTake 40 = .ok (.iconst 0, 1) := by decide +kernel
theorem dX2_mayTake_41 : decode cX2_mayTake 41 = .ok (.ireturn, 1) := by decide +kernel
theorem dX2_accept_0 : decode cX2_accept 0 = .ok (.iload_n 2, 1) := by decide +kernel
theorem dX2_accept_1 : decode cX2_accept 1 = .ok (.invokestatic 89, 3) := by decide +kernel
theorem dX2_accept_4 : decode cX2_accept 4 = .ok (.ifCond .ne 4, 3) := by decide +kernel
theorem dX2_accept_7 : decode cX2_accept 7 = .ok (.return_, 1) := by decide +kernel
theorem dX2_accept_8 : decode cX2_accept 8 = .ok (.iload_n 2, 1) := by decide +kernel
theorem dX2_accept_9 : decode cX2_accept 9 = .ok (.invokestatic 95, 3) := by decide +kernel
theorem dX2_accept_12 : decode cX2_accept 12 = .ok (.istore 4, 2) := by decide +kernel
theorem dX2_accept_14 : decode cX2_accept 14 = .ok (.iload_n 2, 1) := by decide +kernel
theorem dX2_accept_15 : decode cX2_accept 15 = .ok (.invokestatic 83, 3) := by decide +kernel
theorem dX2_accept_18 : decode cX2_accept 18 = .ok (.ifCond .eq 16, 3) := by decide +kernel
theorem dX2_accept_21 : decode cX2_accept 21 = .ok (.aload_n 0, 1) := by decide +kernel
theorem dX2_accept_22 : decode cX2_accept 22 = .ok (.getfield 12, 3) := by decide +kernel
theorem dX2_accept_25 : decode cX2_accept 25 = .ok (.iload 4, 2) := by decide +kernel
theorem dX2_accept_27 : decode cX2_accept 27 = .ok (.iload_n 3, 1) := by decide +kernel
theorem dX2_accept_28 : decode cX2_accept 28 = .ok (.invokevirtual 98, 3) := by decide +kernel
theorem dX2_accept_31 : decode cX2_accept 31 = .ok (.goto 20, 3) := by decide +kernel
theorem dX2_accept_34 : decode cX2_accept 34 = .ok (.aload_n 0, 1) := by decide +kernel
theorem dX2_accept_35 : decode cX2_accept 35 = .ok (.iload_n 1, 1) := by decide +kernel
theorem dX2_accept_36 : decode cX2_accept 36 = .ok (.iload 4, 2) := by decide +kernel
theorem dX2_accept_38 : decode cX2_accept 38 = .ok (.invokevirtual 102, 3) := by decide +kernel
theorem dX2_accept_41 : decode cX2_accept 41 = .ok (.aload_n 0, 1) := by decide +kernel
theorem dX2_accept_42 : decode cX2_accept 42 = .ok (.getfield 45, 3) := by decide +kernel
theorem dX2_accept_45 : decode cX2_accept 45 = .ok (.iload_n 1, 1) := by decide +kernel
theorem dX2_accept_46 : decode cX2_accept 46 = .ok (.iload 4, 2) := by decide +kernel
theorem dX2_accept_48 : decode cX2_accept 48 = .ok (.invokevirtual 105, 3) := by decide +kernel
theorem dX2_accept_51 : decode cX2_accept 51 = .ok (.return_, 1) := by decide +kernel
theorem dX2_serve_0 : decode cX2_serve 0 = .ok (.iload_n 1, 1) := by decide +kernel
theorem dX2_serve_1 : decode cX2_serve 1 = .ok (.bipush 8, 2) := by decide +kernel
theorem dX2_serve_3 : decode cX2_serve 3 = .ok (.imul, 1) := by decide +kernel
theorem dX2_serve_4 : decode cX2_serve 4 = .ok (.aload_n 0, 1) := by decide +kernel
theorem dX2_serve_5 : decode cX2_serve 5 = .ok (.getfield 26, 3) := by decide +kernel
theorem dX2_serve_8 : decode cX2_serve 8 = .ok (.getfield 106, 3) := by decide +kernel
theorem dX2_serve_11 : decode cX2_serve 11 = .ok (.iload_n 2, 1) := by decide +kernel
theorem dX2_serve_12 : decode cX2_serve 12 = .ok (.iaload, 1) := by decide +kernel
theorem dX2_serve_13 : decode cX2_serve 13 = .ok (.iadd, 1) := by decide +kernel
theorem dX2_serve_14 : decode cX2_serve 14 = .ok (.istore_n 3, 1) := by decide +kernel
theorem dX2_serve_15 : decode cX2_serve 15 = .ok (.aload_n 0, 1) := by decide +kernel
theorem dX2_serve_16 : decode cX2_serve 16 = .ok (.getfield 48, 3) := by decide +kernel
theorem dX2_serve_19 : decode cX2_serve 19 = .ok (.iload_n 3, 1) := by decide +kernel
theorem dX2_serve_20 : decode cX2_serve 20 = .ok (.iaload, 1) := by decide +kernel
theorem dX2_serve_21 : decode cX2_serve 21 = .ok (.istore 4, 2) := by decide +kernel
theorem dX2_serve_23 : decode cX2_serve 23 = .ok (.aload_n 0, 1) := by decide +kernel
theorem dX2_serve_24 : decode cX2_serve 24 = .ok (.getfield 26, 3) := by decide +kernel
theorem dX2_serve_27 : decode cX2_serve 27 = .ok (.getfield 109, 3) := by decide +kernel
theorem dX2_serve_30 : decode cX2_serve 30 = .ok (.iload_n 2, 1) := by decide +kernel
theorem dX2_serve_31 : decode cX2_serve 31 = .ok (.baload, 1) := by decide +kernel
theorem dX2_serve_32 : decode cX2_serve 32 = .ok (.ifCond .eq 18, 3) := by decide +kernel
theorem dX2_serve_35 : decode cX2_serve 35 = .ok (.aload_n 0, 1) := by decide +kernel
theorem dX2_serve_36 : decode cX2_serve 36 = .ok (.getfield 48, 3) := by decide +kernel
theorem dX2_serve_39 : decode cX2_serve 39 = .ok (.iload_n 3, 1) := by decide +kernel
theorem dX2_serve_40 : decode cX2_serve 40 = .ok (.aload_n 0, 1) := by decide +kernel
theorem dX2_serve_41 : decode cX2_serve 41 = .ok (.getfield 26, 3) := by decide +kernel
theorem dX2_serve_44 : decode cX2_serve 44 = .ok (.getfield 112, 3) := by decide +kernel
theorem dX2_serve_47 : decode cX2_serve 47 = .ok (.iload_n 2, 1) := by decide +kernel
theorem dX2_serve_48 : decode cX2_serve 48 = .ok (.iaload, 1) := by decide +kernel
theorem dX2_serve_49 : decode cX2_serve 49 = .ok (.iastore, 1) := by decide +kernel
theorem dX2_serve_50 : decode cX2_serve 50 = .ok (.aload_n 0, 1) := by decide +kernel
theorem dX2_serve_51 : decode cX2_serve 51 = .ok (.getfield 26, 3) := by decide +kernel
theorem dX2_serve_54 : decode cX2_serve 54 = .ok (.getfield 112, 3) := by decide +kernel
theorem dX2_serve_57 : decode cX2_serve 57 = .ok (.iload_n 2, 1) := by decide +kernel
theorem dX2_serve_58 : decode cX2_serve 58 = .ok (.iload 4, 2) := by decide +kernel
theorem dX2_serve_60 : decode cX2_serve 60 = .ok (.iastore, 1) := by decide +kernel
theorem dX2_serve_61 : decode cX2_serve 61 = .ok (.return_, 1) := by decide +kernel
theorem dX2_sendAll_0 : decode cX2_sendAll 0 = .ok (.iconst 0, 1) := by decide +kernel
theorem dX2_sendAll_1 : decode cX2_sendAll 1 = .ok (.istore_n 1, 1) := by decide +kernel
theorem dX2_sendAll_2 : decode cX2_sendAll 2 = .ok (.iload_n 1, 1) := by decide +kernel
theorem dX2_sendAll_3 : decode cX2_sendAll 3 = .ok (.aload_n 0, 1) := by decide +kernel
theorem dX2_sendAll_4 : decode cX2_sendAll 4 = .ok (.getfield 18, 3) := by decide +kernel
theorem dX2_sendAll_7 : decode cX2_sendAll 7 = .ok (.getfield 32, 3) := by decide +kernel
theorem dX2_sendAll_10 : decode cX2_sendAll 10 = .ok (.if_icmp .ge 31, 3) := by decide +kernel
theorem dX2_sendAll_13 : decode cX2_sendAll 13 = .ok (.aload_n 0, 1) := by decide +kernel
theorem dX2_sendAll_14 : decode cX2_sendAll 14 = .ok (.iload_n 1, 1) := by decide +kernel
theorem dX2_sendAll_15 : decode cX2_sendAll 15 = .ok (.aload_n 0, 1) := by decide +kernel
theorem dX2_sendAll_16 : decode cX2_sendAll 16 = .ok (.getfield 45, 3) := by decide +kernel
theorem dX2_sendAll_19 : decode cX2_sendAll 19 = .ok (.invokevirtual 115, 3) := by decide +kernel
theorem dX2_sendAll_22 : decode cX2_sendAll 22 = .ok (.ifCond .ne 13, 3) := by decide +kernel
theorem dX2_sendAll_25 : decode cX2_sendAll 25 = .ok (.aload_n 0, 1) := by decide +kernel
theorem dX2_sendAll_26 : decode cX2_sendAll 26 = .ok (.iload_n 1, 1) := by decide +kernel
theorem dX2_sendAll_27 : decode cX2_sendAll 27 = .ok (.aload_n 0, 1) := by decide +kernel
theorem dX2_sendAll_28 : decode cX2_sendAll 28 = .ok (.getfield 41, 3) := by decide +kernel
theorem dX2_sendAll_31 : decode cX2_sendAll 31 = .ok (.invokevirtual 115, 3) := by decide +kernel
theorem dX2_sendAll_34 : decode cX2_sendAll 34 = .ok (.pop, 1) := by decide +kernel
theorem dX2_sendAll_35 : decode cX2_sendAll 35 = .ok (.iinc 1 1, 3) := by decide +kernel
theorem dX2_sendAll_38 : decode cX2_sendAll 38 = .ok (.goto (-36), 3) := by decide +kernel
theorem dX2_sendAll_41 : decode cX2_sendAll 41 = .ok (.return_, 1) := by decide +kernel
theorem dX2_sendFirst_0 : decode cX2_sendFirst 0 = .ok (.aload_n 2, 1) := by decide +kernel
theorem dX2_sendFirst_1 : decode cX2_sendFirst 1 = .ok (.getfield 119, 3) := by decide +kernel
theorem dX2_sendFirst_4 : decode cX2_sendFirst 4 = .ok (.iload_n 1, 1) := by decide +kernel
theorem dX2_sendFirst_5 : decode cX2_sendFirst 5 = .ok (.iaload, 1) := by decide +kernel
theorem dX2_sendFirst_6 : decode cX2_sendFirst 6 = .ok (.ifCond .ne 5, 3) := by decide +kernel
theorem dX2_sendFirst_9 : decode cX2_sendFirst 9 = .ok (.iconst 0, 1) := by decide +kernel
theorem dX2_sendFirst_10 : decode cX2_sendFirst 10 = .ok (.ireturn, 1) := by decide +kernel
theorem dX2_sendFirst_11 : decode cX2_sendFirst 11 = .ok (.aload_n 2, 1) := by decide +kernel
theorem dX2_sendFirst_12 : decode cX2_sendFirst 12 = .ok (.iload_n 1, 1) := by decide +kernel
theorem dX2_sendFirst_13 : decode cX2_sendFirst 13 = .ok (.invokevirtual 120, 3) := by decide +kernel
theorem dX2_sendFirst_16 : decode cX2_sendFirst 16 = .ok (.istore_n 3, 1) := by decide +kernel
theorem dX2_sendFirst_17 : decode cX2_sendFirst 17 = .ok (.aload_n 0, 1) := by decide +kernel
theorem dX2_sendFirst_18 : decode cX2_sendFirst 18 = .ok (.getfield 26, 3) := by decide +kernel
theorem dX2_sendFirst_21 : decode cX2_sendFirst 21 = .ok (.iload_n 3, 1) := by decide +kernel
theorem dX2_sendFirst_22 : decode cX2_sendFirst 22 = .ok (.aload_n 2, 1) := by decide +kernel
theorem dX2_sendFirst_23 : decode cX2_sendFirst 23 = .ok (.getfield 123, 3) := by decide +kernel
theorem dX2_sendFirst_26 : decode cX2_sendFirst 26 = .ok (.invokevirtual 127, 3) := by decide +kernel
theorem dX2_sendFirst_29 : decode cX2_sendFirst 29 = .ok (.istore 4, 2) := by decide +kernel
theorem dX2_sendFirst_31 : decode cX2_sendFirst 31 = .ok (.aload_n 0, 1) := by decide +kernel
theorem dX2_sendFirst_32 : decode cX2_sendFirst 32 = .ok (.getfield 18, 3) := by decide +kernel
theorem dX2_sendFirst_35 : decode cX2_sendFirst 35 = .ok (.iload_n 1, 1) := by decide +kernel
theorem dX2_sendFirst_36 : decode cX2_sendFirst 36 = .ok (.iconst 5, 1) := by decide +kernel
theorem dX2_sendFirst_37 : decode cX2_sendFirst 37 = .ok (.iload 4, 2) := by decide +kernel
theorem dX2_sendFirst_39 : decode cX2_sendFirst 39 = .ok (.invokevirtual 59, 3) := by decide +kernel
theorem dX2_sendFirst_42 : decode cX2_sendFirst 42 = .ok (.istore 5, 2) := by decide +kernel
theorem dX2_sendFirst_44 : decode cX2_sendFirst 44 = .ok (.aload_n 0, 1) := by decide +kernel
theorem dX2_sendFirst_45 : decode cX2_sendFirst 45 = .ok (.getfield 22, 3) := by decide +kernel
theorem dX2_sendFirst_48 : decode cX2_sendFirst 48 = .ok (.getfield 131, 3) := by decide +kernel
theorem dX2_sendFirst_51 : decode cX2_sendFirst 51 = .ok (.iload 5, 2) := by decide +kernel
theorem dX2_sendFirst_53 : decode cX2_sendFirst 53 = .ok (.iaload, 1) := by decide +kernel
theorem dX2_sendFirst_54 : decode cX2_sendFirst 54 = .ok (.ifCond .ne 5, 3) := by decide +kernel
theorem dX2_sendFirst_57 : decode cX2_sendFirst 57 = .ok (.iconst 0, 1) := by decide +kernel
theorem dX2_sendFirst_58 : decode cX2_sendFirst 58 = .ok (.ireturn, 1) := by decide +kernel
theorem dX2_sendFirst_59 : decode cX2_sendFirst 59 = .ok (.aload_n 2, 1) := by decide +kernel
theorem dX2_sendFirst_60 : decode cX2_sendFirst 60 = .ok (.getfield 134, 3) := by decide +kernel
theorem dX2_sendFirst_63 : decode cX2_sendFirst 63 = .ok (.iload_n 1, 1) := by decide +kernel
theorem dX2_sendFirst_64 : decode cX2_sendFirst 64 = .ok (.dup2, 1) := by decide +kernel
theorem dX2_sendFirst_65 : decode cX2_sendFirst 65 = .ok (.iaload, 1) := by decide +kernel
theorem dX2_sendFirst_66 : decode cX2_sendFirst 66 = .ok (.iconst 1, 1) := by decide +kernel
theorem dX2_sendFirst_67 : decode cX2_sendFirst 67 = .ok (.iadd, 1) := by decide +kernel
theorem dX2_sendFirst_68 : decode cX2_sendFirst 68 = .ok (.iastore, 1) := by decide +kernel
theorem dX2_sendFirst_69 : decode cX2_sendFirst 69 = .ok (.aload_n 2, 1) := by decide +kernel
theorem dX2_sendFirst_70 : decode cX2_sendFirst 70 = .ok (.getfield 134, 3) := by decide +kernel
theorem dX2_sendFirst_73 : decode cX2_sendFirst 73 = .ok (.iload_n 1, 1) := by decide +kernel
theorem dX2_sendFirst_74 : decode cX2_sendFirst 74 = .ok (.iaload, 1) := by decide +kernel
theorem dX2_sendFirst_75 : decode cX2_sendFirst 75 = .ok (.aload_n 0, 1) := by decide +kernel
theorem dX2_sendFirst_76 : decode cX2_sendFirst 76 = .ok (.getfield 26, 3) := by decide +kernel
theorem dX2_sendFirst_79 : decode cX2_sendFirst 79 = .ok (.iload_n 3, 1) := by decide +kernel
theorem dX2_sendFirst_80 : decode cX2_sendFirst 80 = .ok (.aload_n 2, 1) := by decide +kernel
theorem dX2_sendFirst_81 : decode cX2_sendFirst 81 = .ok (.getfield 123, 3) := by decide +kernel
theorem dX2_sendFirst_84 : decode cX2_sendFirst 84 = .ok (.invokevirtual 137, 3) := by decide +kernel
theorem dX2_sendFirst_87 : decode cX2_sendFirst 87 = .ok (.if_icmp .ne 7, 3) := by decide +kernel
theorem dX2_sendFirst_90 : decode cX2_sendFirst 90 = .ok (.iconst 1, 1) := by decide +kernel
theorem dX2_sendFirst_91 : decode cX2_sendFirst 91 = .ok (.goto 4, 3) := by decide +kernel
theorem dX2_sendFirst_94 : decode cX2_sendFirst 94 = .ok (.iconst 0, 1) := by decide +kernel
theorem dX2_sendFirst_95 : decode cX2_sendFirst 95 = .ok (.istore 6, 2) := by decide +kernel
theorem dX2_sendFirst_97 : decode cX2_sendFirst 97 = .ok (.aload_n 0, 1) := by decide +kernel
theorem dX2_sendFirst_98 : decode cX2_sendFirst 98 = .ok (.getfield 22, 3) := by decide +kernel
theorem dX2_sendFirst_101 : decode cX2_sendFirst 101 = .ok (.iload 5, 2) := by decide +kernel
theorem dX2_sendFirst_103 : decode cX2_sendFirst 103 = .ok (.iload_n 3, 1) := by decide +kernel
theorem dX2_sendFirst_104 : decode cX2_sendFirst 104 = .ok (.aload_n 2, 1) := by decide +kernel
theorem dX2_sendFirst_105 : decode cX2_sendFirst 105 = .ok (.getfield 123, 3) := by decide +kernel
theorem dX2_sendFirst_108 : decode cX2_sendFirst 108 = .ok (.iload 6, 2) := by decide +kernel
theorem dX2_sendFirst_110 : decode cX2_sendFirst 110 = .ok (.invokestatic 140, 3) := by decide +kernel
theorem dX2_sendFirst_113 : decode cX2_sendFirst 113 = .ok (.invokevirtual 144, 3) := by decide +kernel
theorem dX2_sendFirst_116 : decode cX2_sendFirst 116 = .ok (.iload 6, 2) := by decide +kernel
theorem dX2_sendFirst_118 : decode cX2_sendFirst 118 = .ok (.ifCond .eq 8, 3) := by decide +kernel
theorem dX2_sendFirst_121 : decode cX2_sendFirst 121 = .ok (.aload_n 2, 1) := by decide +kernel
theorem dX2_sendFirst_122 : decode cX2_sendFirst 122 = .ok (.iload_n 1, 1) := by decide +kernel
theorem dX2_sendFirst_123 : decode cX2_sendFirst 123 = .ok (.invokevirtual 147, 3) := by decide +kernel
theorem dX2_sendFirst_126 : decode cX2_sendFirst 126 = .ok (.iconst 1, 1) := by decide +kernel
theorem dX2_sendFirst_127 : decode cX2_sendFirst 127 = .ok (.ireturn, 1) := by decide +kernel
theorem dX3_init_0 : decode cX3_init 0 = .ok (.aload_n 0, 1) := by decide +kernel
theorem dX3_init_1 : decode cX3_init 1 = .ok (.invokespecial 3, 3) := by decide +kernel
theorem dX3_init_4 : decode cX3_init 4 = .ok (.aload_n 0, 1) := by decide +kernel
theorem dX3_init_5 : decode cX3_init 5 = .ok (.aload_n 1, 1) := by decide +kernel
theorem dX3_init_6 : decode cX3_init 6 = .ok (.getfield 9, 3) := by decide +kernel
theorem dX3_init_9 : decode cX3_init 9 = .ok (.putfield 15, 3) := by decide +kernel
theorem dX3_init_12 : decode cX3_init 12 = .ok (.aload_n 0, 1) := by decide +kernel
theorem dX3_init_13 : decode cX3_init 13 = .ok (.aload_n 1, 1) := by decide +kernel
theorem dX3_init_14 : decode cX3_init 14 = .ok (.getfield 18, 3) := by decide +kernel
theorem dX3_init_17 : decode cX3_init 17 = .ok (.newarray .int, 2) := by decide +kernel
theorem dX3_init_19 : decode cX3_init 19 = .ok (.putfield 21, 3) := by decide +kernel
theorem dX3_init_22 : decode cX3_init 22 = .ok (.aload_n 0, 1) := by decide +kernel
theorem dX3_init_23 : decode cX3_init 23 = .ok (.aload_n 1, 1) := by decide +kernel
theorem dX3_init_24 : decode cX3_init 24 = .ok (.getfield 18, 3) := by decide +kernel
theorem dX3_init_27 : decode cX3_init 27 = .ok (.aload_n 0, 1) := by decide +kernel
theorem dX3_init_28 : decode cX3_init 28 = .ok (.getfield 15, 3) := by decide +kernel
theorem dX3_init_31 : decode cX3_init 31 = .ok (.imul, 1) := by decide +kernel
theorem dX3_init_32 : decode cX3_init 32 = .ok (.newarray .int, 2) := by decide +kernel
theorem dX3_init_34 : decode cX3_init 34 = .ok (.putfield 25, 3) := by decide +kernel
theorem dX3_init_37 : decode cX3_init 37 = .ok (.aload_n 0, 1) := by decide +kernel
theorem dX3_init_38 : decode cX3_init 38 = .ok (.aload_n 1, 1) := by decide +kernel
theorem dX3_init_39 : decode cX3_init 39 = .ok (.getfield 18, 3) := by decide +kernel
theorem dX3_init_42 : decode cX3_init 42 = .ok (.newarray .int, 2) := by decide +kernel
theorem dX3_init_44 : decode cX3_init 44 = .ok (.putfield 28, 3) := by decide +kernel
theorem dX3_init_47 : decode cX3_init 47 = .ok (.aload_n 0, 1) := by decide +kernel
theorem dX3_init_48 : decode cX3_init 48 = .ok (.aload_n 1, 1) := by decide +kernel
theorem dX3_init_49 : decode cX3_init 49 = .ok (.getfield 18, 3) := by decide +kernel
theorem dX3_init_52 : decode cX3_init 52 = .ok (.newarray .int, 2) := by decide +kernel
theorem dX3_init_54 : decode cX3_init 54 = .ok (.putfield 31, 3) := by decide +kernel
theorem dX3_init_57 : decode cX3_init 57 = .ok (.aload_n 0, 1) := by decide +kernel
theorem dX3_init_58 : decode cX3_init 58 = .ok (.aload_n 1, 1) := by decide +kernel
theorem dX3_init_59 : decode cX3_init 59 = .ok (.getfield 18, 3) := by decide +kernel
theorem dX3_init_62 : decode cX3_init 62 = .ok (.newarray .int, 2) := by decide +kernel
theorem dX3_init_64 : decode cX3_init 64 = .ok (.putfield 34, 3) := by decide +kernel
theorem dX3_init_67 : decode cX3_init 67 = .ok (.aload_n 0, 1) := by decide +kernel
theorem dX3_init_68 : decode cX3_init 68 = .ok (.aload_n 1, 1) := by decide +kernel
theorem dX3_init_69 : decode cX3_init 69 = .ok (.getfield 18, 3) := by decide +kernel
theorem dX3_init_72 : decode cX3_init 72 = .ok (.newarray .int, 2) := by decide +kernel
theorem dX3_init_74 : decode cX3_init 74 = .ok (.putfield 37, 3) := by decide +kernel
theorem dX3_init_77 : decode cX3_init 77 = .ok (.aload_n 0, 1) := by decide +kernel
theorem dX3_init_78 : decode cX3_init 78 = .ok (.aload_n 1, 1) := by decide +kernel
theorem dX3_init_79 : decode cX3_init 79 = .ok (.getfield 18, 3) := by decide +kernel
theorem dX3_init_82 : decode cX3_init 82 = .ok (.newarray .int, 2) := by decide +kernel
theorem dX3_init_84 : decode cX3_init 84 = .ok (.putfield 40, 3) := by decide +kernel
theorem dX3_init_87 : decode cX3_init 87 = .ok (.iconst 0, 1) := by decide +kernel
theorem dX3_init_88 : decode cX3_init 88 = .ok (.istore_n 2, 1) := by decide +kernel
theorem dX3_init_89 : decode cX3_init 89 = .ok (.iload_n 2, 1) := by decide +kernel
theorem dX3_init_90 : decode cX3_init 90 = .ok (.aload_n 1, 1) := by decide +kernel
theorem dX3_init_91 : decode cX3_init 91 = .ok (.getfield 43, 3) := by decide +kernel
theorem dX3_init_94 : decode cX3_init 94 = .ok (.if_icmp .ge 85, 3) := by decide +kernel
theorem dX3_init_97 : decode cX3_init 97 = .ok (.iconst 0, 1) := by decide +kernel
theorem dX3_init_98 : decode cX3_init 98 = .ok (.istore_n 3, 1) := by decide +kernel
theorem dX3_init_99 : decode cX3_init 99 = .ok (.iload_n 3, 1) := by decide +kernel
theorem dX3_init_100 : decode cX3_init 100 = .ok (.bipush 6, 2) := by decide +kernel
theorem dX3_init_102 : decode cX3_init 102 = .ok (.if_icmp .ge 71, 3) := by decide +kernel
theorem dX3_init_105 : decode cX3_init 105 = .ok (.iconst 0, 1) := by decide +kernel
theorem dX3_init_106 : decode cX3_init 106 = .ok (.istore 4, 2) := by decide +kernel
theorem dX3_init_108 : decode cX3_init 108 = .ok (.iload 4, 2) := by decide +kernel
theorem dX3_init_110 : decode cX3_init 110 = .ok (.aload_n 1, 1) := by decide +kernel
theorem dX3_init_111 : decode cX3_init 111 = .ok (.getfield 46, 3) := by decide +kernel
theorem dX3_init_114 : decode cX3_init 114 = .ok (.if_icmp .ge 53, 3) := by decide +kernel
theorem dX3_init_117 : decode cX3_init 117 = .ok (.aload_n 1, 1) := by decide +kernel
theorem dX3_init_118 : decode cX3_init 118 = .ok (.iload_n 2, 1) := by decide +kernel
theorem dX3_init_119 : decode cX3_init 119 = .ok (.iload_n 3, 1) := by decide +kernel
theorem dX3_init_120 : decode cX3_init 120 = .ok (.iload 4, 2) := by decide +kernel
theorem dX3_init_122 : decode cX3_init 122 = .ok (.invokevirtual 49, 3) := by decide +kernel
theorem dX3_init_125 : decode cX3_init 125 = .ok (.istore 5, 2) := by decide +kernel
theorem dX3_init_127 : decode cX3_init 127 = .ok (.aload_n 0, 1) := by decide +kernel
theorem dX3_init_128 : decode cX3_init 128 = .ok (.getfield 21, 3) := by decide +kernel
theorem dX3_init_131 : decode cX3_init 131 = .ok (.iload 5, 2) := by decide +kernel
theorem dX3_init_133 : decode cX3_init 133 = .ok (.aload_n 1, 1) := by decide +kernel
theorem dX3_init_134 : decode cX3_init 134 = .ok (.iload_n 2, 1) := by decide +kernel
theorem dX3_init_135 : decode cX3_init 135 = .ok (.iload_n 3, 1) := by decide +kernel
theorem dX3_init_136 : decode cX3_init 136 = .ok (.iload 4, 2) := by decide +kernel
theorem dX3_init_138 : decode cX3_init 138 = .ok (.invokevirtual 53, 3) := by decide +kernel
theorem dX3_init_141 : decode cX3_init 141 = .ok (.iastore, 1) := by decide +kernel
theorem dX3_init_142 : decode cX3_init 142 = .ok (.aload_n 0, 1) := by decide +kernel
theorem dX3_init_143 : decode cX3_init 143 = .ok (.getfield 34, 3) := by decide +kernel
theorem dX3_init_146 : decode cX3_init 146 = .ok (.iload 5, 2) := by decide +kernel
theorem dX3_init_148 : decode cX3_init 148 = .ok (.aload_n 0, 1) := by decide +kernel
theorem dX3_init_149 : decode cX3_init 149 = .ok (.getfield 15, 3) := by decide +kernel
theorem dX3_init_152 : decode cX3_init 152 = .ok (.iastore, 1) := by decide +kernel
theorem dX3_init_153 : decode cX3_init 153 = .ok (.aload_n 0, 1) := by decide +kernel
theorem dX3_init_154 : decode cX3_init 154 = .ok (.getfield 37, 3) := by decide +kernel
theorem dX3_init_157 : decode cX3_init 157 = .ok (.iload 5, 2) := by decide +kernel
theorem dX3_init_159 : decode cX3_init 159 = .ok (.iconst (-1), 1) := by decide +kernel
theorem dX3_init_160 : decode cX3_init 160 = .ok (.iastore, 1) := by decide +kernel
theorem dX3_init_161 : decode cX3_init 161 = .ok (.iinc 4 1, 3) := by decide +kernel
theorem dX3_init_164 : decode cX3_init 164 = .ok (.goto (-56), 3) := by decide +kernel
theorem dX3_init_167 : decode cX3_init 167 = .ok (.iinc 3 1, 3) := by decide +kernel
theorem dX3_init_170 : decode cX3_init 170 = .ok (.goto (-71), 3) := by decide +kernel
theorem dX3_init_173 : decode cX3_init 173 = .ok (.iinc 2 1, 3) := by decide +kernel
theorem dX3_init_176 : decode cX3_init 176 = .ok (.goto (-87), 3) := by decide +kernel
theorem dX3_init_179 : decode cX3_init 179 = .ok (.return_, 1) := by decide +kernel
theorem dX3_arriveAll_0 : decode cX3_arriveAll 0 = .ok (.aload_n 0, 1) := by decide +kernel
theorem dX3_arriveAll_1 : decode cX3_arriveAll 1 = .ok (.iconst 0, 1) := by decide +kernel
theorem dX3_arriveAll_2 : decode cX3_arriveAll 2 = .ok (.putfield 56, 3) := by decide +kernel
theorem dX3_arriveAll_5 : decode cX3_arriveAll 5 = .ok (.iconst 0, 1) := by decide +kernel
theorem dX3_arriveAll_6 : decode cX3_arriveAll 6 = .ok (.istore_n 1, 1) := by decide +kernel
theorem dX3_arriveAll_7 : decode cX3_arriveAll 7 = .ok (.iload_n 1, 1) := by decide +kernel
theorem dX3_arriveAll_8 : decode cX3_arriveAll 8 = .ok (.aload_n 0, 1) := by decide +kernel
theorem dX3_arriveAll_9 : decode cX3_arriveAll 9 = .ok (.getfield 31, 3) := by decide +kernel
theorem dX3_arriveAll_12 : decode cX3_arriveAll 12 = .ok (.arraylength, 1) := by decide +kernel
theorem dX3_arriveAll_13 : decode cX3_arriveAll 13 = .ok (.if_icmp .ge 94, 3) := by decide +kernel
theorem dX3_arriveAll_16 : decode cX3_arriveAll 16 = .ok (.aload_n 0, 1) := by decide +kernel
theorem dX3_arriveAll_17 : decode cX3_arriveAll 17 = .ok (.getfield 37, 3) := by decide +kernel
theorem dX3_arriveAll_20 : decode cX3_arriveAll 20 = .ok (.iload_n 1, 1) := by decide +kernel
theorem dX3_arriveAll_21 : decode cX3_arriveAll 21 = .ok (.iaload, 1) := by decide +kernel
theorem dX3_arriveAll_22 : decode cX3_arriveAll 22 = .ok (.iconst (-1), 1) := by decide +kernel
theorem dX3_arriveAll_23 : decode cX3_arriveAll 23 = .ok (.if_icmp .eq 56, 3) := by decide +kernel
theorem dX3_arriveAll_26 : decode cX3_arriveAll 26 = .ok (.aload_n 0, 1) := by decide +kernel
theorem dX3_arriveAll_27 : decode cX3_arriveAll 27 = .ok (.getfield 25, 3) := by decide +kernel
theorem dX3_arriveAll_30 : decode cX3_arriveAll 30 = .ok (.iload_n 1, 1) := by decide +kernel
theorem dX3_arriveAll_31 : decode cX3_arriveAll 31 = .ok (.aload_n 0, 1) := by decide +kernel
theorem dX3_arriveAll_32 : decode cX3_arriveAll 32 = .ok (.getfield 15, 3) := by decide +kernel
theorem dX3_arriveAll_35 : decode cX3_arriveAll 35 = .ok (.imul, 1) := by decide +kernel
theorem dX3_arriveAll_36 : decode cX3_arriveAll 36 = .ok (.aload_n 0, 1) := by decide +kernel
theorem dX3_arriveAll_37 : decode cX3_arriveAll 37 = .ok (.getfield 28, 3) := by decide +kernel
theorem dX3_arriveAll_40 : decode cX3_arriveAll 40 = .ok (.iload_n 1, 1) := by decide +kernel
theorem dX3_arriveAll_41 : decode cX3_arriveAll 41 = .ok (.iaload, 1) := by decide +kernel
theorem dX3_arriveAll_42 : decode cX3_arriveAll 42 = .ok (.aload_n 0, 1) := by decide +kernel
theorem dX3_arriveAll_43 : decode cX3_arriveAll 43 = .ok (.getfield 31, 3) := by decide +kernel
theorem dX3_arriveAll_46 : decode cX3_arriveAll 46 = .ok (.iload_n 1, 1) := by decide +kernel
theorem dX3_arriveAll_47 : decode cX3_arriveAll 47 = .ok (.iaload, 1) := by decide +kernel
theorem dX3_arriveAll_48 : decode cX3_arriveAll 48 = .ok (.iadd, 1) := by decide +kernel
theorem dX3_arriveAll_49 : decode cX3_arriveAll 49 = .ok (.aload_n 0, 1) := by decide +kernel
theorem dX3_arriveAll_50 : decode cX3_arriveAll 50 = .ok (.getfield 15, 3) := by decide +kernel
theorem dX3_arriveAll_53 : decode cX3_arriveAll 53 = .ok (.irem, 1) := by decide +kernel
theorem dX3_arriveAll_54 : decode cX3_arriveAll 54 = .ok (.iadd, 1) := by decide +kernel
theorem dX3_arriveAll_55 : decode cX3_arriveAll 55 = .ok (.aload_n 0, 1) := by decide +kernel
theorem dX3_arriveAll_56 : decode cX3_arriveAll 56 = .ok (.getfield 37, 3) := by decide +kernel
theorem dX3_arriveAll_59 : decode cX3_arriveAll 59 = .ok (.iload_n 1, 1) := by decide +kernel
theorem dX3_arriveAll_60 : decode cX3_arriveAll 60 = .ok (.iaload, 1) := by decide +kernel
theorem dX3_arriveAll_61 : decode cX3_arriveAll 61 = .ok (.iastore, 1) := by decide +kernel
theorem dX3_arriveAll_62 : decode cX3_arriveAll 62 = .ok (.aload_n 0, 1) := by decide +kernel
theorem dX3_arriveAll_63 : decode cX3_arriveAll 63 = .ok (.getfield 31, 3) := by decide +kernel
theorem dX3_arriveAll_66 : decode cX3_arriveAll 66 = .ok (.iload_n 1, 1) := by decide +kernel
theorem dX3_arriveAll_67 : decode cX3_arriveAll 67 = .ok (.dup2, 1) := by decide +kernel
theorem dX3_arriveAll_68 : decode cX3_arriveAll 68 = .ok (.iaload, 1) := by decide +kernel
theorem dX3_arriveAll_69 : decode cX3_arriveAll 69 = .ok (.iconst 1, 1) := by decide +kernel
theorem dX3_arriveAll_70 : decode cX3_arriveAll 70 = .ok (.iadd, 1) := by decide +kernel
theorem dX3_arriveAll_71 : decode cX3_arriveAll 71 = .ok (.iastore, 1) := by decide +kernel
theorem dX3_arriveAll_72 : decode cX3_arriveAll 72 = .ok (.aload_n 0, 1) := by decide +kernel
theorem dX3_arriveAll_73 : decode cX3_arriveAll 73 = .ok (.getfield 37, 3) := by decide +kernel
theorem dX3_arriveAll_76 : decode cX3_arriveAll 76 = .ok (.iload_n 1, 1) := by decide +kernel
theorem dX3_arriveAll_77 : decode cX3_arriveAll 77 = .ok (.iconst (-1), 1) := by decide +kernel
theorem dX3_arriveAll_78 : decode cX3_arriveAll 78 = .ok (.iastore, 1) := by decide +kernel
theorem dX3_arriveAll_79 : decode cX3_arriveAll 79 = .ok (.aload_n 0, 1) := by decide +kernel
theorem dX3_arriveAll_80 : decode cX3_arriveAll 80 = .ok (.getfield 34, 3) := by decide +kernel
theorem dX3_arriveAll_83 : decode cX3_arriveAll 83 = .ok (.iload_n 1, 1) := by decide +kernel
theorem dX3_arriveAll_84 : decode cX3_arriveAll 84 = .ok (.dup2, 1) := by decide +kernel
theorem dX3_arriveAll_85 : decode cX3_arriveAll 85 = .ok (.iaload, 1) := by decide +kernel
theorem dX3_arriveAll_86 : decode cX3_arriveAll 86 = .ok (.aload_n 0, 1) := by decide +kernel
theorem dX3_arriveAll_87 : decode cX3_arriveAll 87 = .ok (.getfield 40, 3) := by decide +kernel
theorem dX3_arriveAll_90 : decode cX3_arriveAll 90 = .ok (.iload_n 1, 1) := by decide +kernel
theorem dX3_arriveAll_91 : decode cX3_arriveAll 91 = .ok (.iaload, 1) := by decide +kernel
theorem dX3_arriveAll_92 : decode cX3_arriveAll 92 = .ok (.iadd, 1) := by decide +kernel
theorem dX3_arriveAll_93 : decode cX3_arriveAll 93 = .ok (.iastore, 1) := by decide +kernel
theorem dX3_arriveAll_94 : decode cX3_arriveAll 94 = .ok (.aload_n 0, 1) := by decide +kernel
theorem dX3_arriveAll_95 : decode cX3_arriveAll 95 = .ok (.getfield 40, 3) := by decide +kernel
theorem dX3_arriveAll_98 : decode cX3_arriveAll 98 = .ok (.iload_n 1, 1) := by decide +kernel
theorem dX3_arriveAll_99 : decode cX3_arriveAll 99 = .ok (.iconst 0, 1) := by decide +kernel
theorem dX3_arriveAll_100 : decode cX3_arriveAll 100 = .ok (.iastore, 1) := by decide +kernel
theorem dX3_arriveAll_101 : decode cX3_arriveAll 101 = .ok (.iinc 1 1, 3) := by decide +kernel
theorem dX3_arriveAll_104 : decode cX3_arriveAll 104 = .ok (.goto (-97), 3) := by decide +kernel
theorem dX3_arriveAll_107 : decode cX3_arriveAll 107 = .ok (.return_, 1) := by decide +kernel
theorem dX3_firstFlit_0 : decode cX3_firstFlit 0 = .ok (.aload_n 0, 1) := by decide +kernel
theorem dX3_firstFlit_1 : decode cX3_firstFlit 1 = .ok (.getfield 25, 3) := by decide +kernel
theorem dX3_firstFlit_4 : decode cX3_firstFlit 4 = .ok (.iload_n 1, 1) := by decide +kernel
theorem dX3_firstFlit_5 : decode cX3_firstFlit 5 = .ok (.aload_n 0, 1) := by decide +kernel
theorem dX3_firstFlit_6 : decode cX3_firstFlit 6 = .ok (.getfield 15, 3) := by decide +kernel
theorem dX3_firstFlit_9 : decode cX3_firstFlit 9 = .ok (.imul, 1) := by decide +kernel
theorem dX3_firstFlit_10 : decode cX3_firstFlit 10 = .ok (.aload_n 0, 1) := by decide +kernel
theorem dX3_firstFlit_11 : decode cX3_firstFlit 11 = .ok (.getfield 28, 3) := by decide +kernel
theorem dX3_firstFlit_14 : decode cX3_firstFlit 14 = .ok (.iload_n 1, 1) := by decide +kernel
theorem dX3_firstFlit_15 : decode cX3_firstFlit 15 = .ok (.iaload, 1) := by decide +kernel
theorem dX3_firstFlit_16 : decode cX3_firstFlit 16 = .ok (.iadd, 1) := by decide +kernel
theorem dX3_firstFlit_17 : decode cX3_firstFlit 17 = .ok (.iaload, 1) := by decide +kernel
theorem dX3_firstFlit_18 : decode cX3_firstFlit 18 = .ok (.ireturn, 1) := by decide +kernel
theorem dX3_takeOut_0 : decode cX3_takeOut 0 = .ok (.aload_n 0, 1) := by decide +kernel
theorem dX3_takeOut_1 : decode cX3_takeOut 1 = .ok (.iload_n 1, 1) := by decide +kernel
theorem dX3_takeOut_2 : decode cX3_takeOut 2 = .ok (.invokevirtual 59, 3) := by decide +kernel
theorem dX3_takeOut_5 : decode cX3_takeOut 5 = .ok (.istore_n 2, 1) := by decide +kernel
theorem dX3_takeOut_6 : decode cX3_takeOut 6 = .ok (.aload_n 0, 1) := by decide +kernel
theorem dX3_takeOut_7 : decode cX3_takeOut 7 = .ok (.getfield 28, 3) := by decide +kernel
theorem dX3_takeOut_10 : decode cX3_takeOut 10 = .ok (.iload_n 1, 1) := by decide +kernel
theorem dX3_takeOut_11 : decode cX3_takeOut 11 = .ok (.aload_n 0, 1) := by decide +kernel
theorem dX3_takeOut_12 : decode cX3_takeOut 12 = .ok (.getfield 28, 3) := by decide +kernel
theorem dX3_takeOut_15 : decode cX3_takeOut 15 = .ok (.iload_n 1, 1) := by decide +kernel
theorem dX3_takeOut_16 : decode cX3_takeOut 16 = .ok (.iaload, 1) := by decide +kernel
theorem dX3_takeOut_17 : decode cX3_takeOut 17 = .ok (.iconst 1, 1) := by decide +kernel
theorem dX3_takeOut_18 : decode cX3_takeOut 18 = .ok (.iadd, 1) := by decide +kernel
theorem dX3_takeOut_19 : decode cX3_takeOut 19 = .ok (.aload_n 0, 1) := by decide +kernel
theorem dX3_takeOut_20 : decode cX3_takeOut 20 = .ok (.getfield 15, 3) := by decide +kernel
theorem dX3_takeOut_23 : decode cX3_takeOut 23 = .ok (.irem, 1) := by decide +kernel
theorem dX3_takeOut_24 : decode cX3_takeOut 24 = .ok (.iastore, 1) := by decide +kernel
theorem dX3_takeOut_25 : decode cX3_takeOut 25 = .ok (.aload_n 0, 1) := by decide +kernel
theorem dX3_takeOut_26 : decode cX3_takeOut 26 = .ok (.getfield 31, 3) := by decide +kernel
theorem dX3_takeOut_29 : decode cX3_takeOut 29 = .ok (.iload_n 1, 1) := by decide +kernel
theorem dX3_takeOut_30 : decode cX3_takeOut 30 = .ok (.dup2, 1) := by decide +kernel
theorem dX3_takeOut_31 : decode cX3_takeOut 31 = .ok (.iaload, 1) := by decide +kernel
theorem dX3_takeOut_32 : decode cX3_takeOut 32 = .ok (.iconst 1, 1) := by decide +kernel
theorem dX3_takeOut_33 : decode cX3_takeOut 33 = .ok (.isub, 1) := by decide +kernel
theorem dX3_takeOut_34 : decode cX3_takeOut 34 = .ok (.iastore, 1) := by decide +kernel
theorem dX3_takeOut_35 : decode cX3_takeOut 35 = .ok (.aload_n 0, 1) := by decide +kernel
theorem dX3_takeOut_36 : decode cX3_takeOut 36 = .ok (.getfield 40, 3) := by decide +kernel
theorem dX3_takeOut_39 : decode cX3_takeOut 39 = .ok (.aload_n 0, 1) := by decide +kernel
theorem dX3_takeOut_40 : decode cX3_takeOut 40 = .ok (.getfield 21, 3) := by decide +kernel
theorem dX3_takeOut_43 : decode cX3_takeOut 43 = .ok (.iload_n 1, 1) := by decide +kernel
theorem dX3_takeOut_44 : decode cX3_takeOut 44 = .ok (.iaload, 1) := by decide +kernel
theorem dX3_takeOut_45 : decode cX3_takeOut 45 = .ok (.dup2, 1) := by decide +kernel
theorem dX3_takeOut_46 : decode cX3_takeOut 46 = .ok (.iaload, 1) := by decide +kernel
theorem dX3_takeOut_47 : decode cX3_takeOut 47 = .ok (.iconst 1, 1) := by decide +kernel
theorem dX3_takeOut_48 : decode cX3_takeOut 48 = .ok (.iadd, 1) := by decide +kernel
theorem dX3_takeOut_49 : decode cX3_takeOut 49 = .ok (.iastore, 1) := by decide +kernel
theorem dX3_takeOut_50 : decode cX3_takeOut 50 = .ok (.iload_n 2, 1) := by decide +kernel
theorem dX3_takeOut_51 : decode cX3_takeOut 51 = .ok (.ireturn, 1) := by decide +kernel
theorem dX3_send_0 : decode cX3_send 0 = .ok (.aload_n 0, 1) := by decide +kernel
theorem dX3_send_1 : decode cX3_send 1 = .ok (.getfield 34, 3) := by decide +kernel
theorem dX3_send_4 : decode cX3_send 4 = .ok (.iload_n 1, 1) := by decide +kernel
theorem dX3_send_5 : decode cX3_send 5 = .ok (.dup2, 1) := by decide +kernel
theorem dX3_send_6 : decode cX3_send 6 = .ok (.iaload, 1) := by decide +kernel
theorem dX3_send_7 : decode cX3_send 7 = .ok (.iconst 1, 1) := by decide +kernel
theorem dX3_send_8 : decode cX3_send 8 = .ok (.isub, 1) := by decide +kernel
theorem dX3_send_9 : decode cX3_send 9 = .ok (.iastore, 1) := by decide +kernel
theorem dX3_send_10 : decode cX3_send 10 = .ok (.aload_n 0, 1) := by decide +kernel
theorem dX3_send_11 : decode cX3_send 11 = .ok (.getfield 37, 3) := by decide +kernel
theorem dX3_send_14 : decode cX3_send 14 = .ok (.aload_n 0, 1) := by decide +kernel
theorem dX3_send_15 : decode cX3_send 15 = .ok (.getfield 21, 3) := by decide +kernel
theorem dX3_send_18 : decode cX3_send 18 = .ok (.iload_n 1, 1) := by decide +kernel
theorem dX3_send_19 : decode cX3_send 19 = .ok (.iaload, 1) := by decide +kernel
theorem dX3_send_20 : decode cX3_send 20 = .ok (.iload_n 2, 1) := by decide +kernel
theorem dX3_send_21 : decode cX3_send 21 = .ok (.iastore, 1) := by decide +kernel
theorem dX3_send_22 : decode cX3_send 22 = .ok (.aload_n 0, 1) := by decide +kernel
theorem dX3_send_23 : decode cX3_send 23 = .ok (.dup, 1) := by decide +kernel
theorem dX3_send_24 : decode cX3_send 24 = .ok (.getfield 56, 3) := by decide +kernel
theorem dX3_send_27 : decode cX3_send 27 = .ok (.iconst 1, 1) := by decide +kernel
theorem dX3_send_28 : decode cX3_send 28 = .ok (.iadd, 1) := by decide +kernel
theorem dX3_send_29 : decode cX3_send 29 = .ok (.putfield 56, 3) := by decide +kernel
theorem dX3_send_32 : decode cX3_send 32 = .ok (.return_, 1) := by decide +kernel
