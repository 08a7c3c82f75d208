theorem dX6_init_0 : decode cX6_init 0 = .ok (.aload_n 0, 1) := by decide +kernel
theorem dX6_init_1 : decode cX6_init 1 = .ok (.invokespecial 3, 3) := by decide +kernel
theorem dX6_init_4 : decode cX6_init 4 = .ok (.aload_n 0, 1) := by decide +kernel
theorem dX6_init_5 : decode cX6_init 5 = .ok (.iconst 5, 1) := by decide +kernel
theorem dX6_init_6 : decode cX6_init 6 = .ok (.newarray .int, 2) := by decide +kernel
theorem dX6_init_8 : decode cX6_init 8 = .ok (.putfield 9, 3) := by decide +kernel
theorem dX6_init_11 : decode cX6_init 11 = .ok (.aload_n 0, 1) := by decide +kernel
theorem dX6_init_12 : decode cX6_init 12 = .ok (.aload_n 1, 1) := by decide +kernel
theorem dX6_init_13 : decode cX6_init 13 = .ok (.putfield 15, 3) := by decide +kernel
theorem dX6_init_16 : decode cX6_init 16 = .ok (.aload_n 0, 1) := by decide +kernel
theorem dX6_init_17 : decode cX6_init 17 = .ok (.aload_n 2, 1) := by decide +kernel
theorem dX6_init_18 : decode cX6_init 18 = .ok (.putfield 19, 3) := by decide +kernel
theorem dX6_init_21 : decode cX6_init 21 = .ok (.aload_n 0, 1) := by decide +kernel
theorem dX6_init_22 : decode cX6_init 22 = .ok (.aload_n 3, 1) := by decide +kernel
theorem dX6_init_23 : decode cX6_init 23 = .ok (.putfield 23, 3) := by decide +kernel
theorem dX6_init_26 : decode cX6_init 26 = .ok (.aload_n 0, 1) := by decide +kernel
theorem dX6_init_27 : decode cX6_init 27 = .ok (.aload_n 1, 1) := by decide +kernel
theorem dX6_init_28 : decode cX6_init 28 = .ok (.getfield 27, 3) := by decide +kernel
theorem dX6_init_31 : decode cX6_init 31 = .ok (.newarray .int, 2) := by decide +kernel
theorem dX6_init_33 : decode cX6_init 33 = .ok (.putfield 33, 3) := by decide +kernel
theorem dX6_init_36 : decode cX6_init 36 = .ok (.aload_n 0, 1) := by decide +kernel
theorem dX6_init_37 : decode cX6_init 37 = .ok (.aload_n 1, 1) := by decide +kernel
theorem dX6_init_38 : decode cX6_init 38 = .ok (.getfield 27, 3) := by decide +kernel
theorem dX6_init_41 : decode cX6_init 41 = .ok (.newarray .int, 2) := by decide +kernel
theorem dX6_init_43 : decode cX6_init 43 = .ok (.putfield 36, 3) := by decide +kernel
theorem dX6_init_46 : decode cX6_init 46 = .ok (.aload_n 0, 1) := by decide +kernel
theorem dX6_init_47 : decode cX6_init 47 = .ok (.aload_n 1, 1) := by decide +kernel
theorem dX6_init_48 : decode cX6_init 48 = .ok (.getfield 27, 3) := by decide +kernel
theorem dX6_init_51 : decode cX6_init 51 = .ok (.newarray .boolean, 2) := by decide +kernel
theorem dX6_init_53 : decode cX6_init 53 = .ok (.putfield 39, 3) := by decide +kernel
theorem dX6_init_56 : decode cX6_init 56 = .ok (.aload_n 0, 1) := by decide +kernel
theorem dX6_init_57 : decode cX6_init 57 = .ok (.aload_n 1, 1) := by decide +kernel
theorem dX6_init_58 : decode cX6_init 58 = .ok (.getfield 27, 3) := by decide +kernel
theorem dX6_init_61 : decode cX6_init 61 = .ok (.newarray .int, 2) := by decide +kernel
theorem dX6_init_63 : decode cX6_init 63 = .ok (.putfield 43, 3) := by decide +kernel
theorem dX6_init_66 : decode cX6_init 66 = .ok (.aload_n 0, 1) := by decide +kernel
theorem dX6_init_67 : decode cX6_init 67 = .ok (.aload_n 1, 1) := by decide +kernel
theorem dX6_init_68 : decode cX6_init 68 = .ok (.getfield 46, 3) := by decide +kernel
theorem dX6_init_71 : decode cX6_init 71 = .ok (.iconst 5, 1) := by decide +kernel
theorem dX6_init_72 : decode cX6_init 72 = .ok (.imul, 1) := by decide +kernel
theorem dX6_init_73 : decode cX6_init 73 = .ok (.newarray .int, 2) := by decide +kernel
theorem dX6_init_75 : decode cX6_init 75 = .ok (.putfield 49, 3) := by decide +kernel
theorem dX6_init_78 : decode cX6_init 78 = .ok (.aload_n 0, 1) := by decide +kernel
theorem dX6_init_79 : decode cX6_init 79 = .ok (.aload_n 1, 1) := by decide +kernel
theorem dX6_init_80 : decode cX6_init 80 = .ok (.getfield 46, 3) := by decide +kernel
theorem dX6_init_83 : decode cX6_init 83 = .ok (.iconst 5, 1) := by decide +kernel
theorem dX6_init_84 : decode cX6_init 84 = .ok (.imul, 1) := by decide +kernel
theorem dX6_init_85 : decode cX6_init 85 = .ok (.newarray .int, 2) := by decide +kernel
theorem dX6_init_87 : decode cX6_init 87 = .ok (.putfield 52, 3) := by decide +kernel
theorem dX6_init_90 : decode cX6_init 90 = .ok (.return_, 1) := by decide +kernel
theorem dX6_moveAll_0 : decode cX6_moveAll 0 = .ok (.iconst 0, 1) := by decide +kernel
theorem dX6_moveAll_1 : decode cX6_moveAll 1 = .ok (.istore_n 1, 1) := by decide +kernel
theorem dX6_moveAll_2 : decode cX6_moveAll 2 = .ok (.iload_n 1, 1) := by decide +kernel
theorem dX6_moveAll_3 : decode cX6_moveAll 3 = .ok (.aload_n 0, 1) := by decide +kernel
theorem dX6_moveAll_4 : decode cX6_moveAll 4 = .ok (.getfield 15, 3) := by decide +kernel
theorem dX6_moveAll_7 : decode cX6_moveAll 7 = .ok (.getfield 46, 3) := by decide +kernel
theorem dX6_moveAll_10 : decode cX6_moveAll 10 = .ok (.if_icmp .ge 66, 3) := by decide +kernel
theorem dX6_moveAll_13 : decode cX6_moveAll 13 = .ok (.iconst 0, 1) := by decide +kernel
theorem dX6_moveAll_14 : decode cX6_moveAll 14 = .ok (.istore_n 2, 1) := by decide +kernel
theorem dX6_moveAll_15 : decode cX6_moveAll 15 = .ok (.iload_n 2, 1) := by decide +kernel
theorem dX6_moveAll_16 : decode cX6_moveAll 16 = .ok (.iconst 5, 1) := by decide +kernel
theorem dX6_moveAll_17 : decode cX6_moveAll 17 = .ok (.if_icmp .ge 21, 3) := by decide +kernel
theorem dX6_moveAll_20 : decode cX6_moveAll 20 = .ok (.aload_n 0, 1) := by decide +kernel
theorem dX6_moveAll_21 : decode cX6_moveAll 21 = .ok (.getfield 9, 3) := by decide +kernel
theorem dX6_moveAll_24 : decode cX6_moveAll 24 = .ok (.iload_n 2, 1) := by decide +kernel
theorem dX6_moveAll_25 : decode cX6_moveAll 25 = .ok (.aload_n 0, 1) := by decide +kernel
theorem dX6_moveAll_26 : decode cX6_moveAll 26 = .ok (.iload_n 1, 1) := by decide +kernel
theorem dX6_moveAll_27 : decode cX6_moveAll 27 = .ok (.iload_n 2, 1) := by decide +kernel
theorem dX6_moveAll_28 : decode cX6_moveAll 28 = .ok (.invokevirtual 55, 3) := by decide +kernel
theorem dX6_moveAll_31 : decode cX6_moveAll 31 = .ok (.iastore, 1) := by decide +kernel
theorem dX6_moveAll_32 : decode cX6_moveAll 32 = .ok (.iinc 2 1, 3) := by decide +kernel
theorem dX6_moveAll_35 : decode cX6_moveAll 35 = .ok (.goto (-20), 3) := by decide +kernel
theorem dX6_moveAll_38 : decode cX6_moveAll 38 = .ok (.iconst 0, 1) := by decide +kernel
theorem dX6_moveAll_39 : decode cX6_moveAll 39 = .ok (.istore_n 2, 1) := by decide +kernel
theorem dX6_moveAll_40 : decode cX6_moveAll 40 = .ok (.iload_n 2, 1) := by decide +kernel
theorem dX6_moveAll_41 : decode cX6_moveAll 41 = .ok (.iconst 5, 1) := by decide +kernel
theorem dX6_moveAll_42 : decode cX6_moveAll 42 = .ok (.if_icmp .ge 28, 3) := by decide +kernel
theorem dX6_moveAll_45 : decode cX6_moveAll 45 = .ok (.aload_n 0, 1) := by decide +kernel
theorem dX6_moveAll_46 : decode cX6_moveAll 46 = .ok (.iload_n 1, 1) := by decide +kernel
theorem dX6_moveAll_47 : decode cX6_moveAll 47 = .ok (.iload_n 2, 1) := by decide +kernel
theorem dX6_moveAll_48 : decode cX6_moveAll 48 = .ok (.invokevirtual 59, 3) := by decide +kernel
theorem dX6_moveAll_51 : decode cX6_moveAll 51 = .ok (.istore_n 3, 1) := by decide +kernel
theorem dX6_moveAll_52 : decode cX6_moveAll 52 = .ok (.iload_n 3, 1) := by decide +kernel
theorem dX6_moveAll_53 : decode cX6_moveAll 53 = .ok (.iconst (-1), 1) := by decide +kernel
theorem dX6_moveAll_54 : decode cX6_moveAll 54 = .ok (.if_icmp .eq 10, 3) := by decide +kernel
theorem dX6_moveAll_57 : decode cX6_moveAll 57 = .ok (.aload_n 0, 1) := by decide +kernel
theorem dX6_moveAll_58 : decode cX6_moveAll 58 = .ok (.iload_n 1, 1) := by decide +kernel
theorem dX6_moveAll_59 : decode cX6_moveAll 59 = .ok (.iload_n 3, 1) := by decide +kernel
theorem dX6_moveAll_60 : decode cX6_moveAll 60 = .ok (.iload_n 2, 1) := by decide +kernel
theorem dX6_moveAll_61 : decode cX6_moveAll 61 = .ok (.invokevirtual 62, 3) := by decide +kernel
theorem dX6_moveAll_64 : decode cX6_moveAll 64 = .ok (.iinc 2 1, 3) := by decide +kernel
theorem dX6_moveAll_67 : decode cX6_moveAll 67 = .ok (.goto (-27), 3) := by decide +kernel
theorem dX6_moveAll_70 : decode cX6_moveAll 70 = .ok (.iinc 1 1, 3) := by decide +kernel
theorem dX6_moveAll_73 : decode cX6_moveAll 73 = .ok (.goto (-71), 3) := by decide +kernel
theorem dX6_moveAll_76 : decode cX6_moveAll 76 = .ok (.return_, 1) := by decide +kernel
theorem dX6_readyChannel_0 : decode cX6_readyChannel 0 = .ok (.aload_n 0, 1) := by decide +kernel
theorem dX6_readyChannel_1 : decode cX6_readyChannel 1 = .ok (.getfield 49, 3) := by decide +kernel
theorem dX6_readyChannel_4 : decode cX6_readyChannel 4 = .ok (.iload_n 1, 1) := by decide +kernel
theorem dX6_readyChannel_5 : decode cX6_readyChannel 5 = .ok (.iconst 5, 1) := by decide +kernel
theorem dX6_readyChannel_6 : decode cX6_readyChannel 6 = .ok (.imul, 1) := by decide +kernel
theorem dX6_readyChannel_7 : decode cX6_readyChannel 7 = .ok (.iload_n 2, 1) := by decide +kernel
theorem dX6_readyChannel_8 : decode cX6_readyChannel 8 = .ok (.iadd, 1) := by decide +kernel
theorem dX6_readyChannel_9 : decode cX6_readyChannel 9 = .ok (.iaload, 1) := by decide +kernel
theorem dX6_readyChannel_10 : decode cX6_readyChannel 10 = .ok (.istore_n 3, 1) := by decide +kernel
theorem dX6_readyChannel_11 : decode cX6_readyChannel 11 = .ok (.iconst 0, 1) := by decide +kernel
theorem dX6_readyChannel_12 : decode cX6_readyChannel 12 = .ok (.istore 4, 2) := by decide +kernel
theorem dX6_readyChannel_14 : decode cX6_readyChannel 14 = .ok (.iload 4, 2) := by decide +kernel
theorem dX6_readyChannel_16 : decode cX6_readyChannel 16 = .ok (.aload_n 0, 1) := by decide +kernel
theorem dX6_readyChannel_17 : decode cX6_readyChannel 17 = .ok (.getfield 15, 3) := by decide +kernel
theorem dX6_readyChannel_20 : decode cX6_readyChannel 20 = .ok (.getfield 66, 3) := by decide +kernel
theorem dX6_readyChannel_23 : decode cX6_readyChannel 23 = .ok (.if_icmp .ge 37, 3) := by decide +kernel
theorem dX6_readyChannel_26 : decode cX6_readyChannel 26 = .ok (.iload_n 3, 1) := by decide +kernel
theorem dX6_readyChannel_27 : decode cX6_readyChannel 27 = .ok (.iload 4, 2) := by decide +kernel
theorem dX6_readyChannel_29 : decode cX6_readyChannel 29 = .ok (.iadd, 1) := by decide +kernel
theorem dX6_readyChannel_30 : decode cX6_readyChannel 30 = .ok (.aload_n 0, 1) := by decide +kernel
theorem dX6_readyChannel_31 : decode cX6_readyChannel 31 = .ok (.getfield 15, 3) := by decide +kernel
theorem dX6_readyChannel_34 : decode cX6_readyChannel 34 = .ok (.getfield 66, 3) := by decide +kernel
theorem dX6_readyChannel_37 : decode cX6_readyChannel 37 = .ok (.irem, 1) := by decide +kernel
theorem dX6_readyChannel_38 : decode cX6_readyChannel 38 = .ok (.istore 5, 2) := by decide +kernel
theorem dX6_readyChannel_40 : decode cX6_readyChannel 40 = .ok (.aload_n 0, 1) := by decide +kernel
theorem dX6_readyChannel_41 : decode cX6_readyChannel 41 = .ok (.iload_n 1, 1) := by decide +kernel
theorem dX6_readyChannel_42 : decode cX6_readyChannel 42 = .ok (.iload_n 2, 1) := by decide +kernel
theorem dX6_readyChannel_43 : decode cX6_readyChannel 43 = .ok (.iload 5, 2) := by decide +kernel
theorem dX6_readyChannel_45 : decode cX6_readyChannel 45 = .ok (.invokevirtual 69, 3) := by decide +kernel
theorem dX6_readyChannel_48 : decode cX6_readyChannel 48 = .ok (.ifCond .eq 6, 3) := by decide +kernel
theorem dX6_readyChannel_51 : decode cX6_readyChannel 51 = .ok (.iload 5, 2) := by decide +kernel
theorem dX6_readyChannel_53 : decode cX6_readyChannel 53 = .ok (.ireturn, 1) := by decide +kernel
theorem dX6_readyChannel_54 : decode cX6_readyChannel 54 = .ok (.iinc 4 1, 3) := by decide +kernel
theorem dX6_readyChannel_57 : decode cX6_readyChannel 57 = .ok (.goto (-43), 3) := by decide +kernel
theorem dX6_readyChannel_60 : decode cX6_readyChannel 60 = .ok (.iconst (-1), 1) := by decide +kernel
theorem dX6_readyChannel_61 : decode cX6_readyChannel 61 = .ok (.ireturn, 1) := by decide +kernel
theorem dX6_isReady_0 : decode cX6_isReady 0 = .ok (.aload_n 0, 1) := by decide +kernel
theorem dX6_isReady_1 : decode cX6_isReady 1 = .ok (.getfield 15, 3) := by decide +kernel
theorem dX6_isReady_4 : decode cX6_isReady 4 = .ok (.iload_n 1, 1) := by decide +kernel
theorem dX6_isReady_5 : decode cX6_isReady 5 = .ok (.iload_n 2, 1) := by decide +kernel
theorem dX6_isReady_6 : decode cX6_isReady 6 = .ok (.iload_n 3, 1) := by decide +kernel
theorem dX6_isReady_7 : decode cX6_isReady 7 = .ok (.invokevirtual 73, 3) := by decide +kernel
theorem dX6_isReady_10 : decode cX6_isReady 10 = .ok (.istore 4, 2) := by decide +kernel
theorem dX6_isReady_12 : decode cX6_isReady 12 = .ok (.aload_n 0, 1) := by decide +kernel
theorem dX6_isReady_13 : decode cX6_isReady 13 = .ok (.getfield 19, 3) := by decide +kernel
theorem dX6_isReady_16 : decode cX6_isReady 16 = .ok (.getfield 77, 3) := by decide +kernel
theorem dX6_isReady_19 : decode cX6_isReady 19 = .ok (.iload 4, 2) := by decide +kernel
theorem dX6_isReady_21 : decode cX6_isReady 21 = .ok (.iaload, 1) := by decide +kernel
theorem dX6_isReady_22 : decode cX6_isReady 22 = .ok (.ifCond .le 45, 3) := by decide +kernel
theorem dX6_isReady_25 : decode cX6_isReady 25 = .ok (.aload_n 0, 1) := by decide +kernel
theorem dX6_isReady_26 : decode cX6_isReady 26 = .ok (.getfield 33, 3) := by decide +kernel
theorem dX6_isReady_29 : decode cX6_isReady 29 = .ok (.iload 4, 2) := by decide +kernel
theorem dX6_isReady_31 : decode cX6_isReady 31 = .ok (.iaload, 1) := by decide +kernel
theorem dX6_isReady_32 : decode cX6_isReady 32 = .ok (.iconst 2, 1) := by decide +kernel
theorem dX6_isReady_33 : decode cX6_isReady 33 = .ok (.if_icmp .ne 34, 3) := by decide +kernel
theorem dX6_isReady_36 : decode cX6_isReady 36 = .ok (.aload_n 0, 1) := by decide +kernel
theorem dX6_isReady_37 : decode cX6_isReady 37 = .ok (.getfield 19, 3) := by decide +kernel
theorem dX6_isReady_40 : decode cX6_isReady 40 = .ok (.getfield 82, 3) := by decide +kernel
theorem dX6_isReady_43 : decode cX6_isReady 43 = .ok (.aload_n 0, 1) := by decide +kernel
theorem dX6_isReady_44 : decode cX6_isReady 44 = .ok (.getfield 15, 3) := by decide +kernel
theorem dX6_isReady_47 : decode cX6_isReady 47 = .ok (.iload_n 1, 1) := by decide +kernel
theorem dX6_isReady_48 : decode cX6_isReady 48 = .ok (.aload_n 0, 1) := by decide +kernel
theorem dX6_isReady_49 : decode cX6_isReady 49 = .ok (.getfield 36, 3) := by decide +kernel
theorem dX6_isReady_52 : decode cX6_isReady 52 = .ok (.iload 4, 2) := by decide +kernel
theorem dX6_isReady_54 : decode cX6_isReady 54 = .ok (.iaload, 1) := by decide +kernel
theorem dX6_isReady_55 : decode cX6_isReady 55 = .ok (.iload_n 3, 1) := by decide +kernel
theorem dX6_isReady_56 : decode cX6_isReady 56 = .ok (.invokevirtual 73, 3) := by decide +kernel
theorem dX6_isReady_59 : decode cX6_isReady 59 = .ok (.iaload, 1) := by decide +kernel
theorem dX6_isReady_60 : decode cX6_isReady 60 = .ok (.ifCond .le 7, 3) := by decide +kernel
theorem dX6_isReady_63 : decode cX6_isReady 63 = .ok (.iconst 1, 1) := by decide +kernel
theorem dX6_isReady_64 : decode cX6_isReady 64 = .ok (.goto 4, 3) := by decide +kernel
theorem dX6_isReady_67 : decode cX6_isReady 67 = .ok (.iconst 0, 1) := by decide +kernel
theorem dX6_isReady_68 : decode cX6_isReady 68 = .ok (.ireturn, 1) := by decide +kernel
theorem dX6_chosenPort_0 : decode cX6_chosenPort 0 = .ok (.aload_n 0, 1) := by decide +kernel
theorem dX6_chosenPort_1 : decode cX6_chosenPort 1 = .ok (.getfield 52, 3) := by decide +kernel
theorem dX6_chosenPort_4 : decode cX6_chosenPort 4 = .ok (.iload_n 1, 1) := by decide +kernel
theorem dX6_chosenPort_5 : decode cX6_chosenPort 5 = .ok (.iconst 5, 1) := by decide +kernel
theorem dX6_chosenPort_6 : decode cX6_chosenPort 6 = .ok (.imul, 1) := by decide +kernel
theorem dX6_chosenPort_7 : decode cX6_chosenPort 7 = .ok (.iload_n 2, 1) := by decide +kernel
theorem dX6_chosenPort_8 : decode cX6_chosenPort 8 = .ok (.iadd, 1) := by decide +kernel
theorem dX6_chosenPort_9 : decode cX6_chosenPort 9 = .ok (.iaload, 1) := by decide +kernel
theorem dX6_chosenPort_10 : decode cX6_chosenPort 10 = .ok (.istore_n 3, 1) := by decide +kernel
theorem dX6_chosenPort_11 : decode cX6_chosenPort 11 = .ok (.iconst 0, 1) := by decide +kernel
theorem dX6_chosenPort_12 : decode cX6_chosenPort 12 = .ok (.istore 4, 2) := by decide +kernel
theorem dX6_chosenPort_14 : decode cX6_chosenPort 14 = .ok (.iload 4, 2) := by decide +kernel
theorem dX6_chosenPort_16 : decode cX6_chosenPort 16 = .ok (.iconst 5, 1) := by decide +kernel
theorem dX6_chosenPort_17 : decode cX6_chosenPort 17 = .ok (.if_icmp .ge 57, 3) := by decide +kernel
theorem dX6_chosenPort_20 : decode cX6_chosenPort 20 = .ok (.iload_n 3, 1) := by decide +kernel
theorem dX6_chosenPort_21 : decode cX6_chosenPort 21 = .ok (.iload 4, 2) := by decide +kernel
theorem dX6_chosenPort_23 : decode cX6_chosenPort 23 = .ok (.iadd, 1) := by decide +kernel
theorem dX6_chosenPort_24 : decode cX6_chosenPort 24 = .ok (.iconst 5, 1) := by decide +kernel
theorem dX6_chosenPort_25 : decode cX6_chosenPort 25 = .ok (.irem, 1) := by decide +kernel
theorem dX6_chosenPort_26 : decode cX6_chosenPort 26 = .ok (.istore 5, 2) := by decide +kernel
theorem dX6_chosenPort_28 : decode cX6_chosenPort 28 = .ok (.aload_n 0, 1) := by decide +kernel
theorem dX6_chosenPort_29 : decode cX6_chosenPort 29 = .ok (.getfield 9, 3) := by decide +kernel
theorem dX6_chosenPort_32 : decode cX6_chosenPort 32 = .ok (.iload 5, 2) := by decide +kernel
theorem dX6_chosenPort_34 : decode cX6_chosenPort 34 = .ok (.iaload, 1) := by decide +kernel
theorem dX6_chosenPort_35 : decode cX6_chosenPort 35 = .ok (.iconst (-1), 1) := by decide +kernel
theorem dX6_chosenPort_36 : decode cX6_chosenPort 36 = .ok (.if_icmp .eq 32, 3) := by decide +kernel
theorem dX6_chosenPort_39 : decode cX6_chosenPort 39 = .ok (.aload_n 0, 1) := by decide +kernel
theorem dX6_chosenPort_40 : decode cX6_chosenPort 40 = .ok (.getfield 36, 3) := by decide +kernel
theorem dX6_chosenPort_43 : decode cX6_chosenPort 43 = .ok (.aload_n 0, 1) := by decide +kernel
theorem dX6_chosenPort_44 : decode cX6_chosenPort 44 = .ok (.getfield 15, 3) := by decide +kernel
theorem dX6_chosenPort_47 : decode cX6_chosenPort 47 = .ok (.iload_n 1, 1) := by decide +kernel
theorem dX6_chosenPort_48 : decode cX6_chosenPort 48 = .ok (.iload 5, 2) := by decide +kernel
theorem dX6_chosenPort_50 : decode cX6_chosenPort 50 = .ok (.aload_n 0, 1) := by decide +kernel
theorem dX6_chosenPort_51 : decode cX6_chosenPort 51 = .ok (.getfield 9, 3) := by decide +kernel
theorem dX6_chosenPort_54 : decode cX6_chosenPort 54 = .ok (.iload 5, 2) := by decide +kernel
theorem dX6_chosenPort_56 : decode cX6_chosenPort 56 = .ok (.iaload, 1) := by decide +kernel
theorem dX6_chosenPort_57 : decode cX6_chosenPort 57 = .ok (.invokevirtual 73, 3) := by decide +kernel
theorem dX6_chosenPort_60 : decode cX6_chosenPort 60 = .ok (.iaload, 1) := by decide +kernel
theorem dX6_chosenPort_61 : decode cX6_chosenPort 61 = .ok (.iload_n 2, 1) := by decide +kernel
theorem dX6_chosenPort_62 : decode cX6_chosenPort 62 = .ok (.if_icmp .ne 6, 3) := by decide +kernel
theorem dX6_chosenPort_65 : decode cX6_chosenPort 65 = .ok (.iload 5, 2) := by decide +kernel
theorem dX6_chosenPort_67 : decode cX6_chosenPort 67 = .ok (.ireturn, 1) := by decide +kernel
theorem dX6_chosenPort_68 : decode cX6_chosenPort 68 = .ok (.iinc 4 1, 3) := by decide +kernel
theorem dX6_chosenPort_71 : decode cX6_chosenPort 71 = .ok (.goto (-57), 3) := by decide +kernel
theorem dX6_chosenPort_74 : decode cX6_chosenPort 74 = .ok (.iconst (-1), 1) := by decide +kernel
theorem dX6_chosenPort_75 : decode cX6_chosenPort 75 = .ok (.ireturn, 1) := by decide +kernel
theorem dX6_move_0 : decode cX6_move 0 = .ok (.aload_n 0, 1) := by decide +kernel
theorem dX6_move_1 : decode cX6_move 1 = .ok (.getfield 9, 3) := by decide +kernel
theorem dX6_move_4 : decode cX6_move 4 = .ok (.iload_n 2, 1) := by decide +kernel
theorem dX6_move_5 : decode cX6_move 5 = .ok (.iaload, 1) := by decide +kernel
theorem dX6_move_6 : decode cX6_move 6 = .ok (.istore 4, 2) := by decide +kernel
theorem dX6_move_8 : decode cX6_move 8 = .ok (.aload_n 0, 1) := by decide +kernel
theorem dX6_move_9 : decode cX6_move 9 = .ok (.getfield 15, 3) := by decide +kernel
theorem dX6_move_12 : decode cX6_move 12 = .ok (.iload_n 1, 1) := by decide +kernel
theorem dX6_move_13 : decode cX6_move 13 = .ok (.iload_n 2, 1) := by decide +kernel
theorem dX6_move_14 : decode cX6_move 14 = .ok (.iload 4, 2) := by decide +kernel
theorem dX6_move_16 : decode cX6_move 16 = .ok (.invokevirtual 73, 3) := by decide +kernel
theorem dX6_move_19 : decode cX6_move 19 = .ok (.istore 5, 2) := by decide +kernel
theorem dX6_move_21 : decode cX6_move 21 = .ok (.aload_n 0, 1) := by decide +kernel
theorem dX6_move_22 : decode cX6_move 22 = .ok (.getfield 15, 3) := by decide +kernel
theorem dX6_move_25 : decode cX6_move 25 = .ok (.iload_n 1, 1) := by decide +kernel
theorem dX6_move_26 : decode cX6_move 26 = .ok (.iload_n 3, 1) := by decide +kernel
theorem dX6_move_27 : decode cX6_move 27 = .ok (.iload 4, 2) := by decide +kernel
theorem dX6_move_29 : decode cX6_move 29 = .ok (.invokevirtual 73, 3) := by decide +kernel
theorem dX6_move_32 : decode cX6_move 32 = .ok (.istore 6, 2) := by decide +kernel
theorem dX6_move_34 : decode cX6_move 34 = .ok (.aload_n 0, 1) := by decide +kernel
theorem dX6_move_35 : decode cX6_move 35 = .ok (.getfield 19, 3) := by decide +kernel
theorem dX6_move_38 : decode cX6_move 38 = .ok (.iload 5, 2) := by decide +kernel
theorem dX6_move_40 : decode cX6_move 40 = .ok (.invokevirtual 85, 3) := by decide +kernel
theorem dX6_move_43 : decode cX6_move 43 = .ok (.istore 7, 2) := by decide +kernel
theorem dX6_move_45 : decode cX6_move 45 = .ok (.aload_n 0, 1) := by decide +kernel
theorem dX6_move_46 : decode cX6_move 46 = .ok (.getfield 19, 3) := by decide +kernel
theorem dX6_move_49 : decode cX6_move 49 = .ok (.iload 6, 2) := by decide +kernel
theorem dX6_move_51 : decode cX6_move 51 = .ok (.iload 7, 2) := by decide +kernel
theorem dX6_move_53 : decode cX6_move 53 = .ok (.invokevirtual 89, 3) := by decide +kernel
theorem dX6_move_56 : decode cX6_move 56 = .ok (.aload_n 0, 1) := by decide +kernel
theorem dX6_move_57 : decode cX6_move 57 = .ok (.getfield 52, 3) := by decide +kernel
theorem dX6_move_60 : decode cX6_move 60 = .ok (.iload_n 1, 1) := by decide +kernel
theorem dX6_move_61 : decode cX6_move 61 = .ok (.iconst 5, 1) := by decide +kernel
theorem dX6_move_62 : decode cX6_move 62 = .ok (.imul, 1) := by decide +kernel
theorem dX6_move_63 : decode cX6_move 63 = .ok (.iload_n 3, 1) := by decide +kernel
theorem dX6_move_64 : decode cX6_move 64 = .ok (.iadd, 1) := by decide +kernel
theorem dX6_move_65 : decode cX6_move 65 = .ok (.iload_n 2, 1) := by decide +kernel
theorem dX6_move_66 : decode cX6_move 66 = .ok (.iconst 1, 1) := by decide +kernel
theorem dX6_move_67 : decode cX6_move 67 = .ok (.iadd, 1) := by decide +kernel
theorem dX6_move_68 : decode cX6_move 68 = .ok (.iconst 5, 1) := by decide +kernel
theorem dX6_move_69 : decode cX6_move 69 = .ok (.irem, 1) := by decide +kernel
theorem dX6_move_70 : decode cX6_move 70 = .ok (.iastore, 1) := by decide +kernel
theorem dX6_move_71 : decode cX6_move 71 = .ok (.aload_n 0, 1) := by decide +kernel
theorem dX6_move_72 : decode cX6_move 72 = .ok (.getfield 49, 3) := by decide +kernel
theorem dX6_move_75 : decode cX6_move 75 = .ok (.iload_n 1, 1) := by decide +kernel
theorem dX6_move_76 : decode cX6_move 76 = .ok (.iconst 5, 1) := by decide +kernel
theorem dX6_move_77 : decode cX6_move 77 = .ok (.imul, 1) := by decide +kernel
theorem dX6_move_78 : decode cX6_move 78 = .ok (.iload_n 2, 1) := by decide +kernel
theorem dX6_move_79 : decode cX6_move 79 = .ok (.iadd, 1) := by decide +kernel
theorem dX6_move_80 : decode cX6_move 80 = .ok (.iload 4, 2) := by decide +kernel
theorem dX6_move_82 : decode cX6_move 82 = .ok (.iconst 1, 1) := by decide +kernel
theorem dX6_move_83 : decode cX6_move 83 = .ok (.iadd, 1) := by decide +kernel
theorem dX6_move_84 : decode cX6_move 84 = .ok (.aload_n 0, 1) := by decide +kernel
theorem dX6_move_85 : decode cX6_move 85 = .ok (.getfield 15, 3) := by decide +kernel
theorem dX6_move_88 : decode cX6_move 88 = .ok (.getfield 66, 3) := by decide +kernel
theorem dX6_move_91 : decode cX6_move 91 = .ok (.irem, 1) := by decide +kernel
theorem dX6_move_92 : decode cX6_move 92 = .ok (.iastore, 1) := by decide +kernel
theorem dX6_move_93 : decode cX6_move 93 = .ok (.iload 7, 2) := by decide +kernel
theorem dX6_move_95 : decode cX6_move 95 = .ok (.invokestatic 93, 3) := by decide +kernel
theorem dX6_move_98 : decode cX6_move 98 = .ok (.ifCond .eq 19, 3) := by decide +kernel
theorem dX6_move_101 : decode cX6_move 101 = .ok (.aload_n 0, 1) := by decide +kernel
theorem dX6_move_102 : decode cX6_move 102 = .ok (.getfield 39, 3) := by decide +kernel
theorem dX6_move_105 : decode cX6_move 105 = .ok (.iload 6, 2) := by decide +kernel
theorem dX6_move_107 : decode cX6_move 107 = .ok (.iconst 0, 1) := by decide +kernel
theorem dX6_move_108 : decode cX6_move 108 = .ok (.bastore, 1) := by decide +kernel
theorem dX6_move_109 : decode cX6_move 109 = .ok (.aload_n 0, 1) := by decide +kernel
theorem dX6_move_110 : decode cX6_move 110 = .ok (.getfield 33, 3) := by decide +kernel
theorem dX6_move_113 : decode cX6_move 113 = .ok (.iload 5, 2) := by decide +kernel
theorem dX6_move_115 : decode cX6_move 115 = .ok (.iconst 0, 1) := by decide +kernel
theorem dX6_move_116 : decode cX6_move 116 = .ok (.iastore, 1) := by decide +kernel
theorem dX6_move_117 : decode cX6_move 117 = .ok (.return_, 1) := by decide +kernel
theorem dX6_grantAll_0 : decode cX6_grantAll 0 = .ok (.iconst 0, 1) := by decide +kernel
theorem dX6_grantAll_1 : decode cX6_grantAll 1 = .ok (.istore_n 1, 1) := by decide +kernel
theorem dX6_grantAll_2 : decode cX6_grantAll 2 = .ok (.iload_n 1, 1) := by decide +kernel
theorem dX6_grantAll_3 : decode cX6_grantAll 3 = .ok (.aload_n 0, 1) := by decide +kernel
theorem dX6_grantAll_4 : decode cX6_grantAll 4 = .ok (.getfield 15, 3) := by decide +kernel
theorem dX6_grantAll_7 : decode cX6_grantAll 7 = .ok (.getfield 46, 3) := by decide +kernel
theorem dX6_grantAll_10 : decode cX6_grantAll 10 = .ok (.if_icmp .ge 77, 3) := by decide +kernel
theorem dX6_grantAll_13 : decode cX6_grantAll 13 = .ok (.iconst 0, 1) := by decide +kernel
theorem dX6_grantAll_14 : decode cX6_grantAll 14 = .ok (.istore_n 2, 1) := by decide +kernel
theorem dX6_grantAll_15 : decode cX6_grantAll 15 = .ok (.iload_n 2, 1) := by decide +kernel
theorem dX6_grantAll_16 : decode cX6_grantAll 16 = .ok (.iconst 5, 1) := by decide +kernel
theorem dX6_grantAll_17 : decode cX6_grantAll 17 = .ok (.if_icmp .ge 64, 3) := by decide +kernel
theorem dX6_grantAll_20 : decode cX6_grantAll 20 = .ok (.iconst 0, 1) := by decide +kernel
theorem dX6_grantAll_21 : decode cX6_grantAll 21 = .ok (.istore_n 3, 1) := by decide +kernel
theorem dX6_grantAll_22 : decode cX6_grantAll 22 = .ok (.iload_n 3, 1) := by decide +kernel
theorem dX6_grantAll_23 : decode cX6_grantAll 23 = .ok (.aload_n 0, 1) := by decide +kernel
theorem dX6_grantAll_24 : decode cX6_grantAll 24 = .ok (.getfield 15, 3) := by decide +kernel
theorem dX6_grantAll_27 : decode cX6_grantAll 27 = .ok (.getfield 66, 3) := by decide +kernel
theorem dX6_grantAll_30 : decode cX6_grantAll 30 = .ok (.if_icmp .ge 45, 3) := by decide +kernel
theorem dX6_grantAll_33 : decode cX6_grantAll 33 = .ok (.aload_n 0, 1) := by decide +kernel
theorem dX6_grantAll_34 : decode cX6_grantAll 34 = .ok (.getfield 15, 3) := by decide +kernel
theorem dX6_grantAll_37 : decode cX6_grantAll 37 = .ok (.iload_n 1, 1) := by decide +kernel
theorem dX6_grantAll_38 : decode cX6_grantAll 38 = .ok (.iload_n 2, 1) := by decide +kernel
theorem dX6_grantAll_39 : decode cX6_grantAll 39 = .ok (.iload_n 3, 1) := by decide +kernel
theorem dX6_grantAll_40 : decode cX6_grantAll 40 = .ok (.invokevirtual 73, 3) := by decide +kernel
theorem dX6_grantAll_43 : decode cX6_grantAll 43 = .ok (.istore 4, 2) := by decide +kernel
theorem dX6_grantAll_45 : decode cX6_grantAll 45 = .ok (.aload_n 0, 1) := by decide +kernel
theorem dX6_grantAll_46 : decode cX6_grantAll 46 = .ok (.getfield 33, 3) := by decide +kernel
theorem dX6_grantAll_49 : decode cX6_grantAll 49 = .ok (.iload 4, 2) := by decide +kernel
theorem dX6_grantAll_51 : decode cX6_grantAll 51 = .ok (.iaload, 1) := by decide +kernel
theorem dX6_grantAll_52 : decode cX6_grantAll 52 = .ok (.iconst 1, 1) := by decide +kernel
theorem dX6_grantAll_53 : decode cX6_grantAll 53 = .ok (.if_icmp .ne 16, 3) := by decide +kernel
theorem dX6_grantAll_56 : decode cX6_grantAll 56 = .ok (.aload_n 0, 1) := by decide +kernel
theorem dX6_grantAll_57 : decode cX6_grantAll 57 = .ok (.iload_n 1, 1) := by decide +kernel
theorem dX6_grantAll_58 : decode cX6_grantAll 58 = .ok (.aload_n 0, 1) := by decide +kernel
theorem dX6_grantAll_59 : decode cX6_grantAll 59 = .ok (.getfield 36, 3) := by decide +kernel
theorem dX6_grantAll_62 : decode cX6_grantAll 62 = .ok (.iload 4, 2) := by decide +kernel
theorem dX6_grantAll_64 : decode cX6_grantAll 64 = .ok (.iaload, 1) := by decide +kernel
theorem dX6_grantAll_65 : decode cX6_grantAll 65 = .ok (.iload_n 3, 1) := by decide +kernel
theorem dX6_grantAll_66 : decode cX6_grantAll 66 = .ok (.invokevirtual 99, 3) := by decide +kernel
theorem dX6_grantAll_69 : decode cX6_grantAll 69 = .ok (.iinc 3 1, 3) := by decide +kernel
theorem dX6_grantAll_72 : decode cX6_grantAll 72 = .ok (.goto (-50), 3) := by decide +kernel
theorem dX6_grantAll_75 : decode cX6_grantAll 75 = .ok (.iinc 2 1, 3) := by decide +kernel
theorem dX6_grantAll_78 : decode cX6_grantAll 78 = .ok (.goto (-63), 3) := by decide +kernel
theorem dX6_grantAll_81 : decode cX6_grantAll 81 = .ok (.iinc 1 1, 3) := by decide +kernel
theorem dX6_grantAll_84 : decode cX6_grantAll 84 = .ok (.goto (-82), 3) := by decide +kernel
theorem dX6_grantAll_87 : decode cX6_grantAll 87 = .ok (.return_, 1) := by decide +kernel
theorem dX6_grantIfFree_0 : decode cX6_grantIfFree 0 = .ok (.aload_n 0, 1) := by decide +kernel
theorem dX6_grantIfFree_1 : decode cX6_grantIfFree 1 = .ok (.getfield 15, 3) := by decide +kernel
theorem dX6_grantIfFree_4 : decode cX6_grantIfFree 4 = .ok (.iload_n 1, 1) := by decide +kernel
theorem dX6_grantIfFree_5 : decode cX6_grantIfFree 5 = .ok (.iload_n 2, 1) := by decide +kernel
theorem dX6_grantIfFree_6 : decode cX6_grantIfFree 6 = .ok (.iload_n 3, 1) := by decide +kernel
theorem dX6_grantIfFree_7 : decode cX6_grantIfFree 7 = .ok (.invokevirtual 73, 3) := by decide +kernel
theorem dX6_grantIfFree_10 : decode cX6_grantIfFree 10 = .ok (.istore 4, 2) := by decide +kernel
theorem dX6_grantIfFree_12 : decode cX6_grantIfFree 12 = .ok (.aload_n 0, 1) := by decide +kernel
theorem dX6_grantIfFree_13 : decode cX6_grantIfFree 13 = .ok (.getfield 39, 3) := by decide +kernel
theorem dX6_grantIfFree_16 : decode cX6_grantIfFree 16 = .ok (.iload 4, 2) := by decide +kernel
theorem dX6_grantIfFree_18 : decode cX6_grantIfFree 18 = .ok (.baload, 1) := by decide +kernel
theorem dX6_grantIfFree_19 : decode cX6_grantIfFree 19 = .ok (.ifCond .eq 4, 3) := by decide +kernel
theorem dX6_grantIfFree_22 : decode cX6_grantIfFree 22 = .ok (.return_, 1) := by decide +kernel
theorem dX6_grantIfFree_23 : decode cX6_grantIfFree 23 = .ok (.aload_n 0, 1) := by decide +kernel
theorem dX6_grantIfFree_24 : decode cX6_grantIfFree 24 = .ok (.getfield 43, 3) := by decide +kernel
theorem dX6_grantIfFree_27 : decode cX6_grantIfFree 27 = .ok (.iload 4, 2) := by decide +kernel
theorem dX6_grantIfFree_29 : decode cX6_grantIfFree 29 = .ok (.iaload, 1) := by decide +kernel
theorem dX6_grantIfFree_30 : decode cX6_grantIfFree 30 = .ok (.istore 5, 2) := by decide +kernel
theorem dX6_grantIfFree_32 : decode cX6_grantIfFree 32 = .ok (.iconst 0, 1) := by decide +kernel
theorem dX6_grantIfFree_33 : decode cX6_grantIfFree 33 = .ok (.istore 6, 2) := by decide +kernel
theorem dX6_grantIfFree_35 : decode cX6_grantIfFree 35 = .ok (.iload 6, 2) := by decide +kernel
theorem dX6_grantIfFree_37 : decode cX6_grantIfFree 37 = .ok (.iconst 5, 1) := by decide +kernel
theorem dX6_grantIfFree_38 : decode cX6_grantIfFree 38 = .ok (.if_icmp .ge 83, 3) := by decide +kernel
theorem dX6_grantIfFree_41 : decode cX6_grantIfFree 41 = .ok (.iload 5, 2) := by decide +kernel
theorem dX6_grantIfFree_43 : decode cX6_grantIfFree 43 = .ok (.iload 6, 2) := by decide +kernel
theorem dX6_grantIfFree_45 : decode cX6_grantIfFree 45 = .ok (.iadd, 1) := by decide +kernel
theorem dX6_grantIfFree_46 : decode cX6_grantIfFree 46 = .ok (.iconst 5, 1) := by decide +kernel
theorem dX6_grantIfFree_47 : decode cX6_grantIfFree 47 = .ok (.irem, 1) := by decide +kernel
theorem dX6_grantIfFree_48 : decode cX6_grantIfFree 48 = .ok (.istore 7, 2) := by decide +kernel
theorem dX6_grantIfFree_50 : decode cX6_grantIfFree 50 = .ok (.aload_n 0, 1) := by decide +kernel
theorem dX6_grantIfFree_51 : decode cX6_grantIfFree 51 = .ok (.getfield 15, 3) := by decide +kernel
theorem dX6_grantIfFree_54 : decode cX6_grantIfFree 54 = .ok (.iload_n 1, 1) := by decide +kernel
theorem dX6_grantIfFree_55 : decode cX6_grantIfFree 55 = .ok (.iload 7, 2) := by decide +kernel
theorem dX6_grantIfFree_57 : decode cX6_grantIfFree 57 = .ok (.iload_n 3, 1) := by decide +kernel
theorem dX6_grantIfFree_58 : decode cX6_grantIfFree 58 = .ok (.invokevirtual 73, 3) := by decide +kernel
theorem dX6_grantIfFree_61 : decode cX6_grantIfFree 61 = .ok (.istore 8, 2) := by decide +kernel
theorem dX6_grantIfFree_63 : decode cX6_grantIfFree 63 = .ok (.aload_n 0, 1) := by decide +kernel
theorem dX6_grantIfFree_64 : decode cX6_grantIfFree 64 = .ok (.getfield 33, 3) := by decide +kernel
theorem dX6_grantIfFree_67 : decode cX6_grantIfFree 67 = .ok (.iload 8, 2) := by decide +kernel
theorem dX6_grantIfFree_69 : decode cX6_grantIfFree 69 = .ok (.iaload, 1) := by decide +kernel
theorem dX6_grantIfFree_70 : decode cX6_grantIfFree 70 = .ok (.iconst 1, 1) := by decide +kernel
theorem dX6_grantIfFree_71 : decode cX6_grantIfFree 71 = .ok (.if_icmp .ne 44, 3) := by decide +kernel
theorem dX6_grantIfFree_74 : decode cX6_grantIfFree 74 = .ok (.aload_n 0, 1) := by decide +kernel
theorem dX6_grantIfFree_75 : decode cX6_grantIfFree 75 = .ok (.getfield 36, 3) := by decide +kernel
theorem dX6_grantIfFree_78 : decode cX6_grantIfFree 78 = .ok (.iload 8, 2) := by decide +kernel
theorem dX6_grantIfFree_80 : decode cX6_grantIfFree 80 = .ok (.iaload, 1) := by decide +kernel
theorem dX6_grantIfFree_81 : decode cX6_grantIfFree 81 = .ok (.iload_n 2, 1) := by decide +kernel
theorem dX6_grantIfFree_82 : decode cX6_grantIfFree 82 = .ok (.if_icmp .ne 33, 3) := by decide +kernel
theorem dX6_grantIfFree_85 : decode cX6_grantIfFree 85 = .ok (.aload_n 0, 1) := by decide +kernel
theorem dX6_grantIfFree_86 : decode cX6_grantIfFree 86 = .ok (.getfield 39, 3) := by decide +kernel
theorem dX6_grantIfFree_89 : decode cX6_grantIfFree 89 = .ok (.iload 4, 2) := by decide +kernel
theorem dX6_grantIfFree_91 : decode cX6_grantIfFree 91 = .ok (.iconst 1, 1) := by decide +kernel
theorem dX6_grantIfFree_92 : decode cX6_grantIfFree 92 = .ok (.bastore, 1) := by decide +kernel
theorem dX6_grantIfFree_93 : decode cX6_grantIfFree 93 = .ok (.aload_n 0, 1) := by decide +kernel
theorem dX6_grantIfFree_94 : decode cX6_grantIfFree 94 = .ok (.getfield 33, 3) := by decide +kernel
theorem dX6_grantIfFree_97 : decode cX6_grantIfFree 97 = .ok (.iload 8, 2) := by decide +kernel
theorem dX6_grantIfFree_99 : decode cX6_grantIfFree 99 = .ok (.iconst 2, 1) := by decide +kernel
theorem dX6_grantIfFree_100 : decode cX6_grantIfFree 100 = .ok (.iastore, 1) := by decide +kernel
theorem dX6_grantIfFree_101 : decode cX6_grantIfFree 101 = .ok (.aload_n 0, 1) := by decide +kernel
theorem dX6_grantIfFree_102 : decode cX6_grantIfFree 102 = .ok (.getfield 43, 3) := by decide +kernel
theorem dX6_grantIfFree_105 : decode cX6_grantIfFree 105 = .ok (.iload 4, 2) := by decide +kernel
theorem dX6_grantIfFree_107 : decode cX6_grantIfFree 107 = .ok (.iload 7, 2) := by decide +kernel
theorem dX6_grantIfFree_109 : decode cX6_grantIfFree 109 = .ok (.iconst 1, 1) := by decide +kernel
theorem dX6_grantIfFree_110 : decode cX6_grantIfFree 110 = .ok (.iadd, 1) := by decide +kernel
theorem dX6_grantIfFree_111 : decode cX6_grantIfFree 111 = .ok (.iconst 5, 1) := by decide +kernel
theorem dX6_grantIfFree_112 : decode cX6_grantIfFree 112 = .ok (.irem, 1) := by decide +kernel
theorem dX6_grantIfFree_113 : decode cX6_grantIfFree 113 = .ok (.iastore, 1) := by decide +kernel
theorem dX6_grantIfFree_114 : decode cX6_grantIfFree 114 = .ok (.return_, 1) := by decide +kernel
theorem dX6_grantIfFree_115 : decode cX6_grantIfFree 115 = .ok (.iinc 6 1, 3) := by decide +kernel
theorem dX6_grantIfFree_118 : decode cX6_grantIfFree 118 = .ok (.goto (-83), 3) := by decide +kernel
theorem dX6_grantIfFree_121 : decode cX6_grantIfFree 121 = .ok (.return_, 1) := by decide +kernel
theorem dX6_routeAll_0 : decode cX6_routeAll 0 = .ok (.iconst 0, 1) := by decide +kernel
theorem dX6_routeAll_1 : decode cX6_routeAll 1 = .ok (.istore_n 1, 1) := by decide +kernel
theorem dX6_routeAll_2 : decode cX6_routeAll 2 = .ok (.iload_n 1, 1) := by decide +kernel
theorem dX6_routeAll_3 : decode cX6_routeAll 3 = .ok (.aload_n 0, 1) := by decide +kernel
theorem dX6_routeAll_4 : decode cX6_routeAll 4 = .ok (.getfield 15, 3) := by decide +kernel
theorem dX6_routeAll_7 : decode cX6_routeAll 7 = .ok (.getfield 46, 3) := by decide +kernel
theorem dX6_routeAll_10 : decode cX6_routeAll 10 = .ok (.if_icmp .ge 112, 3) := by decide +kernel
theorem dX6_routeAll_13 : decode cX6_routeAll 13 = .ok (.iconst 0, 1) := by decide +kernel
theorem dX6_routeAll_14 : decode cX6_routeAll 14 = .ok (.istore_n 2, 1) := by decide +kernel
theorem dX6_routeAll_15 : decode cX6_routeAll 15 = .ok (.iload_n 2, 1) := by decide +kernel
theorem dX6_routeAll_16 : decode cX6_routeAll 16 = .ok (.iconst 5, 1) := by decide +kernel
theorem dX6_routeAll_17 : decode cX6_routeAll 17 = .ok (.if_icmp .ge 99, 3) := by decide +kernel
theorem dX6_routeAll_20 : decode cX6_routeAll 20 = .ok (.iconst 0, 1) := by decide +kernel
theorem dX6_routeAll_21 : decode cX6_routeAll 21 = .ok (.istore_n 3, 1) := by decide +kernel
theorem dX6_routeAll_22 : decode cX6_routeAll 22 = .ok (.iload_n 3, 1) := by decide +kernel
theorem dX6_routeAll_23 : decode cX6_routeAll 23 = .ok (.aload_n 0, 1) := by decide +kernel
theorem dX6_routeAll_24 : decode cX6_routeAll 24 = .ok (.getfield 15, 3) := by decide +kernel
theorem dX6_routeAll_27 : decode cX6_routeAll 27 = .ok (.getfield 66, 3) := by decide +kernel
theorem dX6_routeAll_30 : decode cX6_routeAll 30 = .ok (.if_icmp .ge 80, 3) := by decide +kernel
theorem dX6_routeAll_33 : decode cX6_routeAll 33 = .ok (.aload_n 0, 1) := by decide +kernel
theorem dX6_routeAll_34 : decode cX6_routeAll 34 = .ok (.getfield 15, 3) := by decide +kernel
theorem dX6_routeAll_37 : decode cX6_routeAll 37 = .ok (.iload_n 1, 1) := by decide +kernel
theorem dX6_routeAll_38 : decode cX6_routeAll 38 = .ok (.iload_n 2, 1) := by decide +kernel
theorem dX6_routeAll_39 : decode cX6_routeAll 39 = .ok (.iload_n 3, 1) := by decide +kernel
theorem dX6_routeAll_40 : decode cX6_routeAll 40 = .ok (.invokevirtual 73, 3) := by decide +kernel
theorem dX6_routeAll_43 : decode cX6_routeAll 43 = .ok (.istore 4, 2) := by decide +kernel
theorem dX6_routeAll_45 : decode cX6_routeAll 45 = .ok (.aload_n 0, 1) := by decide +kernel
theorem dX6_routeAll_46 : decode cX6_routeAll 46 = .ok (.getfield 33, 3) := by decide +kernel
theorem dX6_routeAll_49 : decode cX6_routeAll 49 = .ok (.iload 4, 2) := by decide +kernel
theorem dX6_routeAll_51 : decode cX6_routeAll 51 = .ok (.iaload, 1) := by decide +kernel
theorem dX6_routeAll_52 : decode cX6_routeAll 52 = .ok (.ifCond .ne 52, 3) := by decide +kernel
theorem dX6_routeAll_55 : decode cX6_routeAll 55 = .ok (.aload_n 0, 1) := by decide +kernel
theorem dX6_routeAll_56 : decode cX6_routeAll 56 = .ok (.getfield 19, 3) := by decide +kernel
theorem dX6_routeAll_59 : decode cX6_routeAll 59 = .ok (.getfield 77, 3) := by decide +kernel
theorem dX6_routeAll_62 : decode cX6_routeAll 62 = .ok (.iload 4, 2) := by decide +kernel
theorem dX6_routeAll_64 : decode cX6_routeAll 64 = .ok (.iaload, 1) := by decide +kernel
theorem dX6_routeAll_65 : decode cX6_routeAll 65 = .ok (.ifCond .le 39, 3) := by decide +kernel
theorem dX6_routeAll_68 : decode cX6_routeAll 68 = .ok (.aload_n 0, 1) := by decide +kernel
theorem dX6_routeAll_69 : decode cX6_routeAll 69 = .ok (.getfield 36, 3) := by decide +kernel
theorem dX6_routeAll_72 : decode cX6_routeAll 72 = .ok (.iload 4, 2) := by decide +kernel
theorem dX6_routeAll_74 : decode cX6_routeAll 74 = .ok (.aload_n 0, 1) := by decide +kernel
theorem dX6_routeAll_75 : decode cX6_routeAll 75 = .ok (.iload_n 1, 1) := by decide +kernel
theorem dX6_routeAll_76 : decode cX6_routeAll 76 = .ok (.aload_n 0, 1) := by decide +kernel
theorem dX6_routeAll_77 : decode cX6_routeAll 77 = .ok (.getfield 23, 3) := by decide +kernel
theorem dX6_routeAll_80 : decode cX6_routeAll 80 = .ok (.aload_n 0, 1) := by decide +kernel
theorem dX6_routeAll_81 : decode cX6_routeAll 81 = .ok (.getfield 19, 3) := by decide +kernel
theorem dX6_routeAll_84 : decode cX6_routeAll 84 = .ok (.iload 4, 2) := by decide +kernel
theorem dX6_routeAll_86 : decode cX6_routeAll 86 = .ok (.invokevirtual 102, 3) := by decide +kernel
theorem dX6_routeAll_89 : decode cX6_routeAll 89 = .ok (.invokevirtual 105, 3) := by decide +kernel
theorem dX6_routeAll_92 : decode cX6_routeAll 92 = .ok (.invokevirtual 108, 3) := by decide +kernel
theorem dX6_routeAll_95 : decode cX6_routeAll 95 = .ok (.iastore, 1) := by decide +kernel
theorem dX6_routeAll_96 : decode cX6_routeAll 96 = .ok (.aload_n 0, 1) := by decide +kernel
theorem dX6_routeAll_97 : decode cX6_routeAll 97 = .ok (.getfield 33, 3) := by decide +kernel
theorem dX6_routeAll_100 : decode cX6_routeAll 100 = .ok (.iload 4, 2) := by decide +kernel
theorem dX6_routeAll_102 : decode cX6_routeAll 102 = .ok (.iconst 1, 1) := by decide +kernel
theorem dX6_routeAll_103 : decode cX6_routeAll 103 = .ok (.iastore, 1) := by decide +kernel
theorem dX6_routeAll_104 : decode cX6_routeAll 104 = .ok (.iinc 3 1, 3) := by decide +kernel
theorem dX6_routeAll_107 : decode cX6_routeAll 107 = .ok (.goto (-85), 3) := by decide +kernel
theorem dX6_routeAll_110 : decode cX6_routeAll 110 = .ok (.iinc 2 1, 3) := by decide +kernel
theorem dX6_routeAll_113 : decode cX6_routeAll 113 = .ok (.goto (-98), 3) := by decide +kernel
theorem dX6_routeAll_116 : decode cX6_routeAll 116 = .ok (.iinc 1 1, 3) := by decide +kernel
theorem dX6_routeAll_119 : decode cX6_routeAll 119 = .ok (.goto (-117), 3) := by decide +kernel
theorem dX6_routeAll_122 : decode cX6_routeAll 122 = .ok (.return_, 1) := by decide +kernel
theorem dX6_wayTo_0 : decode cX6_wayTo 0 = .ok (.aload_n 0, 1) := by decide +kernel
theorem dX6_wayTo_1 : decode cX6_wayTo 1 = .ok (.getfield 15, 3) := by decide +kernel
theorem dX6_wayTo_4 : decode cX6_wayTo 4 = .ok (.iload_n 2, 1) := by decide +kernel
theorem dX6_wayTo_5 : decode cX6_wayTo 5 = .ok (.invokevirtual 111, 3) := by decide +kernel
theorem dX6_wayTo_8 : decode cX6_wayTo 8 = .ok (.aload_n 0, 1) := by decide +kernel
theorem dX6_wayTo_9 : decode cX6_wayTo 9 = .ok (.getfield 15, 3) := by decide +kernel
theorem dX6_wayTo_12 : decode cX6_wayTo 12 = .ok (.iload_n 1, 1) := by decide +kernel
theorem dX6_wayTo_13 : decode cX6_wayTo 13 = .ok (.invokevirtual 111, 3) := by decide +kernel
theorem dX6_wayTo_16 : decode cX6_wayTo 16 = .ok (.isub, 1) := by decide +kernel
theorem dX6_wayTo_17 : decode cX6_wayTo 17 = .ok (.istore_n 3, 1) := by decide +kernel
theorem dX6_wayTo_18 : decode cX6_wayTo 18 = .ok (.iload_n 3, 1) := by decide +kernel
theorem dX6_wayTo_19 : decode cX6_wayTo 19 = .ok (.ifCond .eq 13, 3) := by decide +kernel
theorem dX6_wayTo_22 : decode cX6_wayTo 22 = .ok (.iload_n 3, 1) := by decide +kernel
theorem dX6_wayTo_23 : decode cX6_wayTo 23 = .ok (.ifCond .le 7, 3) := by decide +kernel
theorem dX6_wayTo_26 : decode cX6_wayTo 26 = .ok (.iconst 1, 1) := by decide +kernel
theorem dX6_wayTo_27 : decode cX6_wayTo 27 = .ok (.goto 4, 3) := by decide +kernel
theorem dX6_wayTo_30 : decode cX6_wayTo 30 = .ok (.iconst 2, 1) := by decide +kernel
theorem dX6_wayTo_31 : decode cX6_wayTo 31 = .ok (.ireturn, 1) := by decide +kernel
theorem dX6_wayTo_32 : decode cX6_wayTo 32 = .ok (.aload_n 0, 1) := by decide +kernel
theorem dX6_wayTo_33 : decode cX6_wayTo 33 = .ok (.getfield 15, 3) := by decide +kernel
theorem dX6_wayTo_36 : decode cX6_wayTo 36 = .ok (.iload_n 2, 1) := by decide +kernel
theorem dX6_wayTo_37 : decode cX6_wayTo 37 = .ok (.invokevirtual 114, 3) := by decide +kernel
theorem dX6_wayTo_40 : decode cX6_wayTo 40 = .ok (.aload_n 0, 1) := by decide +kernel
theorem dX6_wayTo_41 : decode cX6_wayTo 41 = .ok (.getfield 15, 3) := by decide +kernel
theorem dX6_wayTo_44 : decode cX6_wayTo 44 = .ok (.iload_n 1, 1) := by decide +kernel
theorem dX6_wayTo_45 : decode cX6_wayTo 45 = .ok (.invokevirtual 114, 3) := by decide +kernel
theorem dX6_wayTo_48 : decode cX6_wayTo 48 = .ok (.isub, 1) := by decide +kernel
theorem dX6_wayTo_49 : decode cX6_wayTo 49 = .ok (.istore 4, 2) := by decide +kernel
theorem dX6_wayTo_51 : decode cX6_wayTo 51 = .ok (.iload 4, 2) := by decide +kernel
theorem dX6_wayTo_53 : decode cX6_wayTo 53 = .ok (.ifCond .eq 14, 3) := by decide +kernel
theorem dX6_wayTo_56 : decode cX6_wayTo 56 = .ok (.iload 4, 2) := by decide +kernel
theorem dX6_wayTo_58 : decode cX6_wayTo 58 = .ok (.ifCond .le 7, 3) := by decide +kernel
theorem dX6_wayTo_61 : decode cX6_wayTo 61 = .ok (.iconst 3, 1) := by decide +kernel
theorem dX6_wayTo_62 : decode cX6_wayTo 62 = .ok (.goto 4, 3) := by decide +kernel
theorem dX6_wayTo_65 : decode cX6_wayTo 65 = .ok (.iconst 4, 1) := by decide +kernel
theorem dX6_wayTo_66 : decode cX6_wayTo 66 = .ok (.ireturn, 1) := by decide +kernel
theorem dX6_wayTo_67 : decode cX6_wayTo 67 = .ok (.iconst 0, 1) := by decide +kernel
theorem dX6_wayTo_68 : decode cX6_wayTo 68 = .ok (.ireturn, 1) := by decide +kernel
theorem dX7_init_0 : decode cX7_init 0 = .ok (.aload_n 0, 1) := by decide +kernel
theorem dX7_init_1 : decode cX7_init 1 = .ok (.invokespecial 1, 3) := by decide +kernel
theorem dX7_init_4 : decode cX7_init 4 = .ok (.aload_n 0, 1) := by decide +kernel
theorem dX7_init_5 : decode cX7_init 5 = .ok (.new 7, 3) := by decide +kernel
theorem dX7_init_8 : decode cX7_init 8 = .ok (.dup, 1) := by decide +kernel
theorem dX7_init_9 : decode cX7_init 9 = .ok (.iload_n 1, 1) := by decide +kernel
theorem dX7_init_10 : decode cX7_init 10 = .ok (.iload_n 2, 1) := by decide +kernel
theorem dX7_init_11 : decode cX7_init 11 = .ok (.iload_n 3, 1) := by decide +kernel
theorem dX7_init_12 : decode cX7_init 12 = .ok (.iload 4, 2) := by decide +kernel
theorem dX7_init_14 : decode cX7_init 14 = .ok (.invokespecial 9, 3) := by decide +kernel
theorem dX7_init_17 : decode cX7_init 17 = .ok (.putfield 12, 3) := by decide +kernel
theorem dX7_init_20 : decode cX7_init 20 = .ok (.aload_n 0, 1) := by decide +kernel
theorem dX7_init_21 : decode cX7_init 21 = .ok (.new 18, 3) := by decide +kernel
theorem dX7_init_24 : decode cX7_init 24 = .ok (.dup, 1) := by decide +kernel
theorem dX7_init_25 : decode cX7_init 25 = .ok (.aload_n 0, 1) := by decide +kernel
theorem dX7_init_26 : decode cX7_init 26 = .ok (.getfield 12, 3) := by decide +kernel
theorem dX7_init_29 : decode cX7_init 29 = .ok (.invokespecial 20, 3) := by decide +kernel
theorem dX7_init_32 : decode cX7_init 32 = .ok (.putfield 23, 3) := by decide +kernel
theorem dX7_init_35 : decode cX7_init 35 = .ok (.aload_n 0, 1) := by decide +kernel
theorem dX7_init_36 : decode cX7_init 36 = .ok (.new 27, 3) := by decide +kernel
theorem dX7_init_39 : decode cX7_init 39 = .ok (.dup, 1) := by decide +kernel
theorem dX7_init_40 : decode cX7_init 40 = .ok (.aload_n 0, 1) := by decide +kernel
theorem dX7_init_41 : decode cX7_init 41 = .ok (.getfield 12, 3) := by decide +kernel
theorem dX7_init_44 : decode cX7_init 44 = .ok (.invokespecial 29, 3) := by decide +kernel
theorem dX7_init_47 : decode cX7_init 47 = .ok (.putfield 30, 3) := by decide +kernel
theorem dX7_init_50 : decode cX7_init 50 = .ok (.aload_n 0, 1) := by decide +kernel
theorem dX7_init_51 : decode cX7_init 51 = .ok (.new 34, 3) := by decide +kernel
theorem dX7_init_54 : decode cX7_init 54 = .ok (.dup, 1) := by decide +kernel
theorem dX7_init_55 : decode cX7_init 55 = .ok (.aload_n 0, 1) := by decide +kernel
theorem dX7_init_56 : decode cX7_init 56 = .ok (.getfield 12, 3) := by decide +kernel
theorem dX7_init_59 : decode cX7_init 59 = .ok (.aload_n 0, 1) := by decide +kernel
theorem dX7_init_60 : decode cX7_init 60 = .ok (.getfield 23, 3) := by decide +kernel
theorem dX7_init_63 : decode cX7_init 63 = .ok (.aload_n 0, 1) := by decide +kernel
theorem dX7_init_64 : decode cX7_init 64 = .ok (.getfield 30, 3) := by decide +kernel
theorem dX7_init_67 : decode cX7_init 67 = .ok (.invokespecial 36, 3) := by decide +kernel
theorem dX7_init_70 : decode cX7_init 70 = .ok (.putfield 39, 3) := by decide +kernel
theorem dX7_init_73 : decode cX7_init 73 = .ok (.aload_n 0, 1) := by decide +kernel
theorem dX7_init_74 : decode cX7_init 74 = .ok (.new 43, 3) := by decide +kernel
theorem dX7_init_77 : decode cX7_init 77 = .ok (.dup, 1) := by decide +kernel
theorem dX7_init_78 : decode cX7_init 78 = .ok (.aload_n 0, 1) := by decide +kernel
theorem dX7_init_79 : decode cX7_init 79 = .ok (.getfield 12, 3) := by decide +kernel
theorem dX7_init_82 : decode cX7_init 82 = .ok (.aload_n 0, 1) := by decide +kernel
theorem dX7_init_83 : decode cX7_init 83 = .ok (.getfield 23, 3) := by decide +kernel
theorem dX7_init_86 : decode cX7_init 86 = .ok (.aload_n 0, 1) := by decide +kernel
theorem dX7_init_87 : decode cX7_init 87 = .ok (.getfield 30, 3) := by decide +kernel
theorem dX7_init_90 : decode cX7_init 90 = .ok (.invokespecial 45, 3) := by decide +kernel
theorem dX7_init_93 : decode cX7_init 93 = .ok (.putfield 46, 3) := by decide +kernel
theorem dX7_init_96 : decode cX7_init 96 = .ok (.return_, 1) := by decide +kernel
theorem dX7_nodes_0 : decode cX7_nodes 0 = .ok (.aload_n 0, 1) := by decide +kernel
theorem dX7_nodes_1 : decode cX7_nodes 1 = .ok (.getfield 12, 3) := by decide +kernel
theorem dX7_nodes_4 : decode cX7_nodes 4 = .ok (.getfield 50, 3) := by decide +kernel
theorem dX7_nodes_7 : decode cX7_nodes 7 = .ok (.ireturn, 1) := by decide +kernel
theorem dX7_request_0 : decode cX7_request 0 = .ok (.aload_n 0, 1) := by decide +kernel
theorem dX7_request_1 : decode cX7_request 1 = .ok (.getfield 12, 3) := by decide +kernel
theorem dX7_request_4 : decode cX7_request 4 = .ok (.iload_n 1, 1) := by decide +kernel
theorem dX7_request_5 : decode cX7_request 5 = .ok (.invokevirtual 54, 3) := by decide +kernel
theorem dX7_request_8 : decode cX7_request 8 = .ok (.ifCond .eq 22, 3) := by decide +kernel
theorem dX7_request_11 : decode cX7_request 11 = .ok (.aload_n 0, 1) := by decide +kernel
theorem dX7_request_12 : decode cX7_request 12 = .ok (.getfield 12, 3) := by decide +kernel
theorem dX7_request_15 : decode cX7_request 15 = .ok (.iload_n 2, 1) := by decide +kernel
theorem dX7_request_16 : decode cX7_request 16 = .ok (.invokevirtual 54, 3) := by decide +kernel
theorem dX7_request_19 : decode cX7_request 19 = .ok (.ifCond .eq 11, 3) := by decide +kernel
theorem dX7_request_22 : decode cX7_request 22 = .ok (.iload 4, 2) := by decide +kernel
theorem dX7_request_24 : decode cX7_request 24 = .ok (.invokestatic 58, 3) := by decide +kernel
theorem dX7_request_27 : decode cX7_request 27 = .ok (.ifCond .ne 5, 3) := by decide +kernel
theorem dX7_request_30 : decode cX7_request 30 = .ok (.iconst (-1), 1) := by decide +kernel
theorem dX7_request_31 : decode cX7_request 31 = .ok (.ireturn, 1) := by decide +kernel
theorem dX7_request_32 : decode cX7_request 32 = .ok (.aload_n 0, 1) := by decide +kernel
theorem dX7_request_33 : decode cX7_request 33 = .ok (.getfield 39, 3) := by decide +kernel
theorem dX7_request_36 : decode cX7_request 36 = .ok (.getfield 61, 3) := by decide +kernel
theorem dX7_request_39 : decode cX7_request 39 = .ok (.iload_n 1, 1) := by decide +kernel
theorem dX7_request_40 : decode cX7_request 40 = .ok (.invokevirtual 65, 3) := by decide +kernel
theorem dX7_request_43 : decode cX7_request 43 = .ok (.ifCond .ne 13, 3) := by decide +kernel
theorem dX7_request_46 : decode cX7_request 46 = .ok (.aload_n 0, 1) := by decide +kernel
theorem dX7_request_47 : decode cX7_request 47 = .ok (.getfield 30, 3) := by decide +kernel
theorem dX7_request_50 : decode cX7_request 50 = .ok (.invokevirtual 70, 3) := by decide +kernel
theorem dX7_request_53 : decode cX7_request 53 = .ok (.ifCond .eq 6, 3) := by decide +kernel
theorem dX7_request_56 : decode cX7_request 56 = .ok (.bipush (-2), 2) := by decide +kernel
theorem dX7_request_58 : decode cX7_request 58 = .ok (.ireturn, 1) := by decide +kernel
theorem dX7_request_59 : decode cX7_request 59 = .ok (.aload_n 0, 1) := by decide +kernel
theorem dX7_request_60 : decode cX7_request 60 = .ok (.getfield 30, 3) := by decide +kernel
theorem dX7_request_63 : decode cX7_request 63 = .ok (.iload_n 1, 1) := by decide +kernel
theorem dX7_request_64 : decode cX7_request 64 = .ok (.iload_n 2, 1) := by decide +kernel
theorem dX7_request_65 : decode cX7_request 65 = .ok (.iload_n 3, 1) := by decide +kernel
theorem dX7_request_66 : decode cX7_request 66 = .ok (.iload 4, 2) := by decide +kernel
theorem dX7_request_68 : decode cX7_request 68 = .ok (.iload 5, 2) := by decide +kernel
theorem dX7_request_70 : decode cX7_request 70 = .ok (.invokevirtual 73, 3) := by decide +kernel
theorem dX7_request_73 : decode cX7_request 73 = .ok (.istore 6, 2) := by decide +kernel
theorem dX7_request_75 : decode cX7_request 75 = .ok (.aload_n 0, 1) := by decide +kernel
theorem dX7_request_76 : decode cX7_request 76 = .ok (.getfield 39, 3) := by decide +kernel
theorem dX7_request_79 : decode cX7_request 79 = .ok (.getfield 61, 3) := by decide +kernel
theorem dX7_request_82 : decode cX7_request 82 = .ok (.iload_n 1, 1) := by decide +kernel
theorem dX7_request_83 : decode cX7_request 83 = .ok (.iload 6, 2) := by decide +kernel
theorem dX7_request_85 : decode cX7_request 85 = .ok (.invokevirtual 77, 3) := by decide +kernel
theorem dX7_request_88 : decode cX7_request 88 = .ok (.iload 6, 2) := by decide +kernel
theorem dX7_request_90 : decode cX7_request 90 = .ok (.ireturn, 1) := by decide +kernel
theorem dX7_hold_0 : decode cX7_hold 0 = .ok (.aload_n 0, 1) := by decide +kernel
theorem dX7_hold_1 : decode cX7_hold 1 = .ok (.getfield 12, 3) := by decide +kernel
theorem dX7_hold_4 : decode cX7_hold 4 = .ok (.iload_n 1, 1) := by decide +kernel
theorem dX7_hold_5 : decode cX7_hold 5 = .ok (.invokevirtual 54, 3) := by decide +kernel
theorem dX7_hold_8 : decode cX7_hold 8 = .ok (.ifCond .ne 5, 3) := by decide +kernel
theorem dX7_hold_11 : decode cX7_hold 11 = .ok (.iconst 0, 1) := by decide +kernel
theorem dX7_hold_12 : decode cX7_hold 12 = .ok (.ireturn, 1) := by decide +kernel
theorem dX7_hold_13 : decode cX7_hold 13 = .ok (.aload_n 0, 1) := by decide +kernel
theorem dX7_hold_14 : decode cX7_hold 14 = .ok (.getfield 39, 3) := by decide +kernel
theorem dX7_hold_17 : decode cX7_hold 17 = .ok (.getfield 80, 3) := by decide +kernel
theorem dX7_hold_20 : decode cX7_hold 20 = .ok (.iload_n 1, 1) := by decide +kernel
theorem dX7_hold_21 : decode cX7_hold 21 = .ok (.iload_n 2, 1) := by decide +kernel
theorem dX7_hold_22 : decode cX7_hold 22 = .ok (.bastore, 1) := by decide +kernel
theorem dX7_hold_23 : decode cX7_hold 23 = .ok (.iconst 1, 1) := by decide +kernel
theorem dX7_hold_24 : decode cX7_hold 24 = .ok (.ireturn, 1) := by decide +kernel
theorem dX7_run_0 : decode cX7_run 0 = .ok (.iload_n 1, 1) := by decide +kernel
theorem dX7_run_1 : decode cX7_run 1 = .ok (.ifCond .lt 9, 3) := by decide +kernel
theorem dX7_run_4 : decode cX7_run 4 = .ok (.iload_n 1, 1) := by decide +kernel
theorem dX7_run_5 : decode cX7_run 5 = .ok (.bipush 60, 2) := by decide +kernel
theorem dX7_run_7 : decode cX7_run 7 = .ok (.if_icmp .le 5, 3) := by decide +kernel
theorem dX7_run_10 : decode cX7_run 10 = .ok (.iconst (-1), 1) := by decide +kernel
theorem dX7_run_11 : decode cX7_run 11 = .ok (.ireturn, 1) := by decide +kernel
theorem dX7_run_12 : decode cX7_run 12 = .ok (.aload_n 0, 1) := by decide +kernel
theorem dX7_run_13 : decode cX7_run 13 = .ok (.getfield 39, 3) := by decide +kernel
theorem dX7_run_16 : decode cX7_run 16 = .ok (.getfield 84, 3) := by decide +kernel
theorem dX7_run_19 : decode cX7_run 19 = .ok (.getfield 88, 3) := by decide +kernel
theorem dX7_run_22 : decode cX7_run 22 = .ok (.istore_n 2, 1) := by decide +kernel
theorem dX7_run_23 : decode cX7_run 23 = .ok (.iconst 0, 1) := by decide +kernel
theorem dX7_run_24 : decode cX7_run 24 = .ok (.istore_n 3, 1) := by decide +kernel
theorem dX7_run_25 : decode cX7_run 25 = .ok (.iload_n 3, 1) := by decide +kernel
theorem dX7_run_26 : decode cX7_run 26 = .ok (.iload_n 1, 1) := by decide +kernel
theorem dX7_run_27 : decode cX7_run 27 = .ok (.if_icmp .ge 13, 3) := by decide +kernel
theorem dX7_run_30 : decode cX7_run 30 = .ok (.aload_n 0, 1) := by decide +kernel
theorem dX7_run_31 : decode cX7_run 31 = .ok (.invokevirtual 93, 3) := by decide +kernel
theorem dX7_run_34 : decode cX7_run 34 = .ok (.iinc 3 1, 3) := by decide +kernel
theorem dX7_run_37 : decode cX7_run 37 = .ok (.goto (-12), 3) := by decide +kernel
theorem dX7_run_40 : decode cX7_run 40 = .ok (.aload_n 0, 1) := by decide +kernel
theorem dX7_run_41 : decode cX7_run 41 = .ok (.getfield 39, 3) := by decide +kernel
theorem dX7_run_44 : decode cX7_run 44 = .ok (.getfield 84, 3) := by decide +kernel
theorem dX7_run_47 : decode cX7_run 47 = .ok (.getfield 88, 3) := by decide +kernel
theorem dX7_run_50 : decode cX7_run 50 = .ok (.iload_n 2, 1) := by decide +kernel
theorem dX7_run_51 : decode cX7_run 51 = .ok (.isub, 1) := by decide +kernel
theorem dX7_run_52 : decode cX7_run 52 = .ok (.ireturn, 1) := by decide +kernel
theorem dX7_ticks_0 : decode cX7_ticks 0 = .ok (.aload_n 0, 1) := by decide +kernel
theorem dX7_ticks_1 : decode cX7_ticks 1 = .ok (.getfield 96, 3) := by decide +kernel
theorem dX7_ticks_4 : decode cX7_ticks 4 = .ok (.ireturn, 1) := by decide +kernel
theorem dX7_replies_0 : decode cX7_replies 0 = .ok (.aload_n 0, 1) := by decide +kernel
theorem dX7_replies_1 : decode cX7_replies 1 = .ok (.getfield 39, 3) := by decide +kernel
theorem dX7_replies_4 : decode cX7_replies 4 = .ok (.getfield 84, 3) := by decide +kernel
theorem dX7_replies_7 : decode cX7_replies 7 = .ok (.getfield 88, 3) := by decide +kernel
theorem dX7_replies_10 : decode cX7_replies 10 = .ok (.ireturn, 1) := by decide +kernel
theorem dX7_reply_0 : decode cX7_reply 0 = .ok (.aload_n 0, 1) := by decide +kernel
theorem dX7_reply_1 : decode cX7_reply 1 = .ok (.getfield 39, 3) := by decide +kernel
theorem dX7_reply_4 : decode cX7_reply 4 = .ok (.getfield 84, 3) := by decide +kernel
theorem dX7_reply_7 : decode cX7_reply 7 = .ok (.astore_n 3, 1) := by decide +kernel
theorem dX7_reply_8 : decode cX7_reply 8 = .ok (.iload_n 1, 1) := by decide +kernel
theorem dX7_reply_9 : decode cX7_reply 9 = .ok (.ifCond .lt 11, 3) := by decide +kernel
theorem dX7_reply_12 : decode cX7_reply 12 = .ok (.iload_n 1, 1) := by decide +kernel
theorem dX7_reply_13 : decode cX7_reply 13 = .ok (.aload_n 3, 1) := by decide +kernel
theorem dX7_reply_14 : decode cX7_reply 14 = .ok (.getfield 88, 3) := by decide +kernel
theorem dX7_reply_17 : decode cX7_reply 17 = .ok (.if_icmp .lt 5, 3) := by decide +kernel
theorem dX7_reply_20 : decode cX7_reply 20 = .ok (.iconst (-1), 1) := by decide +kernel
theorem dX7_reply_21 : decode cX7_reply 21 = .ok (.ireturn, 1) := by decide +kernel
theorem dX7_reply_22 : decode cX7_reply 22 = .ok (.iload_n 2, 1) := by decide +kernel
theorem dX7_reply_23 : decode cX7_reply 23 = .ok (.tableswitch 54 0 2 #[25, 32, 47], 25) := by decide +kernel
theorem dX7_reply_48 : decode cX7_reply 48 = .ok (.aload_n 3, 1) := by decide +kernel
theorem dX7_reply_49 : decode cX7_reply 49 = .ok (.getfield 99, 3) := by decide +kernel
theorem dX7_reply_52 : decode cX7_reply 52 = .ok (.iload_n 1, 1) := by decide +kernel
theorem dX7_reply_53 : decode cX7_reply 53 = .ok (.iaload, 1) := by decide +kernel
theorem dX7_reply_54 : decode cX7_reply 54 = .ok (.ireturn, 1) := by decide +kernel
theorem dX7_reply_55 : decode cX7_reply 55 = .ok (.aload_n 0, 1) := by decide +kernel
theorem dX7_reply_56 : decode cX7_reply 56 = .ok (.getfield 30, 3) := by decide +kernel
theorem dX7_reply_59 : decode cX7_reply 59 = .ok (.getfield 103, 3) := by decide +kernel
theorem dX7_reply_62 : decode cX7_reply 62 = .ok (.aload_n 3, 1) := by decide +kernel
theorem dX7_reply_63 : decode cX7_reply 63 = .ok (.getfield 99, 3) := by decide +kernel
theorem dX7_reply_66 : decode cX7_reply 66 = .ok (.iload_n 1, 1) := by decide +kernel
theorem dX7_reply_67 : decode cX7_reply 67 = .ok (.iaload, 1) := by decide +kernel
theorem dX7_reply_68 : decode cX7_reply 68 = .ok (.iaload, 1) := by decide +kernel
theorem dX7_reply_69 : decode cX7_reply 69 = .ok (.ireturn, 1) := by decide +kernel
theorem dX7_reply_70 : decode cX7_reply 70 = .ok (.aload_n 3, 1) := by decide +kernel
theorem dX7_reply_71 : decode cX7_reply 71 = .ok (.getfield 106, 3) := by decide +kernel
theorem dX7_reply_74 : decode cX7_reply 74 = .ok (.iload_n 1, 1) := by decide +kernel
theorem dX7_reply_75 : decode cX7_reply 75 = .ok (.iaload, 1) := by decide +kernel
theorem dX7_reply_76 : decode cX7_reply 76 = .ok (.ireturn, 1) := by decide +kernel
theorem dX7_reply_77 : decode cX7_reply 77 = .ok (.iconst (-1), 1) := by decide +kernel
theorem dX7_reply_78 : decode cX7_reply 78 = .ok (.ireturn, 1) := by decide +kernel
theorem dX7_memory_0 : decode cX7_memory 0 = .ok (.aload_n 0, 1) := by decide +kernel
theorem dX7_memory_1 : decode cX7_memory 1 = .ok (.getfield 12, 3) := by decide +kernel
theorem dX7_memory_4 : decode cX7_memory 4 = .ok (.iload_n 1, 1) := by decide +kernel
theorem dX7_memory_5 : decode cX7_memory 5 = .ok (.invokevirtual 54, 3) := by decide +kernel
theorem dX7_memory_8 : decode cX7_memory 8 = .ok (.ifCond .eq 10, 3) := by decide +kernel
theorem dX7_memory_11 : decode cX7_memory 11 = .ok (.iload_n 2, 1) := by decide +kernel
theorem dX7_memory_12 : decode cX7_memory 12 = .ok (.invokestatic 58, 3) := by decide +kernel
theorem dX7_memory_15 : decode cX7_memory 15 = .ok (.ifCond .ne 5, 3) := by decide +kernel
theorem dX7_memory_18 : decode cX7_memory 18 = .ok (.iconst 0, 1) := by decide +kernel
theorem dX7_memory_19 : decode cX7_memory 19 = .ok (.ireturn, 1) := by decide +kernel
theorem dX7_memory_20 : decode cX7_memory 20 = .ok (.aload_n 0, 1) := by decide +kernel
theorem dX7_memory_21 : decode cX7_memory 21 = .ok (.getfield 39, 3) := by decide +kernel
theorem dX7_memory_24 : decode cX7_memory 24 = .ok (.getfield 108, 3) := by decide +kernel
theorem dX7_memory_27 : decode cX7_memory 27 = .ok (.iload_n 1, 1) := by decide +kernel
theorem dX7_memory_28 : decode cX7_memory 28 = .ok (.bipush 8, 2) := by decide +kernel
theorem dX7_memory_30 : decode cX7_memory 30 = .ok (.imul, 1) := by decide +kernel
theorem dX7_memory_31 : decode cX7_memory 31 = .ok (.iload_n 2, 1) := by decide +kernel
theorem dX7_memory_32 : decode cX7_memory 32 = .ok (.iadd, 1) := by decide +kernel
theorem dX7_memory_33 : decode cX7_memory 33 = .ok (.iaload, 1) := by decide +kernel
theorem dX7_memory_34 : decode cX7_memory 34 = .ok (.ireturn, 1) := by decide +kernel
theorem dX7_waiting_0 : decode cX7_waiting 0 = .ok (.aload_n 0, 1) := by decide +kernel
theorem dX7_waiting_1 : decode cX7_waiting 1 = .ok (.getfield 12, 3) := by decide +kernel
theorem dX7_waiting_4 : decode cX7_waiting 4 = .ok (.iload_n 1, 1) := by decide +kernel
theorem dX7_waiting_5 : decode cX7_waiting 5 = .ok (.invokevirtual 54, 3) := by decide +kernel
theorem dX7_waiting_8 : decode cX7_waiting 8 = .ok (.ifCond .ne 5, 3) := by decide +kernel
theorem dX7_waiting_11 : decode cX7_waiting 11 = .ok (.iconst (-1), 1) := by decide +kernel
theorem dX7_waiting_12 : decode cX7_waiting 12 = .ok (.ireturn, 1) := by decide +kernel
theorem dX7_waiting_13 : decode cX7_waiting 13 = .ok (.aload_n 0, 1) := by decide +kernel
theorem dX7_waiting_14 : decode cX7_waiting 14 = .ok (.getfield 39, 3) := by decide +kernel
theorem dX7_waiting_17 : decode cX7_waiting 17 = .ok (.getfield 61, 3) := by decide +kernel
theorem dX7_waiting_20 : decode cX7_waiting 20 = .ok (.getfield 111, 3) := by decide +kernel
theorem dX7_waiting_23 : decode cX7_waiting 23 = .ok (.iload_n 1, 1) := by decide +kernel
theorem dX7_waiting_24 : decode cX7_waiting 24 = .ok (.iaload, 1) := by decide +kernel
theorem dX7_waiting_25 : decode cX7_waiting 25 = .ok (.bipush 8, 2) := by decide +kernel
theorem dX7_waiting_27 : decode cX7_waiting 27 = .ok (.aload_n 0, 1) := by decide +kernel
theorem dX7_waiting_28 : decode cX7_waiting 28 = .ok (.getfield 39, 3) := by decide +kernel
theorem dX7_waiting_31 : decode cX7_waiting 31 = .ok (.getfield 113, 3) := by decide +kernel
theorem dX7_waiting_34 : decode cX7_waiting 34 = .ok (.getfield 111, 3) := by decide +kernel
theorem dX7_waiting_37 : decode cX7_waiting 37 = .ok (.iload_n 1, 1) := by decide +kernel
theorem dX7_waiting_38 : decode cX7_waiting 38 = .ok (.iaload, 1) := by decide +kernel
theorem dX7_waiting_39 : decode cX7_waiting 39 = .ok (.imul, 1) := by decide +kernel
theorem dX7_waiting_40 : decode cX7_waiting 40 = .ok (.iadd, 1) := by decide +kernel
theorem dX7_waiting_41 : decode cX7_waiting 41 = .ok (.ireturn, 1) := by decide +kernel
theorem dX7_lane_0 : decode cX7_lane 0 = .ok (.aload_n 0, 1) := by decide +kernel
theorem dX7_lane_1 : decode cX7_lane 1 = .ok (.iload_n 1, 1) := by decide +kernel
theorem dX7_lane_2 : decode cX7_lane 2 = .ok (.iload_n 2, 1) := by decide +kernel
theorem dX7_lane_3 : decode cX7_lane 3 = .ok (.iload_n 3, 1) := by decide +kernel
theorem dX7_lane_4 : decode cX7_lane 4 = .ok (.invokevirtual 116, 3) := by decide +kernel
theorem dX7_lane_7 : decode cX7_lane 7 = .ok (.ifCond .ne 5, 3) := by decide +kernel
theorem dX7_lane_10 : decode cX7_lane 10 = .ok (.iconst (-1), 1) := by decide +kernel
theorem dX7_lane_11 : decode cX7_lane 11 = .ok (.ireturn, 1) := by decide +kernel
theorem dX7_lane_12 : decode cX7_lane 12 = .ok (.aload_n 0, 1) := by decide +kernel
theorem dX7_lane_13 : decode cX7_lane 13 = .ok (.getfield 12, 3) := by decide +kernel
theorem dX7_lane_16 : decode cX7_lane 16 = .ok (.iload_n 1, 1) := by decide +kernel
theorem dX7_lane_17 : decode cX7_lane 17 = .ok (.iload_n 2, 1) := by decide +kernel
theorem dX7_lane_18 : decode cX7_lane 18 = .ok (.iload_n 3, 1) := by decide +kernel
theorem dX7_lane_19 : decode cX7_lane 19 = .ok (.invokevirtual 120, 3) := by decide +kernel
theorem dX7_lane_22 : decode cX7_lane 22 = .ok (.istore 4, 2) := by decide +kernel
theorem dX7_lane_24 : decode cX7_lane 24 = .ok (.aload_n 0, 1) := by decide +kernel
theorem dX7_lane_25 : decode cX7_lane 25 = .ok (.getfield 46, 3) := by decide +kernel
theorem dX7_lane_28 : decode cX7_lane 28 = .ok (.getfield 124, 3) := by decide +kernel
theorem dX7_lane_31 : decode cX7_lane 31 = .ok (.iload 4, 2) := by decide +kernel
theorem dX7_lane_33 : decode cX7_lane 33 = .ok (.iaload, 1) := by decide +kernel
theorem dX7_lane_34 : decode cX7_lane 34 = .ok (.istore 5, 2) := by decide +kernel
theorem dX7_lane_36 : decode cX7_lane 36 = .ok (.iload 5, 2) := by decide +kernel
theorem dX7_lane_38 : decode cX7_lane 38 = .ok (.ifCond .ne 7, 3) := by decide +kernel
theorem dX7_lane_41 : decode cX7_lane 41 = .ok (.iconst 0, 1) := by decide +kernel
theorem dX7_lane_42 : decode cX7_lane 42 = .ok (.goto 13, 3) := by decide +kernel
theorem dX7_lane_45 : decode cX7_lane 45 = .ok (.aload_n 0, 1) := by decide +kernel
theorem dX7_lane_46 : decode cX7_lane 46 = .ok (.getfield 46, 3) := by decide +kernel
theorem dX7_lane_49 : decode cX7_lane 49 = .ok (.getfield 127, 3) := by decide +kernel
theorem dX7_lane_52 : decode cX7_lane 52 = .ok (.iload 4, 2) := by decide +kernel
theorem dX7_lane_54 : decode cX7_lane 54 = .ok (.iaload, 1) := by decide +kernel
theorem dX7_lane_55 : decode cX7_lane 55 = .ok (.istore 6, 2) := by decide +kernel
theorem dX7_lane_57 : decode cX7_lane 57 = .ok (.aload_n 0, 1) := by decide +kernel
theorem dX7_lane_58 : decode cX7_lane 58 = .ok (.getfield 23, 3) := by decide +kernel
theorem dX7_lane_61 : decode cX7_lane 61 = .ok (.getfield 130, 3) := by decide +kernel
theorem dX7_lane_64 : decode cX7_lane 64 = .ok (.iload 4, 2) := by decide +kernel
theorem dX7_lane_66 : decode cX7_lane 66 = .ok (.iaload, 1) := by decide +kernel
theorem dX7_lane_67 : decode cX7_lane 67 = .ok (.bipush 8, 2) := by decide +kernel
theorem dX7_lane_69 : decode cX7_lane 69 = .ok (.iload 5, 2) := by decide +kernel
theorem dX7_lane_71 : decode cX7_lane 71 = .ok (.imul, 1) := by decide +kernel
theorem dX7_lane_72 : decode cX7_lane 72 = .ok (.iadd, 1) := by decide +kernel
theorem dX7_lane_73 : decode cX7_lane 73 = .ok (.bipush 64, 2) := by decide +kernel
theorem dX7_lane_75 : decode cX7_lane 75 = .ok (.iload 6, 2) := by decide +kernel
theorem dX7_lane_77 : decode cX7_lane 77 = .ok (.imul, 1) := by decide +kernel
theorem dX7_lane_78 : decode cX7_lane 78 = .ok (.iadd, 1) := by decide +kernel
theorem dX7_lane_79 : decode cX7_lane 79 = .ok (.ireturn, 1) := by decide +kernel
theorem dX7_output_0 : decode cX7_output 0 = .ok (.aload_n 0, 1) := by decide +kernel
theorem dX7_output_1 : decode cX7_output 1 = .ok (.iload_n 1, 1) := by decide +kernel
theorem dX7_output_2 : decode cX7_output 2 = .ok (.iload_n 2, 1) := by decide +kernel
theorem dX7_output_3 : decode cX7_output 3 = .ok (.iload_n 3, 1) := by decide +kernel
theorem dX7_output_4 : decode cX7_output 4 = .ok (.invokevirtual 116, 3) := by decide +kernel
theorem dX7_output_7 : decode cX7_output 7 = .ok (.ifCond .ne 5, 3) := by decide +kernel
theorem dX7_output_10 : decode cX7_output 10 = .ok (.iconst (-1), 1) := by decide +kernel
theorem dX7_output_11 : decode cX7_output 11 = .ok (.ireturn, 1) := by decide +kernel
theorem dX7_output_12 : decode cX7_output 12 = .ok (.aload_n 0, 1) := by decide +kernel
theorem dX7_output_13 : decode cX7_output 13 = .ok (.getfield 12, 3) := by decide +kernel
theorem dX7_output_16 : decode cX7_output 16 = .ok (.iload_n 1, 1) := by decide +kernel
theorem dX7_output_17 : decode cX7_output 17 = .ok (.iload_n 2, 1) := by decide +kernel
theorem dX7_output_18 : decode cX7_output 18 = .ok (.iload_n 3, 1) := by decide +kernel
theorem dX7_output_19 : decode cX7_output 19 = .ok (.invokevirtual 120, 3) := by decide +kernel
theorem dX7_output_22 : decode cX7_output 22 = .ok (.istore 4, 2) := by decide +kernel
theorem dX7_output_24 : decode cX7_output 24 = .ok (.aload_n 0, 1) := by decide +kernel
theorem dX7_output_25 : decode cX7_output 25 = .ok (.getfield 23, 3) := by decide +kernel
theorem dX7_output_28 : decode cX7_output 28 = .ok (.getfield 131, 3) := by decide +kernel
theorem dX7_output_31 : decode cX7_output 31 = .ok (.iload 4, 2) := by decide +kernel
theorem dX7_output_33 : decode cX7_output 33 = .ok (.iaload, 1) := by decide +kernel
theorem dX7_output_34 : decode cX7_output 34 = .ok (.aload_n 0, 1) := by decide +kernel
theorem dX7_output_35 : decode cX7_output 35 = .ok (.getfield 46, 3) := by decide +kernel
theorem dX7_output_38 : decode cX7_output 38 = .ok (.getfield 134, 3) := by decide +kernel
theorem dX7_output_41 : decode cX7_output 41 = .ok (.iload 4, 2) := by decide +kernel
theorem dX7_output_43 : decode cX7_output 43 = .ok (.baload, 1) := by decide +kernel
theorem dX7_output_44 : decode cX7_output 44 = .ok (.ifCond .eq 8, 3) := by decide +kernel
theorem dX7_output_47 : decode cX7_output 47 = .ok (.bipush 8, 2) := by decide +kernel
theorem dX7_output_49 : decode cX7_output 49 = .ok (.goto 4, 3) := by decide +kernel
theorem dX7_output_52 : decode cX7_output 52 = .ok (.iconst 0, 1) := by decide +kernel
theorem dX7_output_53 : decode cX7_output 53 = .ok (.iadd, 1) := by decide +kernel
theorem dX7_output_54 : decode cX7_output 54 = .ok (.ireturn, 1) := by decide +kernel
theorem dX7_arrival_0 : decode cX7_arrival 0 = .ok (.aload_n 0, 1) := by decide +kernel
theorem dX7_arrival_1 : decode cX7_arrival 1 = .ok (.getfield 12, 3) := by decide +kernel
theorem dX7_arrival_4 : decode cX7_arrival 4 = .ok (.iload_n 1, 1) := by decide +kernel
theorem dX7_arrival_5 : decode cX7_arrival 5 = .ok (.invokevirtual 54, 3) := by decide +kernel
theorem dX7_arrival_8 : decode cX7_arrival 8 = .ok (.ifCond .eq 14, 3) := by decide +kernel
theorem dX7_arrival_11 : decode cX7_arrival 11 = .ok (.aload_n 0, 1) := by decide +kernel
theorem dX7_arrival_12 : decode cX7_arrival 12 = .ok (.getfield 12, 3) := by decide +kernel
theorem dX7_arrival_15 : decode cX7_arrival 15 = .ok (.iload_n 2, 1) := by decide +kernel
theorem dX7_arrival_16 : decode cX7_arrival 16 = .ok (.invokevirtual 137, 3) := by decide +kernel
theorem dX7_arrival_19 : decode cX7_arrival 19 = .ok (.ifCond .ne 5, 3) := by decide +kernel
theorem dX7_arrival_22 : decode cX7_arrival 22 = .ok (.iconst (-1), 1) := by decide +kernel
theorem dX7_arrival_23 : decode cX7_arrival 23 = .ok (.ireturn, 1) := by decide +kernel
theorem dX7_arrival_24 : decode cX7_arrival 24 = .ok (.aload_n 0, 1) := by decide +kernel
theorem dX7_arrival_25 : decode cX7_arrival 25 = .ok (.getfield 12, 3) := by decide +kernel
theorem dX7_arrival_28 : decode cX7_arrival 28 = .ok (.iload_n 1, 1) := by decide +kernel
theorem dX7_arrival_29 : decode cX7_arrival 29 = .ok (.iconst 5, 1) := by decide +kernel
theorem dX7_arrival_30 : decode cX7_arrival 30 = .ok (.iload_n 2, 1) := by decide +kernel
theorem dX7_arrival_31 : decode cX7_arrival 31 = .ok (.invokevirtual 120, 3) := by decide +kernel
theorem dX7_arrival_34 : decode cX7_arrival 34 = .ok (.istore_n 3, 1) := by decide +kernel
theorem dX7_arrival_35 : decode cX7_arrival 35 = .ok (.aload_n 0, 1) := by decide +kernel
theorem dX7_arrival_36 : decode cX7_arrival 36 = .ok (.getfield 23, 3) := by decide +kernel
theorem dX7_arrival_39 : decode cX7_arrival 39 = .ok (.getfield 130, 3) := by decide +kernel
theorem dX7_arrival_42 : decode cX7_arrival 42 = .ok (.iload_n 3, 1) := by decide +kernel
theorem dX7_arrival_43 : decode cX7_arrival 43 = .ok (.iaload, 1) := by decide +kernel
theorem dX7_arrival_44 : decode cX7_arrival 44 = .ok (.bipush 8, 2) := by decide +kernel
theorem dX7_arrival_46 : decode cX7_arrival 46 = .ok (.aload_n 0, 1) := by decide +kernel
theorem dX7_arrival_47 : decode cX7_arrival 47 = .ok (.getfield 23, 3) := by decide +kernel
theorem dX7_arrival_50 : decode cX7_arrival 50 = .ok (.getfield 131, 3) := by decide +kernel
theorem dX7_arrival_53 : decode cX7_arrival 53 = .ok (.iload_n 3, 1) := by decide +kernel
theorem dX7_arrival_54 : decode cX7_arrival 54 = .ok (.iaload, 1) := by decide +kernel
theorem dX7_arrival_55 : decode cX7_arrival 55 = .ok (.imul, 1) := by decide +kernel
theorem dX7_arrival_56 : decode cX7_arrival 56 = .ok (.iadd, 1) := by decide +kernel
theorem dX7_arrival_57 : decode cX7_arrival 57 = .ok (.ireturn, 1) := by decide +kernel
theorem dX7_sent_0 : decode cX7_sent 0 = .ok (.aload_n 0, 1) := by decide +kernel
theorem dX7_sent_1 : decode cX7_sent 1 = .ok (.getfield 23, 3) := by decide +kernel
theorem dX7_sent_4 : decode cX7_sent 4 = .ok (.getfield 140, 3) := by decide +kernel
theorem dX7_sent_7 : decode cX7_sent 7 = .ok (.ireturn, 1) := by decide +kernel
theorem dX7_isWord_0 : decode cX7_isWord 0 = .ok (.iload_n 0, 1) := by decide +kernel
theorem dX7_isWord_1 : decode cX7_isWord 1 = .ok (.ifCond .lt 13, 3) := by decide +kernel
theorem dX7_isWord_4 : decode cX7_isWord 4 = .ok (.iload_n 0, 1) := by decide +kernel
theorem dX7_isWord_5 : decode cX7_isWord 5 = .ok (.bipush 8, 2) := by decide +kernel
theorem dX7_isWord_7 : decode cX7_isWord 7 = .ok (.if_icmp .ge 7, 3) := by decide +kernel
theorem dX7_isWord_10 : decode cX7_isWord 10 = .ok (.iconst 1, 1) := by decide +kernel
theorem dX7_isWord_11 : decode cX7_isWord 11 = .ok (.goto 4, 3) := by decide +kernel
theorem dX7_isWord_14 : decode cX7_isWord 14 = .ok (.iconst 0, 1) := by decide +kernel
theorem dX7_isWord_15 : decode cX7_isWord 15 = .ok (.ireturn, 1) := by decide +kernel
theorem dX7_isRouterPlace_0 : decode cX7_isRouterPlace 0 = .ok (.aload_n 0, 1) := by decide +kernel
theorem dX7_isRouterPlace_1 : decode cX7_isRouterPlace 1 = .ok (.getfield 12, 3) := by decide +kernel
theorem dX7_isRouterPlace_4 : decode cX7_isRouterPlace 4 = .ok (.iload_n 1, 1) := by decide +kernel
theorem dX7_isRouterPlace_5 : decode cX7_isRouterPlace 5 = .ok (.invokevirtual 54, 3) := by decide +kernel
theorem dX7_isRouterPlace_8 : decode cX7_isRouterPlace 8 = .ok (.ifCond .eq 27, 3) := by decide +kernel
theorem dX7_isRouterPlace_11 : decode cX7_isRouterPlace 11 = .ok (.iload_n 2, 1) := by decide +kernel
theorem dX7_isRouterPlace_12 : decode cX7_isRouterPlace 12 = .ok (.ifCond .lt 23, 3) := by decide +kernel
theorem dX7_isRouterPlace_15 : decode cX7_isRouterPlace 15 = .ok (.iload_n 2, 1) := by decide +kernel
theorem dX7_isRouterPlace_16 : decode cX7_isRouterPlace 16 = .ok (.iconst 5, 1) := by decide +kernel
theorem dX7_isRouterPlace_17 : decode cX7_isRouterPlace 17 = .ok (.if_icmp .ge 18, 3) := by decide +kernel
theorem dX7_isRouterPlace_20 : decode cX7_isRouterPlace 20 = .ok (.aload_n 0, 1) := by decide +kernel
theorem dX7_isRouterPlace_21 : decode cX7_isRouterPlace 21 = .ok (.getfield 12, 3) := by decide +kernel
theorem dX7_isRouterPlace_24 : decode cX7_isRouterPlace 24 = .ok (.iload_n 3, 1) := by decide +kernel
theorem dX7_isRouterPlace_25 : decode cX7_isRouterPlace 25 = .ok (.invokevirtual 137, 3) := by decide +kernel
theorem dX7_isRouterPlace_28 : decode cX7_isRouterPlace 28 = .ok (.ifCond .eq 7, 3) := by decide +kernel
theorem dX7_isRouterPlace_31 : decode cX7_isRouterPlace 31 = .ok (.iconst 1, 1) := by decide +kernel
theorem dX7_isRouterPlace_32 : decode cX7_isRouterPlace 32 = .ok (.goto 4, 3) := by decide +kernel
theorem dX7_isRouterPlace_35 : decode cX7_isRouterPlace 35 = .ok (.iconst 0, 1) := by decide +kernel
theorem dX7_isRouterPlace_36 : decode cX7_isRouterPlace 36 = .ok (.ireturn, 1) := by decide +kernel
theorem dX7_tick_0 : decode cX7_tick 0 = .ok (.aload_n 0, 1) := by decide +kernel
theorem dX7_tick_1 : decode cX7_tick 1 = .ok (.dup, 1) := by decide +kernel
theorem dX7_tick_2 : decode cX7_tick 2 = .ok (.getfield 96, 3) := by decide +kernel
theorem dX7_tick_5 : decode cX7_tick 5 = .ok (.iconst 1, 1) := by decide +kernel
theorem dX7_tick_6 : decode cX7_tick 6 = .ok (.iadd, 1) := by decide +kernel
theorem dX7_tick_7 : decode cX7_tick 7 = .ok (.putfield 96, 3) := by decide +kernel
theorem dX7_tick_10 : decode cX7_tick 10 = .ok (.aload_n 0, 1) := by decide +kernel
theorem dX7_tick_11 : decode cX7_tick 11 = .ok (.getfield 23, 3) := by decide +kernel
theorem dX7_tick_14 : decode cX7_tick 14 = .ok (.invokevirtual 143, 3) := by decide +kernel
theorem dX7_tick_17 : decode cX7_tick 17 = .ok (.aload_n 0, 1) := by decide +kernel
theorem dX7_tick_18 : decode cX7_tick 18 = .ok (.getfield 39, 3) := by decide +kernel
theorem dX7_tick_21 : decode cX7_tick 21 = .ok (.aload_n 0, 1) := by decide +kernel
theorem dX7_tick_22 : decode cX7_tick 22 = .ok (.getfield 96, 3) := by decide +kernel
theorem dX7_tick_25 : decode cX7_tick 25 = .ok (.invokevirtual 146, 3) := by decide +kernel
theorem dX7_tick_28 : decode cX7_tick 28 = .ok (.aload_n 0, 1) := by decide +kernel
theorem dX7_tick_29 : decode cX7_tick 29 = .ok (.getfield 39, 3) := by decide +kernel
theorem dX7_tick_32 : decode cX7_tick 32 = .ok (.invokevirtual 150, 3) := by decide +kernel
theorem dX7_tick_35 : decode cX7_tick 35 = .ok (.aload_n 0, 1) := by decide +kernel
theorem dX7_tick_36 : decode cX7_tick 36 = .ok (.getfield 46, 3) := by decide +kernel
theorem dX7_tick_39 : decode cX7_tick 39 = .ok (.invokevirtual 153, 3) := by decide +kernel
theorem dX7_tick_42 : decode cX7_tick 42 = .ok (.aload_n 0, 1) := by decide +kernel
theorem dX7_tick_43 : decode cX7_tick 43 = .ok (.getfield 46, 3) := by decide +kernel
theorem dX7_tick_46 : decode cX7_tick 46 = .ok (.invokevirtual 156, 3) := by decide +kernel
theorem dX7_tick_49 : decode cX7_tick 49 = .ok (.aload_n 0, 1) := by decide +kernel
theorem dX7_tick_50 : decode cX7_tick 50 = .ok (.getfield 46, 3) := by decide +kernel
theorem dX7_tick_53 : decode cX7_tick 53 = .ok (.invokevirtual 159, 3) := by decide +kernel
theorem dX7_tick_56 : decode cX7_tick 56 = .ok (.return_, 1) := by decide +kernel
theorem dL_cell_0 : decode cL_cell 0 = .ok (.iload_n 1, 1) := by decide +kernel
theorem dL_cell_1 : decode cL_cell 1 = .ok (.aload_n 0, 1) := by decide +kernel
theorem dL_cell_2 : decode cL_cell 2 = .ok (.arraylength, 1) := by decide +kernel
theorem dL_cell_3 : decode cL_cell 3 = .ok (.if_icmp .ge 9, 3) := by decide +kernel
theorem dL_cell_6 : decode cL_cell 6 = .ok (.aload_n 0, 1) := by decide +kernel
theorem dL_cell_7 : decode cL_cell 7 = .ok (.iload_n 1, 1) := by decide +kernel
theorem dL_cell_8 : decode cL_cell 8 = .ok (.iaload, 1) := by decide +kernel
theorem dL_cell_9 : decode cL_cell 9 = .ok (.goto 4, 3) := by decide +kernel
theorem dL_cell_12 : decode cL_cell 12 = .ok (.iconst 0, 1) := by decide +kernel
theorem dL_cell_13 : decode cL_cell 13 = .ok (.ireturn, 1) := by decide +kernel
theorem dL_law_0 : decode cL_law 0 = .ok (.new 7, 3) := by decide +kernel
theorem dL_law_3 : decode cL_law 3 = .ok (.dup, 1) := by decide +kernel
theorem dL_law_4 : decode cL_law 4 = .ok (.aload_n 0, 1) := by decide +kernel
theorem dL_law_5 : decode cL_law 5 = .ok (.iconst 0, 1) := by decide +kernel
theorem dL_law_6 : decode cL_law 6 = .ok (.invokestatic 9, 3) := by decide +kernel
theorem dL_law_9 : decode cL_law 9 = .ok (.aload_n 0, 1) := by decide +kernel
theorem dL_law_10 : decode cL_law 10 = .ok (.iconst 1, 1) := by decide +kernel
theorem dL_law_11 : decode cL_law 11 = .ok (.invokestatic 9, 3) := by decide +kernel
theorem dL_law_14 : decode cL_law 14 = .ok (.aload_n 0, 1) := by decide +kernel
theorem dL_law_15 : decode cL_law 15 = .ok (.iconst 2, 1) := by decide +kernel
theorem dL_law_16 : decode cL_law 16 = .ok (.invokestatic 9, 3) := by decide +kernel
theorem dL_law_19 : decode cL_law 19 = .ok (.aload_n 0, 1) := by decide +kernel
theorem dL_law_20 : decode cL_law 20 = .ok (.iconst 3, 1) := by decide +kernel
theorem dL_law_21 : decode cL_law 21 = .ok (.invokestatic 9, 3) := by decide +kernel
theorem dL_law_24 : decode cL_law 24 = .ok (.invokespecial 15, 3) := by decide +kernel
theorem dL_law_27 : decode cL_law 27 = .ok (.astore_n 1, 1) := by decide +kernel
theorem dL_law_28 : decode cL_law 28 = .ok (.new 18, 3) := by decide +kernel
theorem dL_law_31 : decode cL_law 31 = .ok (.dup, 1) := by decide +kernel
theorem dL_law_32 : decode cL_law 32 = .ok (.aload_n 0, 1) := by decide +kernel
theorem dL_law_33 : decode cL_law 33 = .ok (.iconst 0, 1) := by decide +kernel
theorem dL_law_34 : decode cL_law 34 = .ok (.invokestatic 9, 3) := by decide +kernel
theorem dL_law_37 : decode cL_law 37 = .ok (.aload_n 0, 1) := by decide +kernel
theorem dL_law_38 : decode cL_law 38 = .ok (.iconst 1, 1) := by decide +kernel
theorem dL_law_39 : decode cL_law 39 = .ok (.invokestatic 9, 3) := by decide +kernel
theorem dL_law_42 : decode cL_law 42 = .ok (.aload_n 0, 1) := by decide +kernel
theorem dL_law_43 : decode cL_law 43 = .ok (.iconst 2, 1) := by decide +kernel
theorem dL_law_44 : decode cL_law 44 = .ok (.invokestatic 9, 3) := by decide +kernel
theorem dL_law_47 : decode cL_law 47 = .ok (.aload_n 0, 1) := by decide +kernel
theorem dL_law_48 : decode cL_law 48 = .ok (.iconst 3, 1) := by decide +kernel
theorem dL_law_49 : decode cL_law 49 = .ok (.invokestatic 9, 3) := by decide +kernel
theorem dL_law_52 : decode cL_law 52 = .ok (.invokespecial 20, 3) := by decide +kernel
theorem dL_law_55 : decode cL_law 55 = .ok (.astore_n 2, 1) := by decide +kernel
theorem dL_law_56 : decode cL_law 56 = .ok (.iconst 4, 1) := by decide +kernel
theorem dL_law_57 : decode cL_law 57 = .ok (.istore_n 3, 1) := by decide +kernel
theorem dL_law_58 : decode cL_law 58 = .ok (.iload_n 3, 1) := by decide +kernel
theorem dL_law_59 : decode cL_law 59 = .ok (.aload_n 0, 1) := by decide +kernel
theorem dL_law_60 : decode cL_law 60 = .ok (.arraylength, 1) := by decide +kernel
theorem dL_law_61 : decode cL_law 61 = .ok (.bipush 6, 2) := by decide +kernel
theorem dL_law_63 : decode cL_law 63 = .ok (.isub, 1) := by decide +kernel
theorem dL_law_64 : decode cL_law 64 = .ok (.if_icmp .gt 493, 3) := by decide +kernel
theorem dL_law_67 : decode cL_law 67 = .ok (.aload_n 0, 1) := by decide +kernel
theorem dL_law_68 : decode cL_law 68 = .ok (.iload_n 3, 1) := by decide +kernel
theorem dL_law_69 : decode cL_law 69 = .ok (.iaload, 1) := by decide +kernel
theorem dL_law_70 : decode cL_law 70 = .ok (.bipush 15, 2) := by decide +kernel
theorem dL_law_72 : decode cL_law 72 = .ok (.iand, 1) := by decide +kernel
theorem dL_law_73 : decode cL_law 73 = .ok (.tableswitch 478 0 12 #[67, 80, 159, 208, 231, 244, 257, 290, 323, 346, 389, 432, 465], 67) := by decide +kernel
theorem dL_law_140 : decode cL_law 140 = .ok (.aload_n 1, 1) := by decide +kernel
theorem dL_law_141 : decode cL_law 141 = .ok (.invokevirtual 21, 3) := by decide +kernel
theorem dL_law_144 : decode cL_law 144 = .ok (.aload_n 2, 1) := by decide +kernel
theorem dL_law_145 : decode cL_law 145 = .ok (.invokevirtual 25, 3) := by decide +kernel
theorem dL_law_148 : decode cL_law 148 = .ok (.if_icmp .eq 403, 3) := by decide +kernel
theorem dL_law_151 : decode cL_law 151 = .ok (.iconst 0, 1) := by decide +kernel
theorem dL_law_152 : decode cL_law 152 = .ok (.ireturn, 1) := by decide +kernel
theorem dL_law_153 : decode cL_law 153 = .ok (.aload_n 1, 1) := by decide +kernel
theorem dL_law_154 : decode cL_law 154 = .ok (.aload_n 0, 1) := by decide +kernel
theorem dL_law_155 : decode cL_law 155 = .ok (.iload_n 3, 1) := by decide +kernel
theorem dL_law_156 : decode cL_law 156 = .ok (.iconst 1, 1) := by decide +kernel
theorem dL_law_157 : decode cL_law 157 = .ok (.iadd, 1) := by decide +kernel
theorem dL_law_158 : decode cL_law 158 = .ok (.iaload, 1) := by decide +kernel
theorem dL_law_159 : decode cL_law 159 = .ok (.aload_n 0, 1) := by decide +kernel
theorem dL_law_160 : decode cL_law 160 = .ok (.iload_n 3, 1) := by decide +kernel
theorem dL_law_161 : decode cL_law 161 = .ok (.iconst 2, 1) := by decide +kernel
theorem dL_law_162 : decode cL_law 162 = .ok (.iadd, 1) := by decide +kernel
theorem dL_law_163 : decode cL_law 163 = .ok (.iaload, 1) := by decide +kernel
theorem dL_law_164 : decode cL_law 164 = .ok (.aload_n 0, 1) := by decide +kernel
theorem dL_law_165 : decode cL_law 165 = .ok (.iload_n 3, 1) := by decide +kernel
theorem dL_law_166 : decode cL_law 166 = .ok (.iconst 3, 1) := by decide +kernel
theorem dL_law_167 : decode cL_law 167 = .ok (.iadd, 1) := by decide +kernel
theorem dL_law_168 : decode cL_law 168 = .ok (.iaload, 1) := by decide +kernel
theorem dL_law_169 : decode cL_law 169 = .ok (.ifCond .eq 7, 3) := by decide +kernel
theorem dL_law_172 : decode cL_law 172 = .ok (.iconst 1, 1) := by decide +kernel
theorem dL_law_173 : decode cL_law 173 = .ok (.goto 4, 3) := by decide +kernel
theorem dL_law_176 : decode cL_law 176 = .ok (.iconst 0, 1) := by decide +kernel
theorem dL_law_177 : decode cL_law 177 = .ok (.aload_n 0, 1) := by decide +kernel
theorem dL_law_178 : decode cL_law 178 = .ok (.iload_n 3, 1) := by decide +kernel
theorem dL_law_179 : decode cL_law 179 = .ok (.iconst 4, 1) := by decide +kernel
theorem dL_law_180 : decode cL_law 180 = .ok (.iadd, 1) := by decide +kernel
theorem dL_law_181 : decode cL_law 181 = .ok (.iaload, 1) := by decide +kernel
theorem dL_law_182 : decode cL_law 182 = .ok (.aload_n 0, 1) := by decide +kernel
theorem dL_law_183 : decode cL_law 183 = .ok (.iload_n 3, 1) := by decide +kernel
theorem dL_law_184 : decode cL_law 184 = .ok (.iconst 5, 1) := by decide +kernel
theorem dL_law_185 : decode cL_law 185 = .ok (.iadd, 1) := by decide +kernel
theorem dL_law_186 : decode cL_law 186 = .ok (.iaload, 1) := by decide +kernel
theorem dL_law_187 : decode cL_law 187 = .ok (.invokevirtual 26, 3) := by decide +kernel
theorem dL_law_190 : decode cL_law 190 = .ok (.aload_n 2, 1) := by decide +kernel
theorem dL_law_191 : decode cL_law 191 = .ok (.aload_n 0, 1) := by decide +kernel
theorem dL_law_192 : decode cL_law 192 = .ok (.iload_n 3, 1) := by decide +kernel
theorem dL_law_193 : decode cL_law 193 = .ok (.iconst 1, 1) := by decide +kernel
theorem dL_law_194 : decode cL_law 194 = .ok (.iadd, 1) := by decide +kernel
theorem dL_law_195 : decode cL_law 195 = .ok (.iaload, 1) := by decide +kernel
theorem dL_law_196 : decode cL_law 196 = .ok (.aload_n 0, 1) := by decide +kernel
theorem dL_law_197 : decode cL_law 197 = .ok (.iload_n 3, 1) := by decide +kernel
theorem dL_law_198 : decode cL_law 198 = .ok (.iconst 2, 1) := by decide +kernel
theorem dL_law_199 : decode cL_law 199 = .ok (.iadd, 1) := by decide +kernel
theorem dL_law_200 : decode cL_law 200 = .ok (.iaload, 1) := by decide +kernel
theorem dL_law_201 : decode cL_law 201 = .ok (.aload_n 0, 1) := by decide +kernel
theorem dL_law_202 : decode cL_law 202 = .ok (.iload_n 3, 1) := by decide +kernel
theorem dL_law_203 : decode cL_law 203 = .ok (.iconst 3, 1) := by decide +kernel
theorem dL_law_204 : decode cL_law 204 = .ok (.iadd, 1) := by decide +kernel
theorem dL_law_205 : decode cL_law 205 = .ok (.iaload, 1) := by decide +kernel
theorem dL_law_206 : decode cL_law 206 = .ok (.ifCond .eq 7, 3) := by decide +kernel
theorem dL_law_209 : decode cL_law 209 = .ok (.iconst 1, 1) := by decide +kernel
theorem dL_law_210 : decode cL_law 210 = .ok (.goto 4, 3) := by decide +kernel
theorem dL_law_213 : decode cL_law 213 = .ok (.iconst 0, 1) := by decide +kernel
theorem dL_law_214 : decode cL_law 214 = .ok (.aload_n 0, 1) := by decide +kernel
theorem dL_law_215 : decode cL_law 215 = .ok (.iload_n 3, 1) := by decide +kernel
theorem dL_law_216 : decode cL_law 216 = .ok (.iconst 4, 1) := by decide +kernel
theorem dL_law_217 : decode cL_law 217 = .ok (.iadd, 1) := by decide +kernel
theorem dL_law_218 : decode cL_law 218 = .ok (.iaload, 1) := by decide +kernel
theorem dL_law_219 : decode cL_law 219 = .ok (.aload_n 0, 1) := by decide +kernel
theorem dL_law_220 : decode cL_law 220 = .ok (.iload_n 3, 1) := by decide +kernel
theorem dL_law_221 : decode cL_law 221 = .ok (.iconst 5, 1) := by decide +kernel
theorem dL_law_222 : decode cL_law 222 = .ok (.iadd, 1) := by decide +kernel
theorem dL_law_223 : decode cL_law 223 = .ok (.iaload, 1) := by decide +kernel
theorem dL_law_224 : decode cL_law 224 = .ok (.invokevirtual 30, 3) := by decide +kernel
theorem dL_law_227 : decode cL_law 227 = .ok (.if_icmp .eq 324, 3) := by decide +kernel
theorem dL_law_230 : decode cL_law 230 = .ok (.iconst 0, 1) := by decide +kernel
theorem dL_law_231 : decode cL_law 231 = .ok (.ireturn, 1) := by decide +kernel
theorem dL_law_232 : decode cL_law 232 = .ok (.aload_n 1, 1) := by decide +kernel
theorem dL_law_233 : decode cL_law 233 = .ok (.aload_n 0, 1) := by decide +kernel
theorem dL_law_234 : decode cL_law 234 = .ok (.iload_n 3, 1) := by decide +kernel
theorem dL_law_235 : decode cL_law 235 = .ok (.iconst 1, 1) := by decide +kernel
theorem dL_law_236 : decode cL_law 236 = .ok (.iadd, 1) := by decide +kernel
theorem dL_law_237 : decode cL_law 237 = .ok (.iaload, 1) := by decide +kernel
theorem dL_law_238 : decode cL_law 238 = .ok (.aload_n 0, 1) := by decide +kernel
theorem dL_law_239 : decode cL_law 239 = .ok (.iload_n 3, 1) := by decide +kernel
theorem dL_law_240 : decode cL_law 240 = .ok (.iconst 2, 1) := by decide +kernel
theorem dL_law_241 : decode cL_law 241 = .ok (.iadd, 1) := by decide +kernel
theorem dL_law_242 : decode cL_law 242 = .ok (.iaload, 1) := by decide +kernel
theorem dL_law_243 : decode cL_law 243 = .ok (.ifCond .eq 7, 3) := by decide +kernel
theorem dL_law_246 : decode cL_law 246 = .ok (.iconst 1, 1) := by decide +kernel
theorem dL_law_247 : decode cL_law 247 = .ok (.goto 4, 3) := by decide +kernel
theorem dL_law_250 : decode cL_law 250 = .ok (.iconst 0, 1) := by decide +kernel
theorem dL_law_251 : decode cL_law 251 = .ok (.invokevirtual 31, 3) := by decide +kernel
theorem dL_law_254 : decode cL_law 254 = .ok (.aload_n 2, 1) := by decide +kernel
theorem dL_law_255 : decode cL_law 255 = .ok (.aload_n 0, 1) := by decide +kernel
theorem dL_law_256 : decode cL_law 256 = .ok (.iload_n 3, 1) := by decide +kernel
theorem dL_law_257 : decode cL_law 257 = .ok (.iconst 1, 1) := by decide +kernel
theorem dL_law_258 : decode cL_law 258 = .ok (.iadd, 1) := by decide +kernel
theorem dL_law_259 : decode cL_law 259 = .ok (.iaload, 1) := by decide +kernel
theorem dL_law_260 : decode cL_law 260 = .ok (.aload_n 0, 1) := by decide +kernel
theorem dL_law_261 : decode cL_law 261 = .ok (.iload_n 3, 1) := by decide +kernel
theorem dL_law_262 : decode cL_law 262 = .ok (.iconst 2, 1) := by decide +kernel
theorem dL_law_263 : decode cL_law 263 = .ok (.iadd, 1) := by decide +kernel
theorem dL_law_264 : decode cL_law 264 = .ok (.iaload, 1) := by decide +kernel
theorem dL_law_265 : decode cL_law 265 = .ok (.ifCond .eq 7, 3) := by decide +kernel
theorem dL_law_268 : decode cL_law 268 = .ok (.iconst 1, 1) := by decide +kernel
theorem dL_law_269 : decode cL_law 269 = .ok (.goto 4, 3) := by decide +kernel
theorem dL_law_272 : decode cL_law 272 = .ok (.iconst 0, 1) := by decide +kernel
theorem dL_law_273 : decode cL_law 273 = .ok (.invokevirtual 35, 3) := by decide +kernel
theorem dL_law_276 : decode cL_law 276 = .ok (.if_icmp .eq 275, 3) := by decide +kernel
theorem dL_law_279 : decode cL_law 279 = .ok (.iconst 0, 1) := by decide +kernel
theorem dL_law_280 : decode cL_law 280 = .ok (.ireturn, 1) := by decide +kernel
theorem dL_law_281 : decode cL_law 281 = .ok (.aload_n 1, 1) := by decide +kernel
theorem dL_law_282 : decode cL_law 282 = .ok (.aload_n 0, 1) := by decide +kernel
theorem dL_law_283 : decode cL_law 283 = .ok (.iload_n 3, 1) := by decide +kernel
theorem dL_law_284 : decode cL_law 284 = .ok (.iconst 1, 1) := by decide +kernel
theorem dL_law_285 : decode cL_law 285 = .ok (.iadd, 1) := by decide +kernel
theorem dL_law_286 : decode cL_law 286 = .ok (.iaload, 1) := by decide +kernel
theorem dL_law_287 : decode cL_law 287 = .ok (.invokevirtual 36, 3) := by decide +kernel
theorem dL_law_290 : decode cL_law 290 = .ok (.aload_n 2, 1) := by decide +kernel
theorem dL_law_291 : decode cL_law 291 = .ok (.aload_n 0, 1) := by decide +kernel
theorem dL_law_292 : decode cL_law 292 = .ok (.iload_n 3, 1) := by decide +kernel
theorem dL_law_293 : decode cL_law 293 = .ok (.iconst 1, 1) := by decide +kernel
theorem dL_law_294 : decode cL_law 294 = .ok (.iadd, 1) := by decide +kernel
theorem dL_law_295 : decode cL_law 295 = .ok (.iaload, 1) := by decide +kernel
theorem dL_law_296 : decode cL_law 296 = .ok (.invokevirtual 40, 3) := by decide +kernel
theorem dL_law_299 : decode cL_law 299 = .ok (.if_icmp .eq 252, 3) := by decide +kernel
theorem dL_law_302 : decode cL_law 302 = .ok (.iconst 0, 1) := by decide +kernel
theorem dL_law_303 : decode cL_law 303 = .ok (.ireturn, 1) := by decide +kernel
theorem dL_law_304 : decode cL_law 304 = .ok (.aload_n 1, 1) := by decide +kernel
theorem dL_law_305 : decode cL_law 305 = .ok (.invokevirtual 41, 3) := by decide +kernel
theorem dL_law_308 : decode cL_law 308 = .ok (.aload_n 2, 1) := by decide +kernel
theorem dL_law_309 : decode cL_law 309 = .ok (.invokevirtual 44, 3) := by decide +kernel
theorem dL_law_312 : decode cL_law 312 = .ok (.if_icmp .eq 239, 3) := by decide +kernel
theorem dL_law_315 : decode cL_law 315 = .ok (.iconst 0, 1) := by decide +kernel
theorem dL_law_316 : decode cL_law 316 = .ok (.ireturn, 1) := by decide +kernel
theorem dL_law_317 : decode cL_law 317 = .ok (.aload_n 1, 1) := by decide +kernel
theorem dL_law_318 : decode cL_law 318 = .ok (.invokevirtual 45, 3) := by decide +kernel
theorem dL_law_321 : decode cL_law 321 = .ok (.aload_n 2, 1) := by decide +kernel
theorem dL_law_322 : decode cL_law 322 = .ok (.invokevirtual 48, 3) := by decide +kernel
theorem dL_law_325 : decode cL_law 325 = .ok (.if_icmp .eq 226, 3) := by decide +kernel
theorem dL_law_328 : decode cL_law 328 = .ok (.iconst 0, 1) := by decide +kernel
theorem dL_law_329 : decode cL_law 329 = .ok (.ireturn, 1) := by decide +kernel
theorem dL_law_330 : decode cL_law 330 = .ok (.aload_n 1, 1) := by decide +kernel
theorem dL_law_331 : decode cL_law 331 = .ok (.aload_n 0, 1) := by decide +kernel
theorem dL_law_332 : decode cL_law 332 = .ok (.iload_n 3, 1) := by decide +kernel
theorem dL_law_333 : decode cL_law 333 = .ok (.iconst 1, 1) := by decide +kernel
theorem dL_law_334 : decode cL_law 334 = .ok (.iadd, 1) := by decide +kernel
theorem dL_law_335 : decode cL_law 335 = .ok (.iaload, 1) := by decide +kernel
theorem dL_law_336 : decode cL_law 336 = .ok (.aload_n 0, 1) := by decide +kernel
theorem dL_law_337 : decode cL_law 337 = .ok (.iload_n 3, 1) := by decide +kernel
theorem dL_law_338 : decode cL_law 338 = .ok (.iconst 2, 1) := by decide +kernel
theorem dL_law_339 : decode cL_law 339 = .ok (.iadd, 1) := by decide +kernel
theorem dL_law_340 : decode cL_law 340 = .ok (.iaload, 1) := by decide +kernel
theorem dL_law_341 : decode cL_law 341 = .ok (.invokevirtual 49, 3) := by decide +kernel
theorem dL_law_344 : decode cL_law 344 = .ok (.aload_n 2, 1) := by decide +kernel
theorem dL_law_345 : decode cL_law 345 = .ok (.aload_n 0, 1) := by decide +kernel
theorem dL_law_346 : decode cL_law 346 = .ok (.iload_n 3, 1) := by decide +kernel
theorem dL_law_347 : decode cL_law 347 = .ok (.iconst 1, 1) := by decide +kernel
theorem dL_law_348 : decode cL_law 348 = .ok (.iadd, 1) := by decide +kernel
theorem dL_law_349 : decode cL_law 349 = .ok (.iaload, 1) := by decide +kernel
theorem dL_law_350 : decode cL_law 350 = .ok (.aload_n 0, 1) := by decide +kernel
theorem dL_law_351 : decode cL_law 351 = .ok (.iload_n 3, 1) := by decide +kernel
theorem dL_law_352 : decode cL_law 352 = .ok (.iconst 2, 1) := by decide +kernel
theorem dL_law_353 : decode cL_law 353 = .ok (.iadd, 1) := by decide +kernel
theorem dL_law_354 : decode cL_law 354 = .ok (.iaload, 1) := by decide +kernel
theorem dL_law_355 : decode cL_law 355 = .ok (.invokevirtual 53, 3) := by decide +kernel
theorem dL_law_358 : decode cL_law 358 = .ok (.if_icmp .eq 193, 3) := by decide +kernel
theorem dL_law_361 : decode cL_law 361 = .ok (.iconst 0, 1) := by decide +kernel
theorem dL_law_362 : decode cL_law 362 = .ok (.ireturn, 1) := by decide +kernel
theorem dL_law_363 : decode cL_law 363 = .ok (.aload_n 1, 1) := by decide +kernel
theorem dL_law_364 : decode cL_law 364 = .ok (.aload_n 0, 1) := by decide +kernel
theorem dL_law_365 : decode cL_law 365 = .ok (.iload_n 3, 1) := by decide +kernel
theorem dL_law_366 : decode cL_law 366 = .ok (.iconst 1, 1) := by decide +kernel
theorem dL_law_367 : decode cL_law 367 = .ok (.iadd, 1) := by decide +kernel
theorem dL_law_368 : decode cL_law 368 = .ok (.iaload, 1) := by decide +kernel
theorem dL_law_369 : decode cL_law 369 = .ok (.aload_n 0, 1) := by decide +kernel
theorem dL_law_370 : decode cL_law 370 = .ok (.iload_n 3, 1) := by decide +kernel
theorem dL_law_371 : decode cL_law 371 = .ok (.iconst 2, 1) := by decide +kernel
theorem dL_law_372 : decode cL_law 372 = .ok (.iadd, 1) := by decide +kernel
theorem dL_law_373 : decode cL_law 373 = .ok (.iaload, 1) := by decide +kernel
theorem dL_law_374 : decode cL_law 374 = .ok (.invokevirtual 54, 3) := by decide +kernel
theorem dL_law_377 : decode cL_law 377 = .ok (.aload_n 2, 1) := by decide +kernel
theorem dL_law_378 : decode cL_law 378 = .ok (.aload_n 0, 1) := by decide +kernel
theorem dL_law_379 : decode cL_law 379 = .ok (.iload_n 3, 1) := by decide +kernel
theorem dL_law_380 : decode cL_law 380 = .ok (.iconst 1, 1) := by decide +kernel
theorem dL_law_381 : decode cL_law 381 = .ok (.iadd, 1) := by decide +kernel
theorem dL_law_382 : decode cL_law 382 = .ok (.iaload, 1) := by decide +kernel
theorem dL_law_383 : decode cL_law 383 = .ok (.aload_n 0, 1) := by decide +kernel
theorem dL_law_384 : decode cL_law 384 = .ok (.iload_n 3, 1) := by decide +kernel
theorem dL_law_385 : decode cL_law 385 = .ok (.iconst 2, 1) := by decide +kernel
theorem dL_law_386 : decode cL_law 386 = .ok (.iadd, 1) := by decide +kernel
theorem dL_law_387 : decode cL_law 387 = .ok (.iaload, 1) := by decide +kernel
theorem dL_law_388 : decode cL_law 388 = .ok (.invokevirtual 57, 3) := by decide +kernel
theorem dL_law_391 : decode cL_law 391 = .ok (.if_icmp .eq 160, 3) := by decide +kernel
theorem dL_law_394 : decode cL_law 394 = .ok (.iconst 0, 1) := by decide +kernel
theorem dL_law_395 : decode cL_law 395 = .ok (.ireturn, 1) := by decide +kernel
theorem dL_law_396 : decode cL_law 396 = .ok (.aload_n 1, 1) := by decide +kernel
theorem dL_law_397 : decode cL_law 397 = .ok (.aload_n 0, 1) := by decide +kernel
theorem dL_law_398 : decode cL_law 398 = .ok (.iload_n 3, 1) := by decide +kernel
theorem dL_law_399 : decode cL_law 399 = .ok (.iconst 1, 1) := by decide +kernel
theorem dL_law_400 : decode cL_law 400 = .ok (.iadd, 1) := by decide +kernel
theorem dL_law_401 : decode cL_law 401 = .ok (.iaload, 1) := by decide +kernel
theorem dL_law_402 : decode cL_law 402 = .ok (.invokevirtual 58, 3) := by decide +kernel
theorem dL_law_405 : decode cL_law 405 = .ok (.aload_n 2, 1) := by decide +kernel
theorem dL_law_406 : decode cL_law 406 = .ok (.aload_n 0, 1) := by decide +kernel
theorem dL_law_407 : decode cL_law 407 = .ok (.iload_n 3, 1) := by decide +kernel
theorem dL_law_408 : decode cL_law 408 = .ok (.iconst 1, 1) := by decide +kernel
theorem dL_law_409 : decode cL_law 409 = .ok (.iadd, 1) := by decide +kernel
theorem dL_law_410 : decode cL_law 410 = .ok (.iaload, 1) := by decide +kernel
theorem dL_law_411 : decode cL_law 411 = .ok (.invokevirtual 61, 3) := by decide +kernel
theorem dL_law_414 : decode cL_law 414 = .ok (.if_icmp .eq 137, 3) := by decide +kernel
theorem dL_law_417 : decode cL_law 417 = .ok (.iconst 0, 1) := by decide +kernel
theorem dL_law_418 : decode cL_law 418 = .ok (.ireturn, 1) := by decide +kernel
theorem dL_law_419 : decode cL_law 419 = .ok (.aload_n 1, 1) := by decide +kernel
theorem dL_law_420 : decode cL_law 420 = .ok (.aload_n 0, 1) := by decide +kernel
theorem dL_law_421 : decode cL_law 421 = .ok (.iload_n 3, 1) := by decide +kernel
theorem dL_law_422 : decode cL_law 422 = .ok (.iconst 1, 1) := by decide +kernel
theorem dL_law_423 : decode cL_law 423 = .ok (.iadd, 1) := by decide +kernel
theorem dL_law_424 : decode cL_law 424 = .ok (.iaload, 1) := by decide +kernel
theorem dL_law_425 : decode cL_law 425 = .ok (.aload_n 0, 1) := by decide +kernel
theorem dL_law_426 : decode cL_law 426 = .ok (.iload_n 3, 1) := by decide +kernel
theorem dL_law_427 : decode cL_law 427 = .ok (.iconst 2, 1) := by decide +kernel
theorem dL_law_428 : decode cL_law 428 = .ok (.iadd, 1) := by decide +kernel
theorem dL_law_429 : decode cL_law 429 = .ok (.iaload, 1) := by decide +kernel
theorem dL_law_430 : decode cL_law 430 = .ok (.aload_n 0, 1) := by decide +kernel
theorem dL_law_431 : decode cL_law 431 = .ok (.iload_n 3, 1) := by decide +kernel
theorem dL_law_432 : decode cL_law 432 = .ok (.iconst 3, 1) := by decide +kernel
theorem dL_law_433 : decode cL_law 433 = .ok (.iadd, 1) := by decide +kernel
theorem dL_law_434 : decode cL_law 434 = .ok (.iaload, 1) := by decide +kernel
theorem dL_law_435 : decode cL_law 435 = .ok (.invokevirtual 62, 3) := by decide +kernel
theorem dL_law_438 : decode cL_law 438 = .ok (.aload_n 2, 1) := by decide +kernel
theorem dL_law_439 : decode cL_law 439 = .ok (.aload_n 0, 1) := by decide +kernel
theorem dL_law_440 : decode cL_law 440 = .ok (.iload_n 3, 1) := by decide +kernel
theorem dL_law_441 : decode cL_law 441 = .ok (.iconst 1, 1) := by decide +kernel
theorem dL_law_442 : decode cL_law 442 = .ok (.iadd, 1) := by decide +kernel
theorem dL_law_443 : decode cL_law 443 = .ok (.iaload, 1) := by decide +kernel
theorem dL_law_444 : decode cL_law 444 = .ok (.aload_n 0, 1) := by decide +kernel
theorem dL_law_445 : decode cL_law 445 = .ok (.iload_n 3, 1) := by decide +kernel
theorem dL_law_446 : decode cL_law 446 = .ok (.iconst 2, 1) := by decide +kernel
theorem dL_law_447 : decode cL_law 447 = .ok (.iadd, 1) := by decide +kernel
theorem dL_law_448 : decode cL_law 448 = .ok (.iaload, 1) := by decide +kernel
theorem dL_law_449 : decode cL_law 449 = .ok (.aload_n 0, 1) := by decide +kernel
theorem dL_law_450 : decode cL_law 450 = .ok (.iload_n 3, 1) := by decide +kernel
theorem dL_law_451 : decode cL_law 451 = .ok (.iconst 3, 1) := by decide +kernel
theorem dL_law_452 : decode cL_law 452 = .ok (.iadd, 1) := by decide +kernel
theorem dL_law_453 : decode cL_law 453 = .ok (.iaload, 1) := by decide +kernel
theorem dL_law_454 : decode cL_law 454 = .ok (.invokevirtual 66, 3) := by decide +kernel
theorem dL_law_457 : decode cL_law 457 = .ok (.if_icmp .eq 94, 3) := by decide +kernel
theorem dL_law_460 : decode cL_law 460 = .ok (.iconst 0, 1) := by decide +kernel
theorem dL_law_461 : decode cL_law 461 = .ok (.ireturn, 1) := by decide +kernel
theorem dL_law_462 : decode cL_law 462 = .ok (.aload_n 1, 1) := by decide +kernel
theorem dL_law_463 : decode cL_law 463 = .ok (.aload_n 0, 1) := by decide +kernel
theorem dL_law_464 : decode cL_law 464 = .ok (.iload_n 3, 1) := by decide +kernel
theorem dL_law_465 : decode cL_law 465 = .ok (.iconst 1, 1) := by decide +kernel
theorem dL_law_466 : decode cL_law 466 = .ok (.iadd, 1) := by decide +kernel
theorem dL_law_467 : decode cL_law 467 = .ok (.iaload, 1) := by decide +kernel
theorem dL_law_468 : decode cL_law 468 = .ok (.aload_n 0, 1) := by decide +kernel
theorem dL_law_469 : decode cL_law 469 = .ok (.iload_n 3, 1) := by decide +kernel
theorem dL_law_470 : decode cL_law 470 = .ok (.iconst 2, 1) := by decide +kernel
theorem dL_law_471 : decode cL_law 471 = .ok (.iadd, 1) := by decide +kernel
theorem dL_law_472 : decode cL_law 472 = .ok (.iaload, 1) := by decide +kernel
theorem dL_law_473 : decode cL_law 473 = .ok (.aload_n 0, 1) := by decide +kernel
theorem dL_law_474 : decode cL_law 474 = .ok (.iload_n 3, 1) := by decide +kernel
theorem dL_law_475 : decode cL_law 475 = .ok (.iconst 3, 1) := by decide +kernel
theorem dL_law_476 : decode cL_law 476 = .ok (.iadd, 1) := by decide +kernel
theorem dL_law_477 : decode cL_law 477 = .ok (.iaload, 1) := by decide +kernel
theorem dL_law_478 : decode cL_law 478 = .ok (.invokevirtual 67, 3) := by decide +kernel
theorem dL_law_481 : decode cL_law 481 = .ok (.aload_n 2, 1) := by decide +kernel
theorem dL_law_482 : decode cL_law 482 = .ok (.aload_n 0, 1) := by decide +kernel
theorem dL_law_483 : decode cL_law 483 = .ok (.iload_n 3, 1) := by decide +kernel
theorem dL_law_484 : decode cL_law 484 = .ok (.iconst 1, 1) := by decide +kernel
theorem dL_law_485 : decode cL_law 485 = .ok (.iadd, 1) := by decide +kernel
theorem dL_law_486 : decode cL_law 486 = .ok (.iaload, 1) := by decide +kernel
theorem dL_law_487 : decode cL_law 487 = .ok (.aload_n 0, 1) := by decide +kernel
theorem dL_law_488 : decode cL_law 488 = .ok (.iload_n 3, 1) := by decide +kernel
theorem dL_law_489 : decode cL_law 489 = .ok (.iconst 2, 1) := by decide +kernel
theorem dL_law_490 : decode cL_law 490 = .ok (.iadd, 1) := by decide +kernel
theorem dL_law_491 : decode cL_law 491 = .ok (.iaload, 1) := by decide +kernel
theorem dL_law_492 : decode cL_law 492 = .ok (.aload_n 0, 1) := by decide +kernel
theorem dL_law_493 : decode cL_law 493 = .ok (.iload_n 3, 1) := by decide +kernel
theorem dL_law_494 : decode cL_law 494 = .ok (.iconst 3, 1) := by decide +kernel
theorem dL_law_495 : decode cL_law 495 = .ok (.iadd, 1) := by decide +kernel
theorem dL_law_496 : decode cL_law 496 = .ok (.iaload, 1) := by decide +kernel
theorem dL_law_497 : decode cL_law 497 = .ok (.invokevirtual 70, 3) := by decide +kernel
theorem dL_law_500 : decode cL_law 500 = .ok (.if_icmp .eq 51, 3) := by decide +kernel
theorem dL_law_503 : decode cL_law 503 = .ok (.iconst 0, 1) := by decide +kernel
theorem dL_law_504 : decode cL_law 504 = .ok (.ireturn, 1) := by decide +kernel
theorem dL_law_505 : decode cL_law 505 = .ok (.aload_n 1, 1) := by decide +kernel
theorem dL_law_506 : decode cL_law 506 = .ok (.aload_n 0, 1) := by decide +kernel
theorem dL_law_507 : decode cL_law 507 = .ok (.iload_n 3, 1) := by decide +kernel
theorem dL_law_508 : decode cL_law 508 = .ok (.iconst 1, 1) := by decide +kernel
theorem dL_law_509 : decode cL_law 509 = .ok (.iadd, 1) := by decide +kernel
theorem dL_law_510 : decode cL_law 510 = .ok (.iaload, 1) := by decide +kernel
theorem dL_law_511 : decode cL_law 511 = .ok (.aload_n 0, 1) := by decide +kernel
theorem dL_law_512 : decode cL_law 512 = .ok (.iload_n 3, 1) := by decide +kernel
theorem dL_law_513 : decode cL_law 513 = .ok (.iconst 2, 1) := by decide +kernel
theorem dL_law_514 : decode cL_law 514 = .ok (.iadd, 1) := by decide +kernel
theorem dL_law_515 : decode cL_law 515 = .ok (.iaload, 1) := by decide +kernel
theorem dL_law_516 : decode cL_law 516 = .ok (.invokevirtual 71, 3) := by decide +kernel
theorem dL_law_519 : decode cL_law 519 = .ok (.aload_n 2, 1) := by decide +kernel
theorem dL_law_520 : decode cL_law 520 = .ok (.aload_n 0, 1) := by decide +kernel
theorem dL_law_521 : decode cL_law 521 = .ok (.iload_n 3, 1) := by decide +kernel
theorem dL_law_522 : decode cL_law 522 = .ok (.iconst 1, 1) := by decide +kernel
theorem dL_law_523 : decode cL_law 523 = .ok (.iadd, 1) := by decide +kernel
theorem dL_law_524 : decode cL_law 524 = .ok (.iaload, 1) := by decide +kernel
theorem dL_law_525 : decode cL_law 525 = .ok (.aload_n 0, 1) := by decide +kernel
theorem dL_law_526 : decode cL_law 526 = .ok (.iload_n 3, 1) := by decide +kernel
theorem dL_law_527 : decode cL_law 527 = .ok (.iconst 2, 1) := by decide +kernel
theorem dL_law_528 : decode cL_law 528 = .ok (.iadd, 1) := by decide +kernel
theorem dL_law_529 : decode cL_law 529 = .ok (.iaload, 1) := by decide +kernel
theorem dL_law_530 : decode cL_law 530 = .ok (.invokevirtual 74, 3) := by decide +kernel
theorem dL_law_533 : decode cL_law 533 = .ok (.if_icmp .eq 18, 3) := by decide +kernel
theorem dL_law_536 : decode cL_law 536 = .ok (.iconst 0, 1) := by decide +kernel
theorem dL_law_537 : decode cL_law 537 = .ok (.ireturn, 1) := by decide +kernel
theorem dL_law_538 : decode cL_law 538 = .ok (.aload_n 1, 1) := by decide +kernel
theorem dL_law_539 : decode cL_law 539 = .ok (.invokevirtual 75, 3) := by decide +kernel
theorem dL_law_542 : decode cL_law 542 = .ok (.aload_n 2, 1) := by decide +kernel
theorem dL_law_543 : decode cL_law 543 = .ok (.invokevirtual 78, 3) := by decide +kernel
theorem dL_law_546 : decode cL_law 546 = .ok (.if_icmp .eq 5, 3) := by decide +kernel
theorem dL_law_549 : decode cL_law 549 = .ok (.iconst 0, 1) := by decide +kernel
theorem dL_law_550 : decode cL_law 550 = .ok (.ireturn, 1) := by decide +kernel
theorem dL_law_551 : decode cL_law 551 = .ok (.iinc 3 6, 3) := by decide +kernel
theorem dL_law_554 : decode cL_law 554 = .ok (.goto (-496), 3) := by decide +kernel
theorem dL_law_557 : decode cL_law 557 = .ok (.iconst 1, 1) := by decide +kernel
theorem dL_law_558 : decode cL_law 558 = .ok (.ireturn, 1) := by decide +kernel
