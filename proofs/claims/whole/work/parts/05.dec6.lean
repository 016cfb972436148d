theorem dX6_init_0 : decode cX6_init 0 = .ok (.aload_n 0, 1) := by decide +kernel
theorem dX6_init_1 : decode cX6_init 1 = .ok (.invokespecial 1, 3) := by decide +kernel
theorem dX6_init_4 : decode cX6_init 4 = .ok (.aload_n 0, 1) := by decide +kernel
theorem dX6_init_5 : decode cX6_init 5 = .ok (.sipush 722, 3) := by decide +kernel
theorem dX6_init_8 : decode cX6_init 8 = .ok (.newarray .int, 2) := by decide +kernel
theorem dX6_init_10 : decode cX6_init 10 = .ok (.putfield 7, 3) := by decide +kernel
theorem dX6_init_13 : decode cX6_init 13 = .ok (.aload_n 0, 1) := by decide +kernel
theorem dX6_init_14 : decode cX6_init 14 = .ok (.sipush 2888, 3) := by decide +kernel
theorem dX6_init_17 : decode cX6_init 17 = .ok (.newarray .int, 2) := by decide +kernel
theorem dX6_init_19 : decode cX6_init 19 = .ok (.putfield 13, 3) := by decide +kernel
theorem dX6_init_22 : decode cX6_init 22 = .ok (.aload_n 0, 1) := by decide +kernel
theorem dX6_init_23 : decode cX6_init 23 = .ok (.sipush 722, 3) := by decide +kernel
theorem dX6_init_26 : decode cX6_init 26 = .ok (.newarray .int, 2) := by decide +kernel
theorem dX6_init_28 : decode cX6_init 28 = .ok (.putfield 16, 3) := by decide +kernel
theorem dX6_init_31 : decode cX6_init 31 = .ok (.aload_n 0, 1) := by decide +kernel
theorem dX6_init_32 : decode cX6_init 32 = .ok (.sipush 160, 3) := by decide +kernel
theorem dX6_init_35 : decode cX6_init 35 = .ok (.newarray .int, 2) := by decide +kernel
theorem dX6_init_37 : decode cX6_init 37 = .ok (.putfield 19, 3) := by decide +kernel
theorem dX6_init_40 : decode cX6_init 40 = .ok (.aload_n 0, 1) := by decide +kernel
theorem dX6_init_41 : decode cX6_init 41 = .ok (.bipush 30, 2) := by decide +kernel
theorem dX6_init_43 : decode cX6_init 43 = .ok (.newarray .int, 2) := by decide +kernel
theorem dX6_init_45 : decode cX6_init 45 = .ok (.putfield 22, 3) := by decide +kernel
theorem dX6_init_48 : decode cX6_init 48 = .ok (.aload_n 0, 1) := by decide +kernel
theorem dX6_init_49 : decode cX6_init 49 = .ok (.bipush 30, 2) := by decide +kernel
theorem dX6_init_51 : decode cX6_init 51 = .ok (.newarray .int, 2) := by decide +kernel
theorem dX6_init_53 : decode cX6_init 53 = .ok (.putfield 25, 3) := by decide +kernel
theorem dX6_init_56 : decode cX6_init 56 = .ok (.aload_n 0, 1) := by decide +kernel
theorem dX6_init_57 : decode cX6_init 57 = .ok (.bipush 80, 2) := by decide +kernel
theorem dX6_init_59 : decode cX6_init 59 = .ok (.newarray .int, 2) := by decide +kernel
theorem dX6_init_61 : decode cX6_init 61 = .ok (.putfield 28, 3) := by decide +kernel
theorem dX6_init_64 : decode cX6_init 64 = .ok (.aload_n 0, 1) := by decide +kernel
theorem dX6_init_65 : decode cX6_init 65 = .ok (.iconst 0, 1) := by decide +kernel
theorem dX6_init_66 : decode cX6_init 66 = .ok (.putfield 31, 3) := by decide +kernel
theorem dX6_init_69 : decode cX6_init 69 = .ok (.return_, 1) := by decide +kernel
theorem dX6_thrown_0 : decode cX6_thrown 0 = .ok (.aload_n 0, 1) := by decide +kernel
theorem dX6_thrown_1 : decode cX6_thrown 1 = .ok (.getfield 35, 3) := by decide +kernel
theorem dX6_thrown_4 : decode cX6_thrown 4 = .ok (.ireturn, 1) := by decide +kernel
theorem dX6_in_0 : decode cX6_in 0 = .ok (.lload_n 0, 1) := by decide +kernel
theorem dX6_in_1 : decode cX6_in 1 = .ok (.lload_n 2, 1) := by decide +kernel
theorem dX6_in_2 : decode cX6_in 2 = .ok (.lcmp, 1) := by decide +kernel
theorem dX6_in_3 : decode cX6_in 3 = .ok (.ifCond .lt 14, 3) := by decide +kernel
theorem dX6_in_6 : decode cX6_in 6 = .ok (.lload_n 0, 1) := by decide +kernel
theorem dX6_in_7 : decode cX6_in 7 = .ok (.lload 4, 2) := by decide +kernel
theorem dX6_in_9 : decode cX6_in 9 = .ok (.lcmp, 1) := by decide +kernel
theorem dX6_in_10 : decode cX6_in 10 = .ok (.ifCond .gt 7, 3) := by decide +kernel
theorem dX6_in_13 : decode cX6_in 13 = .ok (.iconst 1, 1) := by decide +kernel
theorem dX6_in_14 : decode cX6_in 14 = .ok (.goto 4, 3) := by decide +kernel
theorem dX6_in_17 : decode cX6_in 17 = .ok (.iconst 0, 1) := by decide +kernel
theorem dX6_in_18 : decode cX6_in 18 = .ok (.ireturn, 1) := by decide +kernel
theorem dX6_fails_0 : decode cX6_fails 0 = .ok (.aload_n 0, 1) := by decide +kernel
theorem dX6_fails_1 : decode cX6_fails 1 = .ok (.iload_n 1, 1) := by decide +kernel
theorem dX6_fails_2 : decode cX6_fails 2 = .ok (.putfield 35, 3) := by decide +kernel
theorem dX6_fails_5 : decode cX6_fails 5 = .ok (.iconst 0, 1) := by decide +kernel
theorem dX6_fails_6 : decode cX6_fails 6 = .ok (.ireturn, 1) := by decide +kernel
theorem dX6_tells_0 : decode cX6_tells 0 = .ok (.aload_n 0, 1) := by decide +kernel
theorem dX6_tells_1 : decode cX6_tells 1 = .ok (.iconst 0, 1) := by decide +kernel
theorem dX6_tells_2 : decode cX6_tells 2 = .ok (.putfield 35, 3) := by decide +kernel
theorem dX6_tells_5 : decode cX6_tells 5 = .ok (.iload_n 1, 1) := by decide +kernel
theorem dX6_tells_6 : decode cX6_tells 6 = .ok (.ireturn, 1) := by decide +kernel
theorem dX6_hold_0 : decode cX6_hold 0 = .ok (.iconst 0, 1) := by decide +kernel
theorem dX6_hold_1 : decode cX6_hold 1 = .ok (.istore_n 1, 1) := by decide +kernel
theorem dX6_hold_2 : decode cX6_hold 2 = .ok (.iload_n 1, 1) := by decide +kernel
theorem dX6_hold_3 : decode cX6_hold 3 = .ok (.sipush 722, 3) := by decide +kernel
theorem dX6_hold_6 : decode cX6_hold 6 = .ok (.if_icmp .ge 21, 3) := by decide +kernel
theorem dX6_hold_9 : decode cX6_hold 9 = .ok (.aload_n 0, 1) := by decide +kernel
theorem dX6_hold_10 : decode cX6_hold 10 = .ok (.getfield 16, 3) := by decide +kernel
theorem dX6_hold_13 : decode cX6_hold 13 = .ok (.iload_n 1, 1) := by decide +kernel
theorem dX6_hold_14 : decode cX6_hold 14 = .ok (.aload_n 0, 1) := by decide +kernel
theorem dX6_hold_15 : decode cX6_hold 15 = .ok (.getfield 7, 3) := by decide +kernel
theorem dX6_hold_18 : decode cX6_hold 18 = .ok (.iload_n 1, 1) := by decide +kernel
theorem dX6_hold_19 : decode cX6_hold 19 = .ok (.iaload, 1) := by decide +kernel
theorem dX6_hold_20 : decode cX6_hold 20 = .ok (.iastore, 1) := by decide +kernel
theorem dX6_hold_21 : decode cX6_hold 21 = .ok (.iinc 1 1, 3) := by decide +kernel
theorem dX6_hold_24 : decode cX6_hold 24 = .ok (.goto (-22), 3) := by decide +kernel
theorem dX6_hold_27 : decode cX6_hold 27 = .ok (.return_, 1) := by decide +kernel
theorem dX6_restore_0 : decode cX6_restore 0 = .ok (.iconst 0, 1) := by decide +kernel
theorem dX6_restore_1 : decode cX6_restore 1 = .ok (.istore_n 1, 1) := by decide +kernel
theorem dX6_restore_2 : decode cX6_restore 2 = .ok (.iload_n 1, 1) := by decide +kernel
theorem dX6_restore_3 : decode cX6_restore 3 = .ok (.sipush 722, 3) := by decide +kernel
theorem dX6_restore_6 : decode cX6_restore 6 = .ok (.if_icmp .ge 21, 3) := by decide +kernel
theorem dX6_restore_9 : decode cX6_restore 9 = .ok (.aload_n 0, 1) := by decide +kernel
theorem dX6_restore_10 : decode cX6_restore 10 = .ok (.getfield 7, 3) := by decide +kernel
theorem dX6_restore_13 : decode cX6_restore 13 = .ok (.iload_n 1, 1) := by decide +kernel
theorem dX6_restore_14 : decode cX6_restore 14 = .ok (.aload_n 0, 1) := by decide +kernel
theorem dX6_restore_15 : decode cX6_restore 15 = .ok (.getfield 16, 3) := by decide +kernel
theorem dX6_restore_18 : decode cX6_restore 18 = .ok (.iload_n 1, 1) := by decide +kernel
theorem dX6_restore_19 : decode cX6_restore 19 = .ok (.iaload, 1) := by decide +kernel
theorem dX6_restore_20 : decode cX6_restore 20 = .ok (.iastore, 1) := by decide +kernel
theorem dX6_restore_21 : decode cX6_restore 21 = .ok (.iinc 1 1, 3) := by decide +kernel
theorem dX6_restore_24 : decode cX6_restore 24 = .ok (.goto (-22), 3) := by decide +kernel
theorem dX6_restore_27 : decode cX6_restore 27 = .ok (.return_, 1) := by decide +kernel
theorem dX6_ends_0 : decode cX6_ends 0 = .ok (.aload_n 0, 1) := by decide +kernel
theorem dX6_ends_1 : decode cX6_ends 1 = .ok (.getfield 38, 3) := by decide +kernel
theorem dX6_ends_4 : decode cX6_ends 4 = .ok (.iconst 4, 1) := by decide +kernel
theorem dX6_ends_5 : decode cX6_ends 5 = .ok (.if_icmp .ne 44, 3) := by decide +kernel
theorem dX6_ends_8 : decode cX6_ends 8 = .ok (.iconst 0, 1) := by decide +kernel
theorem dX6_ends_9 : decode cX6_ends 9 = .ok (.istore_n 2, 1) := by decide +kernel
theorem dX6_ends_10 : decode cX6_ends 10 = .ok (.iload_n 2, 1) := by decide +kernel
theorem dX6_ends_11 : decode cX6_ends 11 = .ok (.sipush 2166, 3) := by decide +kernel
theorem dX6_ends_14 : decode cX6_ends 14 = .ok (.if_icmp .ge 25, 3) := by decide +kernel
theorem dX6_ends_17 : decode cX6_ends 17 = .ok (.aload_n 0, 1) := by decide +kernel
theorem dX6_ends_18 : decode cX6_ends 18 = .ok (.getfield 13, 3) := by decide +kernel
theorem dX6_ends_21 : decode cX6_ends 21 = .ok (.iload_n 2, 1) := by decide +kernel
theorem dX6_ends_22 : decode cX6_ends 22 = .ok (.aload_n 0, 1) := by decide +kernel
theorem dX6_ends_23 : decode cX6_ends 23 = .ok (.getfield 13, 3) := by decide +kernel
theorem dX6_ends_26 : decode cX6_ends 26 = .ok (.iload_n 2, 1) := by decide +kernel
theorem dX6_ends_27 : decode cX6_ends 27 = .ok (.sipush 722, 3) := by decide +kernel
theorem dX6_ends_30 : decode cX6_ends 30 = .ok (.iadd, 1) := by decide +kernel
theorem dX6_ends_31 : decode cX6_ends 31 = .ok (.iaload, 1) := by decide +kernel
theorem dX6_ends_32 : decode cX6_ends 32 = .ok (.iastore, 1) := by decide +kernel
theorem dX6_ends_33 : decode cX6_ends 33 = .ok (.iinc 2 1, 3) := by decide +kernel
theorem dX6_ends_36 : decode cX6_ends 36 = .ok (.goto (-26), 3) := by decide +kernel
theorem dX6_ends_39 : decode cX6_ends 39 = .ok (.aload_n 0, 1) := by decide +kernel
theorem dX6_ends_40 : decode cX6_ends 40 = .ok (.dup, 1) := by decide +kernel
theorem dX6_ends_41 : decode cX6_ends 41 = .ok (.getfield 38, 3) := by decide +kernel
theorem dX6_ends_44 : decode cX6_ends 44 = .ok (.iconst 1, 1) := by decide +kernel
theorem dX6_ends_45 : decode cX6_ends 45 = .ok (.isub, 1) := by decide +kernel
theorem dX6_ends_46 : decode cX6_ends 46 = .ok (.putfield 38, 3) := by decide +kernel
theorem dX6_ends_49 : decode cX6_ends 49 = .ok (.iconst 0, 1) := by decide +kernel
theorem dX6_ends_50 : decode cX6_ends 50 = .ok (.istore_n 2, 1) := by decide +kernel
theorem dX6_ends_51 : decode cX6_ends 51 = .ok (.iload_n 2, 1) := by decide +kernel
theorem dX6_ends_52 : decode cX6_ends 52 = .ok (.sipush 722, 3) := by decide +kernel
theorem dX6_ends_55 : decode cX6_ends 55 = .ok (.if_icmp .ge 30, 3) := by decide +kernel
theorem dX6_ends_58 : decode cX6_ends 58 = .ok (.aload_n 0, 1) := by decide +kernel
theorem dX6_ends_59 : decode cX6_ends 59 = .ok (.getfield 13, 3) := by decide +kernel
theorem dX6_ends_62 : decode cX6_ends 62 = .ok (.sipush 722, 3) := by decide +kernel
theorem dX6_ends_65 : decode cX6_ends 65 = .ok (.aload_n 0, 1) := by decide +kernel
theorem dX6_ends_66 : decode cX6_ends 66 = .ok (.getfield 38, 3) := by decide +kernel
theorem dX6_ends_69 : decode cX6_ends 69 = .ok (.imul, 1) := by decide +kernel
theorem dX6_ends_70 : decode cX6_ends 70 = .ok (.iload_n 2, 1) := by decide +kernel
theorem dX6_ends_71 : decode cX6_ends 71 = .ok (.iadd, 1) := by decide +kernel
theorem dX6_ends_72 : decode cX6_ends 72 = .ok (.aload_n 0, 1) := by decide +kernel
theorem dX6_ends_73 : decode cX6_ends 73 = .ok (.getfield 16, 3) := by decide +kernel
theorem dX6_ends_76 : decode cX6_ends 76 = .ok (.iload_n 2, 1) := by decide +kernel
theorem dX6_ends_77 : decode cX6_ends 77 = .ok (.iaload, 1) := by decide +kernel
theorem dX6_ends_78 : decode cX6_ends 78 = .ok (.iastore, 1) := by decide +kernel
theorem dX6_ends_79 : decode cX6_ends 79 = .ok (.iinc 2 1, 3) := by decide +kernel
theorem dX6_ends_82 : decode cX6_ends 82 = .ok (.goto (-31), 3) := by decide +kernel
theorem dX6_ends_85 : decode cX6_ends 85 = .ok (.aload_n 0, 1) := by decide +kernel
theorem dX6_ends_86 : decode cX6_ends 86 = .ok (.dup, 1) := by decide +kernel
theorem dX6_ends_87 : decode cX6_ends 87 = .ok (.getfield 38, 3) := by decide +kernel
theorem dX6_ends_90 : decode cX6_ends 90 = .ok (.iconst 1, 1) := by decide +kernel
theorem dX6_ends_91 : decode cX6_ends 91 = .ok (.iadd, 1) := by decide +kernel
theorem dX6_ends_92 : decode cX6_ends 92 = .ok (.putfield 38, 3) := by decide +kernel
theorem dX6_ends_95 : decode cX6_ends 95 = .ok (.aload_n 0, 1) := by decide +kernel
theorem dX6_ends_96 : decode cX6_ends 96 = .ok (.iload_n 1, 1) := by decide +kernel
theorem dX6_ends_97 : decode cX6_ends 97 = .ok (.invokevirtual 41, 3) := by decide +kernel
theorem dX6_ends_100 : decode cX6_ends 100 = .ok (.ireturn, 1) := by decide +kernel
theorem dX6_floor_0 : decode cX6_floor 0 = .ok (.lload_n 0, 1) := by decide +kernel
theorem dX6_floor_1 : decode cX6_floor 1 = .ok (.lload_n 2, 1) := by decide +kernel
theorem dX6_floor_2 : decode cX6_floor 2 = .ok (.ldiv, 1) := by decide +kernel
theorem dX6_floor_3 : decode cX6_floor 3 = .ok (.lstore 4, 2) := by decide +kernel
theorem dX6_floor_5 : decode cX6_floor 5 = .ok (.lload_n 0, 1) := by decide +kernel
theorem dX6_floor_6 : decode cX6_floor 6 = .ok (.lload_n 2, 1) := by decide +kernel
theorem dX6_floor_7 : decode cX6_floor 7 = .ok (.lrem, 1) := by decide +kernel
theorem dX6_floor_8 : decode cX6_floor 8 = .ok (.lconst 0, 1) := by decide +kernel
theorem dX6_floor_9 : decode cX6_floor 9 = .ok (.lcmp, 1) := by decide +kernel
theorem dX6_floor_10 : decode cX6_floor 10 = .ok (.ifCond .eq 16, 3) := by decide +kernel
theorem dX6_floor_13 : decode cX6_floor 13 = .ok (.lload_n 0, 1) := by decide +kernel
theorem dX6_floor_14 : decode cX6_floor 14 = .ok (.lconst 0, 1) := by decide +kernel
theorem dX6_floor_15 : decode cX6_floor 15 = .ok (.lcmp, 1) := by decide +kernel
theorem dX6_floor_16 : decode cX6_floor 16 = .ok (.ifCond .ge 10, 3) := by decide +kernel
theorem dX6_floor_19 : decode cX6_floor 19 = .ok (.lload 4, 2) := by decide +kernel
theorem dX6_floor_21 : decode cX6_floor 21 = .ok (.lconst 1, 1) := by decide +kernel
theorem dX6_floor_22 : decode cX6_floor 22 = .ok (.lsub, 1) := by decide +kernel
theorem dX6_floor_23 : decode cX6_floor 23 = .ok (.goto 5, 3) := by decide +kernel
theorem dX6_floor_26 : decode cX6_floor 26 = .ok (.lload 4, 2) := by decide +kernel
theorem dX6_floor_28 : decode cX6_floor 28 = .ok (.lreturn, 1) := by decide +kernel
theorem dX6_round_0 : decode cX6_round 0 = .ok (.ldc2_w 45, 3) := by decide +kernel
theorem dX6_round_3 : decode cX6_round 3 = .ok (.lload_n 0, 1) := by decide +kernel
theorem dX6_round_4 : decode cX6_round 4 = .ok (.lmul, 1) := by decide +kernel
theorem dX6_round_5 : decode cX6_round 5 = .ok (.lload_n 2, 1) := by decide +kernel
theorem dX6_round_6 : decode cX6_round 6 = .ok (.ladd, 1) := by decide +kernel
theorem dX6_round_7 : decode cX6_round 7 = .ok (.ldc2_w 45, 3) := by decide +kernel
theorem dX6_round_10 : decode cX6_round 10 = .ok (.lload_n 2, 1) := by decide +kernel
theorem dX6_round_11 : decode cX6_round 11 = .ok (.lmul, 1) := by decide +kernel
theorem dX6_round_12 : decode cX6_round 12 = .ok (.invokestatic 47, 3) := by decide +kernel
theorem dX6_round_15 : decode cX6_round 15 = .ok (.l2i, 1) := by decide +kernel
theorem dX6_round_16 : decode cX6_round 16 = .ok (.ireturn, 1) := by decide +kernel
theorem dX6_size_0 : decode cX6_size 0 = .ok (.iload_n 0, 1) := by decide +kernel
theorem dX6_size_1 : decode cX6_size 1 = .ok (.ifCond .ge 8, 3) := by decide +kernel
theorem dX6_size_4 : decode cX6_size 4 = .ok (.iload_n 0, 1) := by decide +kernel
theorem dX6_size_5 : decode cX6_size 5 = .ok (.ineg, 1) := by decide +kernel
theorem dX6_size_6 : decode cX6_size 6 = .ok (.goto 4, 3) := by decide +kernel
theorem dX6_size_9 : decode cX6_size 9 = .ok (.iload_n 0, 1) := by decide +kernel
theorem dX6_size_10 : decode cX6_size 10 = .ok (.ireturn, 1) := by decide +kernel
theorem dX6_isGear_0 : decode cX6_isGear 0 = .ok (.iload_n 1, 1) := by decide +kernel
theorem dX6_isGear_1 : decode cX6_isGear 1 = .ok (.i2l, 1) := by decide +kernel
theorem dX6_isGear_2 : decode cX6_isGear 2 = .ok (.lconst 0, 1) := by decide +kernel
theorem dX6_isGear_3 : decode cX6_isGear 3 = .ok (.aload_n 0, 1) := by decide +kernel
theorem dX6_isGear_4 : decode cX6_isGear 4 = .ok (.getfield 7, 3) := by decide +kernel
theorem dX6_isGear_7 : decode cX6_isGear 7 = .ok (.iconst 0, 1) := by decide +kernel
theorem dX6_isGear_8 : decode cX6_isGear 8 = .ok (.iaload, 1) := by decide +kernel
theorem dX6_isGear_9 : decode cX6_isGear 9 = .ok (.iconst 1, 1) := by decide +kernel
theorem dX6_isGear_10 : decode cX6_isGear 10 = .ok (.isub, 1) := by decide +kernel
theorem dX6_isGear_11 : decode cX6_isGear 11 = .ok (.i2l, 1) := by decide +kernel
theorem dX6_isGear_12 : decode cX6_isGear 12 = .ok (.invokestatic 51, 3) := by decide +kernel
theorem dX6_isGear_15 : decode cX6_isGear 15 = .ok (.ireturn, 1) := by decide +kernel
theorem dX6_teeth_0 : decode cX6_teeth 0 = .ok (.aload_n 0, 1) := by decide +kernel
theorem dX6_teeth_1 : decode cX6_teeth 1 = .ok (.getfield 7, 3) := by decide +kernel
theorem dX6_teeth_4 : decode cX6_teeth 4 = .ok (.iconst 1, 1) := by decide +kernel
theorem dX6_teeth_5 : decode cX6_teeth 5 = .ok (.bipush 95, 2) := by decide +kernel
theorem dX6_teeth_7 : decode cX6_teeth 7 = .ok (.iload_n 1, 1) := by decide +kernel
theorem dX6_teeth_8 : decode cX6_teeth 8 = .ok (.imul, 1) := by decide +kernel
theorem dX6_teeth_9 : decode cX6_teeth 9 = .ok (.iadd, 1) := by decide +kernel
theorem dX6_teeth_10 : decode cX6_teeth 10 = .ok (.iaload, 1) := by decide +kernel
theorem dX6_teeth_11 : decode cX6_teeth 11 = .ok (.ireturn, 1) := by decide +kernel
theorem dX6_moduleOf_0 : decode cX6_moduleOf 0 = .ok (.aload_n 0, 1) := by decide +kernel
theorem dX6_moduleOf_1 : decode cX6_moduleOf 1 = .ok (.getfield 7, 3) := by decide +kernel
theorem dX6_moduleOf_4 : decode cX6_moduleOf 4 = .ok (.iconst 1, 1) := by decide +kernel
theorem dX6_moduleOf_5 : decode cX6_moduleOf 5 = .ok (.bipush 95, 2) := by decide +kernel
theorem dX6_moduleOf_7 : decode cX6_moduleOf 7 = .ok (.iload_n 1, 1) := by decide +kernel
theorem dX6_moduleOf_8 : decode cX6_moduleOf 8 = .ok (.imul, 1) := by decide +kernel
theorem dX6_moduleOf_9 : decode cX6_moduleOf 9 = .ok (.iadd, 1) := by decide +kernel
theorem dX6_moduleOf_10 : decode cX6_moduleOf 10 = .ok (.iconst 1, 1) := by decide +kernel
theorem dX6_moduleOf_11 : decode cX6_moduleOf 11 = .ok (.iadd, 1) := by decide +kernel
theorem dX6_moduleOf_12 : decode cX6_moduleOf 12 = .ok (.iaload, 1) := by decide +kernel
theorem dX6_moduleOf_13 : decode cX6_moduleOf 13 = .ok (.ireturn, 1) := by decide +kernel
theorem dX6_placeOf_0 : decode cX6_placeOf 0 = .ok (.iconst 1, 1) := by decide +kernel
theorem dX6_placeOf_1 : decode cX6_placeOf 1 = .ok (.bipush 95, 2) := by decide +kernel
theorem dX6_placeOf_3 : decode cX6_placeOf 3 = .ok (.iload_n 0, 1) := by decide +kernel
theorem dX6_placeOf_4 : decode cX6_placeOf 4 = .ok (.imul, 1) := by decide +kernel
theorem dX6_placeOf_5 : decode cX6_placeOf 5 = .ok (.iadd, 1) := by decide +kernel
theorem dX6_placeOf_6 : decode cX6_placeOf 6 = .ok (.iconst 2, 1) := by decide +kernel
theorem dX6_placeOf_7 : decode cX6_placeOf 7 = .ok (.iadd, 1) := by decide +kernel
theorem dX6_placeOf_8 : decode cX6_placeOf 8 = .ok (.bipush 31, 2) := by decide +kernel
theorem dX6_placeOf_10 : decode cX6_placeOf 10 = .ok (.iload_n 1, 1) := by decide +kernel
theorem dX6_placeOf_11 : decode cX6_placeOf 11 = .ok (.imul, 1) := by decide +kernel
theorem dX6_placeOf_12 : decode cX6_placeOf 12 = .ok (.iadd, 1) := by decide +kernel
theorem dX6_placeOf_13 : decode cX6_placeOf 13 = .ok (.iload_n 2, 1) := by decide +kernel
theorem dX6_placeOf_14 : decode cX6_placeOf 14 = .ok (.iadd, 1) := by decide +kernel
theorem dX6_placeOf_15 : decode cX6_placeOf 15 = .ok (.ireturn, 1) := by decide +kernel
theorem dX6_readingOf_0 : decode cX6_readingOf 0 = .ok (.aload_n 0, 1) := by decide +kernel
theorem dX6_readingOf_1 : decode cX6_readingOf 1 = .ok (.getfield 7, 3) := by decide +kernel
theorem dX6_readingOf_4 : decode cX6_readingOf 4 = .ok (.iload_n 1, 1) := by decide +kernel
theorem dX6_readingOf_5 : decode cX6_readingOf 5 = .ok (.iload_n 2, 1) := by decide +kernel
theorem dX6_readingOf_6 : decode cX6_readingOf 6 = .ok (.iload_n 3, 1) := by decide +kernel
theorem dX6_readingOf_7 : decode cX6_readingOf 7 = .ok (.invokestatic 55, 3) := by decide +kernel
theorem dX6_readingOf_10 : decode cX6_readingOf 10 = .ok (.iaload, 1) := by decide +kernel
theorem dX6_readingOf_11 : decode cX6_readingOf 11 = .ok (.ireturn, 1) := by decide +kernel
theorem dX6_longOf_0 : decode cX6_longOf 0 = .ok (.iload_n 2, 1) := by decide +kernel
theorem dX6_longOf_1 : decode cX6_longOf 1 = .ok (.iconst 2, 1) := by decide +kernel
theorem dX6_longOf_2 : decode cX6_longOf 2 = .ok (.if_icmp .ne 11, 3) := by decide +kernel
theorem dX6_longOf_5 : decode cX6_longOf 5 = .ok (.aload_n 0, 1) := by decide +kernel
theorem dX6_longOf_6 : decode cX6_longOf 6 = .ok (.iload_n 1, 1) := by decide +kernel
theorem dX6_longOf_7 : decode cX6_longOf 7 = .ok (.invokevirtual 59, 3) := by decide +kernel
theorem dX6_longOf_10 : decode cX6_longOf 10 = .ok (.goto 10, 3) := by decide +kernel
theorem dX6_longOf_13 : decode cX6_longOf 13 = .ok (.aload_n 0, 1) := by decide +kernel
theorem dX6_longOf_14 : decode cX6_longOf 14 = .ok (.iload_n 1, 1) := by decide +kernel
theorem dX6_longOf_15 : decode cX6_longOf 15 = .ok (.invokevirtual 59, 3) := by decide +kernel
theorem dX6_longOf_18 : decode cX6_longOf 18 = .ok (.iconst 1, 1) := by decide +kernel
theorem dX6_longOf_19 : decode cX6_longOf 19 = .ok (.iadd, 1) := by decide +kernel
theorem dX6_longOf_20 : decode cX6_longOf 20 = .ok (.ireturn, 1) := by decide +kernel
theorem dX6_isReading_0 : decode cX6_isReading 0 = .ok (.aload_n 0, 1) := by decide +kernel
theorem dX6_isReading_1 : decode cX6_isReading 1 = .ok (.iload_n 1, 1) := by decide +kernel
theorem dX6_isReading_2 : decode cX6_isReading 2 = .ok (.invokevirtual 62, 3) := by decide +kernel
theorem dX6_isReading_5 : decode cX6_isReading 5 = .ok (.ifCond .eq 37, 3) := by decide +kernel
theorem dX6_isReading_8 : decode cX6_isReading 8 = .ok (.iload_n 2, 1) := by decide +kernel
theorem dX6_isReading_9 : decode cX6_isReading 9 = .ok (.i2l, 1) := by decide +kernel
theorem dX6_isReading_10 : decode cX6_isReading 10 = .ok (.lconst 0, 1) := by decide +kernel
theorem dX6_isReading_11 : decode cX6_isReading 11 = .ok (.ldc2_w 45, 3) := by decide +kernel
theorem dX6_isReading_14 : decode cX6_isReading 14 = .ok (.invokestatic 51, 3) := by decide +kernel
theorem dX6_isReading_17 : decode cX6_isReading 17 = .ok (.ifCond .eq 25, 3) := by decide +kernel
theorem dX6_isReading_20 : decode cX6_isReading 20 = .ok (.iload_n 3, 1) := by decide +kernel
theorem dX6_isReading_21 : decode cX6_isReading 21 = .ok (.i2l, 1) := by decide +kernel
theorem dX6_isReading_22 : decode cX6_isReading 22 = .ok (.lconst 0, 1) := by decide +kernel
theorem dX6_isReading_23 : decode cX6_isReading 23 = .ok (.aload_n 0, 1) := by decide +kernel
theorem dX6_isReading_24 : decode cX6_isReading 24 = .ok (.iload_n 1, 1) := by decide +kernel
theorem dX6_isReading_25 : decode cX6_isReading 25 = .ok (.iload_n 2, 1) := by decide +kernel
theorem dX6_isReading_26 : decode cX6_isReading 26 = .ok (.invokevirtual 66, 3) := by decide +kernel
theorem dX6_isReading_29 : decode cX6_isReading 29 = .ok (.iconst 1, 1) := by decide +kernel
theorem dX6_isReading_30 : decode cX6_isReading 30 = .ok (.isub, 1) := by decide +kernel
theorem dX6_isReading_31 : decode cX6_isReading 31 = .ok (.i2l, 1) := by decide +kernel
theorem dX6_isReading_32 : decode cX6_isReading 32 = .ok (.invokestatic 51, 3) := by decide +kernel
theorem dX6_isReading_35 : decode cX6_isReading 35 = .ok (.ifCond .eq 7, 3) := by decide +kernel
theorem dX6_isReading_38 : decode cX6_isReading 38 = .ok (.iconst 1, 1) := by decide +kernel
theorem dX6_isReading_39 : decode cX6_isReading 39 = .ok (.goto 4, 3) := by decide +kernel
theorem dX6_isReading_42 : decode cX6_isReading 42 = .ok (.iconst 0, 1) := by decide +kernel
theorem dX6_isReading_43 : decode cX6_isReading 43 = .ok (.ireturn, 1) := by decide +kernel
theorem dX6_isLine_0 : decode cX6_isLine 0 = .ok (.iload_n 1, 1) := by decide +kernel
theorem dX6_isLine_1 : decode cX6_isLine 1 = .ok (.i2l, 1) := by decide +kernel
theorem dX6_isLine_2 : decode cX6_isLine 2 = .ok (.lconst 0, 1) := by decide +kernel
theorem dX6_isLine_3 : decode cX6_isLine 3 = .ok (.aload_n 0, 1) := by decide +kernel
theorem dX6_isLine_4 : decode cX6_isLine 4 = .ok (.getfield 7, 3) := by decide +kernel
theorem dX6_isLine_7 : decode cX6_isLine 7 = .ok (.sipush 571, 3) := by decide +kernel
theorem dX6_isLine_10 : decode cX6_isLine 10 = .ok (.iaload, 1) := by decide +kernel
theorem dX6_isLine_11 : decode cX6_isLine 11 = .ok (.iconst 1, 1) := by decide +kernel
theorem dX6_isLine_12 : decode cX6_isLine 12 = .ok (.isub, 1) := by decide +kernel
theorem dX6_isLine_13 : decode cX6_isLine 13 = .ok (.i2l, 1) := by decide +kernel
theorem dX6_isLine_14 : decode cX6_isLine 14 = .ok (.invokestatic 51, 3) := by decide +kernel
theorem dX6_isLine_17 : decode cX6_isLine 17 = .ok (.ireturn, 1) := by decide +kernel
theorem dX6_of_0 : decode cX6_of 0 = .ok (.aload_n 0, 1) := by decide +kernel
theorem dX6_of_1 : decode cX6_of 1 = .ok (.getfield 7, 3) := by decide +kernel
theorem dX6_of_4 : decode cX6_of 4 = .ok (.sipush 572, 3) := by decide +kernel
theorem dX6_of_7 : decode cX6_of 7 = .ok (.bipush 15, 2) := by decide +kernel
theorem dX6_of_9 : decode cX6_of 9 = .ok (.iload_n 1, 1) := by decide +kernel
theorem dX6_of_10 : decode cX6_of 10 = .ok (.imul, 1) := by decide +kernel
theorem dX6_of_11 : decode cX6_of 11 = .ok (.iadd, 1) := by decide +kernel
theorem dX6_of_12 : decode cX6_of 12 = .ok (.iload_n 2, 1) := by decide +kernel
theorem dX6_of_13 : decode cX6_of 13 = .ok (.iadd, 1) := by decide +kernel
theorem dX6_of_14 : decode cX6_of 14 = .ok (.iaload, 1) := by decide +kernel
theorem dX6_of_15 : decode cX6_of 15 = .ok (.ireturn, 1) := by decide +kernel
theorem dX6_closing_0 : decode cX6_closing 0 = .ok (.aload_n 0, 1) := by decide +kernel
theorem dX6_closing_1 : decode cX6_closing 1 = .ok (.iload_n 1, 1) := by decide +kernel
theorem dX6_closing_2 : decode cX6_closing 2 = .ok (.iload_n 2, 1) := by decide +kernel
theorem dX6_closing_3 : decode cX6_closing 3 = .ok (.aload_n 0, 1) := by decide +kernel
theorem dX6_closing_4 : decode cX6_closing 4 = .ok (.iload_n 1, 1) := by decide +kernel
theorem dX6_closing_5 : decode cX6_closing 5 = .ok (.invokevirtual 59, 3) := by decide +kernel
theorem dX6_closing_8 : decode cX6_closing 8 = .ok (.invokevirtual 70, 3) := by decide +kernel
theorem dX6_closing_11 : decode cX6_closing 11 = .ok (.aload_n 0, 1) := by decide +kernel
theorem dX6_closing_12 : decode cX6_closing 12 = .ok (.iload_n 1, 1) := by decide +kernel
theorem dX6_closing_13 : decode cX6_closing 13 = .ok (.iload_n 2, 1) := by decide +kernel
theorem dX6_closing_14 : decode cX6_closing 14 = .ok (.iconst 0, 1) := by decide +kernel
theorem dX6_closing_15 : decode cX6_closing 15 = .ok (.invokevirtual 70, 3) := by decide +kernel
theorem dX6_closing_18 : decode cX6_closing 18 = .ok (.isub, 1) := by decide +kernel
theorem dX6_closing_19 : decode cX6_closing 19 = .ok (.ireturn, 1) := by decide +kernel
theorem dX6_isSize_0 : decode cX6_isSize 0 = .ok (.iload_n 0, 1) := by decide +kernel
theorem dX6_isSize_1 : decode cX6_isSize 1 = .ok (.i2l, 1) := by decide +kernel
theorem dX6_isSize_2 : decode cX6_isSize 2 = .ok (.ldc2_w 73, 3) := by decide +kernel
theorem dX6_isSize_5 : decode cX6_isSize 5 = .ok (.ldc2_w 75, 3) := by decide +kernel
theorem dX6_isSize_8 : decode cX6_isSize 8 = .ok (.invokestatic 51, 3) := by decide +kernel
theorem dX6_isSize_11 : decode cX6_isSize 11 = .ok (.ifCond .eq 19, 3) := by decide +kernel
theorem dX6_isSize_14 : decode cX6_isSize 14 = .ok (.iload_n 1, 1) := by decide +kernel
theorem dX6_isSize_15 : decode cX6_isSize 15 = .ok (.i2l, 1) := by decide +kernel
theorem dX6_isSize_16 : decode cX6_isSize 16 = .ok (.lconst 1, 1) := by decide +kernel
theorem dX6_isSize_17 : decode cX6_isSize 17 = .ok (.ldc2_w 77, 3) := by decide +kernel
theorem dX6_isSize_20 : decode cX6_isSize 20 = .ok (.invokestatic 51, 3) := by decide +kernel
theorem dX6_isSize_23 : decode cX6_isSize 23 = .ok (.ifCond .eq 7, 3) := by decide +kernel
theorem dX6_isSize_26 : decode cX6_isSize 26 = .ok (.iconst 1, 1) := by decide +kernel
theorem dX6_isSize_27 : decode cX6_isSize 27 = .ok (.goto 4, 3) := by decide +kernel
theorem dX6_isSize_30 : decode cX6_isSize 30 = .ok (.iconst 0, 1) := by decide +kernel
theorem dX6_isSize_31 : decode cX6_isSize 31 = .ok (.ireturn, 1) := by decide +kernel
theorem dX6_putsGear_0 : decode cX6_putsGear 0 = .ok (.iconst 1, 1) := by decide +kernel
theorem dX6_putsGear_1 : decode cX6_putsGear 1 = .ok (.bipush 95, 2) := by decide +kernel
theorem dX6_putsGear_3 : decode cX6_putsGear 3 = .ok (.aload_n 0, 1) := by decide +kernel
theorem dX6_putsGear_4 : decode cX6_putsGear 4 = .ok (.getfield 7, 3) := by decide +kernel
theorem dX6_putsGear_7 : decode cX6_putsGear 7 = .ok (.iconst 0, 1) := by decide +kernel
theorem dX6_putsGear_8 : decode cX6_putsGear 8 = .ok (.iaload, 1) := by decide +kernel
theorem dX6_putsGear_9 : decode cX6_putsGear 9 = .ok (.imul, 1) := by decide +kernel
theorem dX6_putsGear_10 : decode cX6_putsGear 10 = .ok (.iadd, 1) := by decide +kernel
theorem dX6_putsGear_11 : decode cX6_putsGear 11 = .ok (.istore_n 3, 1) := by decide +kernel
theorem dX6_putsGear_12 : decode cX6_putsGear 12 = .ok (.iconst 0, 1) := by decide +kernel
theorem dX6_putsGear_13 : decode cX6_putsGear 13 = .ok (.istore 4, 2) := by decide +kernel
theorem dX6_putsGear_15 : decode cX6_putsGear 15 = .ok (.iload 4, 2) := by decide +kernel
theorem dX6_putsGear_17 : decode cX6_putsGear 17 = .ok (.bipush 95, 2) := by decide +kernel
theorem dX6_putsGear_19 : decode cX6_putsGear 19 = .ok (.if_icmp .ge 19, 3) := by decide +kernel
theorem dX6_putsGear_22 : decode cX6_putsGear 22 = .ok (.aload_n 0, 1) := by decide +kernel
theorem dX6_putsGear_23 : decode cX6_putsGear 23 = .ok (.getfield 7, 3) := by decide +kernel
theorem dX6_putsGear_26 : decode cX6_putsGear 26 = .ok (.iload_n 3, 1) := by decide +kernel
theorem dX6_putsGear_27 : decode cX6_putsGear 27 = .ok (.iload 4, 2) := by decide +kernel
theorem dX6_putsGear_29 : decode cX6_putsGear 29 = .ok (.iadd, 1) := by decide +kernel
theorem dX6_putsGear_30 : decode cX6_putsGear 30 = .ok (.iconst 0, 1) := by decide +kernel
theorem dX6_putsGear_31 : decode cX6_putsGear 31 = .ok (.iastore, 1) := by decide +kernel
theorem dX6_putsGear_32 : decode cX6_putsGear 32 = .ok (.iinc 4 1, 3) := by decide +kernel
theorem dX6_putsGear_35 : decode cX6_putsGear 35 = .ok (.goto (-20), 3) := by decide +kernel
theorem dX6_putsGear_38 : decode cX6_putsGear 38 = .ok (.aload_n 0, 1) := by decide +kernel
theorem dX6_putsGear_39 : decode cX6_putsGear 39 = .ok (.getfield 7, 3) := by decide +kernel
theorem dX6_putsGear_42 : decode cX6_putsGear 42 = .ok (.iload_n 3, 1) := by decide +kernel
theorem dX6_putsGear_43 : decode cX6_putsGear 43 = .ok (.iload_n 1, 1) := by decide +kernel
theorem dX6_putsGear_44 : decode cX6_putsGear 44 = .ok (.iastore, 1) := by decide +kernel
theorem dX6_putsGear_45 : decode cX6_putsGear 45 = .ok (.aload_n 0, 1) := by decide +kernel
theorem dX6_putsGear_46 : decode cX6_putsGear 46 = .ok (.getfield 7, 3) := by decide +kernel
theorem dX6_putsGear_49 : decode cX6_putsGear 49 = .ok (.iload_n 3, 1) := by decide +kernel
theorem dX6_putsGear_50 : decode cX6_putsGear 50 = .ok (.iconst 1, 1) := by decide +kernel
theorem dX6_putsGear_51 : decode cX6_putsGear 51 = .ok (.iadd, 1) := by decide +kernel
theorem dX6_putsGear_52 : decode cX6_putsGear 52 = .ok (.iload_n 2, 1) := by decide +kernel
theorem dX6_putsGear_53 : decode cX6_putsGear 53 = .ok (.iastore, 1) := by decide +kernel
theorem dX6_putsGear_54 : decode cX6_putsGear 54 = .ok (.aload_n 0, 1) := by decide +kernel
theorem dX6_putsGear_55 : decode cX6_putsGear 55 = .ok (.getfield 7, 3) := by decide +kernel
theorem dX6_putsGear_58 : decode cX6_putsGear 58 = .ok (.iconst 0, 1) := by decide +kernel
theorem dX6_putsGear_59 : decode cX6_putsGear 59 = .ok (.dup2, 1) := by decide +kernel
theorem dX6_putsGear_60 : decode cX6_putsGear 60 = .ok (.iaload, 1) := by decide +kernel
theorem dX6_putsGear_61 : decode cX6_putsGear 61 = .ok (.iconst 1, 1) := by decide +kernel
theorem dX6_putsGear_62 : decode cX6_putsGear 62 = .ok (.iadd, 1) := by decide +kernel
theorem dX6_putsGear_63 : decode cX6_putsGear 63 = .ok (.iastore, 1) := by decide +kernel
theorem dX6_putsGear_64 : decode cX6_putsGear 64 = .ok (.return_, 1) := by decide +kernel
theorem dX6_addGear_0 : decode cX6_addGear 0 = .ok (.iload_n 1, 1) := by decide +kernel
theorem dX6_addGear_1 : decode cX6_addGear 1 = .ok (.iload_n 2, 1) := by decide +kernel
theorem dX6_addGear_2 : decode cX6_addGear 2 = .ok (.invokestatic 79, 3) := by decide +kernel
theorem dX6_addGear_5 : decode cX6_addGear 5 = .ok (.ifCond .ne 9, 3) := by decide +kernel
theorem dX6_addGear_8 : decode cX6_addGear 8 = .ok (.aload_n 0, 1) := by decide +kernel
theorem dX6_addGear_9 : decode cX6_addGear 9 = .ok (.iconst 1, 1) := by decide +kernel
theorem dX6_addGear_10 : decode cX6_addGear 10 = .ok (.invokevirtual 83, 3) := by decide +kernel
theorem dX6_addGear_13 : decode cX6_addGear 13 = .ok (.ireturn, 1) := by decide +kernel
theorem dX6_addGear_14 : decode cX6_addGear 14 = .ok (.aload_n 0, 1) := by decide +kernel
theorem dX6_addGear_15 : decode cX6_addGear 15 = .ok (.getfield 7, 3) := by decide +kernel
theorem dX6_addGear_18 : decode cX6_addGear 18 = .ok (.iconst 0, 1) := by decide +kernel
theorem dX6_addGear_19 : decode cX6_addGear 19 = .ok (.iaload, 1) := by decide +kernel
theorem dX6_addGear_20 : decode cX6_addGear 20 = .ok (.bipush 6, 2) := by decide +kernel
theorem dX6_addGear_22 : decode cX6_addGear 22 = .ok (.if_icmp .ne 9, 3) := by decide +kernel
theorem dX6_addGear_25 : decode cX6_addGear 25 = .ok (.aload_n 0, 1) := by decide +kernel
theorem dX6_addGear_26 : decode cX6_addGear 26 = .ok (.iconst 2, 1) := by decide +kernel
theorem dX6_addGear_27 : decode cX6_addGear 27 = .ok (.invokevirtual 83, 3) := by decide +kernel
theorem dX6_addGear_30 : decode cX6_addGear 30 = .ok (.ireturn, 1) := by decide +kernel
theorem dX6_addGear_31 : decode cX6_addGear 31 = .ok (.aload_n 0, 1) := by decide +kernel
theorem dX6_addGear_32 : decode cX6_addGear 32 = .ok (.invokevirtual 86, 3) := by decide +kernel
theorem dX6_addGear_35 : decode cX6_addGear 35 = .ok (.aload_n 0, 1) := by decide +kernel
theorem dX6_addGear_36 : decode cX6_addGear 36 = .ok (.iload_n 1, 1) := by decide +kernel
theorem dX6_addGear_37 : decode cX6_addGear 37 = .ok (.iload_n 2, 1) := by decide +kernel
theorem dX6_addGear_38 : decode cX6_addGear 38 = .ok (.invokevirtual 89, 3) := by decide +kernel
theorem dX6_addGear_41 : decode cX6_addGear 41 = .ok (.aload_n 0, 1) := by decide +kernel
theorem dX6_addGear_42 : decode cX6_addGear 42 = .ok (.aload_n 0, 1) := by decide +kernel
theorem dX6_addGear_43 : decode cX6_addGear 43 = .ok (.getfield 7, 3) := by decide +kernel
theorem dX6_addGear_46 : decode cX6_addGear 46 = .ok (.iconst 0, 1) := by decide +kernel
theorem dX6_addGear_47 : decode cX6_addGear 47 = .ok (.iaload, 1) := by decide +kernel
theorem dX6_addGear_48 : decode cX6_addGear 48 = .ok (.iconst 1, 1) := by decide +kernel
theorem dX6_addGear_49 : decode cX6_addGear 49 = .ok (.isub, 1) := by decide +kernel
theorem dX6_addGear_50 : decode cX6_addGear 50 = .ok (.invokevirtual 93, 3) := by decide +kernel
theorem dX6_addGear_53 : decode cX6_addGear 53 = .ok (.ireturn, 1) := by decide +kernel
theorem dX6_dropsLine_0 : decode cX6_dropsLine 0 = .ok (.aload_n 0, 1) := by decide +kernel
theorem dX6_dropsLine_1 : decode cX6_dropsLine 1 = .ok (.getfield 7, 3) := by decide +kernel
theorem dX6_dropsLine_4 : decode cX6_dropsLine 4 = .ok (.sipush 571, 3) := by decide +kernel
theorem dX6_dropsLine_7 : decode cX6_dropsLine 7 = .ok (.dup2, 1) := by decide +kernel
theorem dX6_dropsLine_8 : decode cX6_dropsLine 8 = .ok (.iaload, 1) := by decide +kernel
theorem dX6_dropsLine_9 : decode cX6_dropsLine 9 = .ok (.iconst 1, 1) := by decide +kernel
theorem dX6_dropsLine_10 : decode cX6_dropsLine 10 = .ok (.isub, 1) := by decide +kernel
theorem dX6_dropsLine_11 : decode cX6_dropsLine 11 = .ok (.iastore, 1) := by decide +kernel
theorem dX6_dropsLine_12 : decode cX6_dropsLine 12 = .ok (.sipush 572, 3) := by decide +kernel
theorem dX6_dropsLine_15 : decode cX6_dropsLine 15 = .ok (.bipush 15, 2) := by decide +kernel
theorem dX6_dropsLine_17 : decode cX6_dropsLine 17 = .ok (.iload_n 1, 1) := by decide +kernel
theorem dX6_dropsLine_18 : decode cX6_dropsLine 18 = .ok (.imul, 1) := by decide +kernel
theorem dX6_dropsLine_19 : decode cX6_dropsLine 19 = .ok (.iadd, 1) := by decide +kernel
theorem dX6_dropsLine_20 : decode cX6_dropsLine 20 = .ok (.istore_n 2, 1) := by decide +kernel
theorem dX6_dropsLine_21 : decode cX6_dropsLine 21 = .ok (.iload_n 2, 1) := by decide +kernel
theorem dX6_dropsLine_22 : decode cX6_dropsLine 22 = .ok (.sipush 572, 3) := by decide +kernel
theorem dX6_dropsLine_25 : decode cX6_dropsLine 25 = .ok (.bipush 15, 2) := by decide +kernel
theorem dX6_dropsLine_27 : decode cX6_dropsLine 27 = .ok (.aload_n 0, 1) := by decide +kernel
theorem dX6_dropsLine_28 : decode cX6_dropsLine 28 = .ok (.getfield 7, 3) := by decide +kernel
theorem dX6_dropsLine_31 : decode cX6_dropsLine 31 = .ok (.sipush 571, 3) := by decide +kernel
theorem dX6_dropsLine_34 : decode cX6_dropsLine 34 = .ok (.iaload, 1) := by decide +kernel
theorem dX6_dropsLine_35 : decode cX6_dropsLine 35 = .ok (.imul, 1) := by decide +kernel
theorem dX6_dropsLine_36 : decode cX6_dropsLine 36 = .ok (.iadd, 1) := by decide +kernel
theorem dX6_dropsLine_37 : decode cX6_dropsLine 37 = .ok (.if_icmp .ge 24, 3) := by decide +kernel
theorem dX6_dropsLine_40 : decode cX6_dropsLine 40 = .ok (.aload_n 0, 1) := by decide +kernel
theorem dX6_dropsLine_41 : decode cX6_dropsLine 41 = .ok (.getfield 7, 3) := by decide +kernel
theorem dX6_dropsLine_44 : decode cX6_dropsLine 44 = .ok (.iload_n 2, 1) := by decide +kernel
theorem dX6_dropsLine_45 : decode cX6_dropsLine 45 = .ok (.aload_n 0, 1) := by decide +kernel
theorem dX6_dropsLine_46 : decode cX6_dropsLine 46 = .ok (.getfield 7, 3) := by decide +kernel
theorem dX6_dropsLine_49 : decode cX6_dropsLine 49 = .ok (.iload_n 2, 1) := by decide +kernel
theorem dX6_dropsLine_50 : decode cX6_dropsLine 50 = .ok (.bipush 15, 2) := by decide +kernel
theorem dX6_dropsLine_52 : decode cX6_dropsLine 52 = .ok (.iadd, 1) := by decide +kernel
theorem dX6_dropsLine_53 : decode cX6_dropsLine 53 = .ok (.iaload, 1) := by decide +kernel
theorem dX6_dropsLine_54 : decode cX6_dropsLine 54 = .ok (.iastore, 1) := by decide +kernel
theorem dX6_dropsLine_55 : decode cX6_dropsLine 55 = .ok (.iinc 2 1, 3) := by decide +kernel
theorem dX6_dropsLine_58 : decode cX6_dropsLine 58 = .ok (.goto (-37), 3) := by decide +kernel
theorem dX6_dropsLine_61 : decode cX6_dropsLine 61 = .ok (.return_, 1) := by decide +kernel
theorem dX6_removeGear_0 : decode cX6_removeGear 0 = .ok (.aload_n 0, 1) := by decide +kernel
theorem dX6_removeGear_1 : decode cX6_removeGear 1 = .ok (.iload_n 1, 1) := by decide +kernel
theorem dX6_removeGear_2 : decode cX6_removeGear 2 = .ok (.invokevirtual 62, 3) := by decide +kernel
theorem dX6_removeGear_5 : decode cX6_removeGear 5 = .ok (.ifCond .ne 9, 3) := by decide +kernel
theorem dX6_removeGear_8 : decode cX6_removeGear 8 = .ok (.aload_n 0, 1) := by decide +kernel
theorem dX6_removeGear_9 : decode cX6_removeGear 9 = .ok (.iconst 1, 1) := by decide +kernel
theorem dX6_removeGear_10 : decode cX6_removeGear 10 = .ok (.invokevirtual 83, 3) := by decide +kernel
theorem dX6_removeGear_13 : decode cX6_removeGear 13 = .ok (.ireturn, 1) := by decide +kernel
theorem dX6_removeGear_14 : decode cX6_removeGear 14 = .ok (.aload_n 0, 1) := by decide +kernel
theorem dX6_removeGear_15 : decode cX6_removeGear 15 = .ok (.invokevirtual 86, 3) := by decide +kernel
theorem dX6_removeGear_18 : decode cX6_removeGear 18 = .ok (.iconst 0, 1) := by decide +kernel
theorem dX6_removeGear_19 : decode cX6_removeGear 19 = .ok (.istore_n 2, 1) := by decide +kernel
theorem dX6_removeGear_20 : decode cX6_removeGear 20 = .ok (.aload_n 0, 1) := by decide +kernel
theorem dX6_removeGear_21 : decode cX6_removeGear 21 = .ok (.getfield 7, 3) := by decide +kernel
theorem dX6_removeGear_24 : decode cX6_removeGear 24 = .ok (.sipush 571, 3) := by decide +kernel
theorem dX6_removeGear_27 : decode cX6_removeGear 27 = .ok (.iaload, 1) := by decide +kernel
theorem dX6_removeGear_28 : decode cX6_removeGear 28 = .ok (.iconst 1, 1) := by decide +kernel
theorem dX6_removeGear_29 : decode cX6_removeGear 29 = .ok (.isub, 1) := by decide +kernel
theorem dX6_removeGear_30 : decode cX6_removeGear 30 = .ok (.istore_n 3, 1) := by decide +kernel
theorem dX6_removeGear_31 : decode cX6_removeGear 31 = .ok (.iload_n 3, 1) := by decide +kernel
theorem dX6_removeGear_32 : decode cX6_removeGear 32 = .ok (.ifCond .lt 27, 3) := by decide +kernel
theorem dX6_removeGear_35 : decode cX6_removeGear 35 = .ok (.aload_n 0, 1) := by decide +kernel
theorem dX6_removeGear_36 : decode cX6_removeGear 36 = .ok (.iload_n 3, 1) := by decide +kernel
theorem dX6_removeGear_37 : decode cX6_removeGear 37 = .ok (.iconst 0, 1) := by decide +kernel
theorem dX6_removeGear_38 : decode cX6_removeGear 38 = .ok (.invokevirtual 96, 3) := by decide +kernel
theorem dX6_removeGear_41 : decode cX6_removeGear 41 = .ok (.iload_n 1, 1) := by decide +kernel
theorem dX6_removeGear_42 : decode cX6_removeGear 42 = .ok (.if_icmp .ne 11, 3) := by decide +kernel
theorem dX6_removeGear_45 : decode cX6_removeGear 45 = .ok (.aload_n 0, 1) := by decide +kernel
theorem dX6_removeGear_46 : decode cX6_removeGear 46 = .ok (.iload_n 3, 1) := by decide +kernel
theorem dX6_removeGear_47 : decode cX6_removeGear 47 = .ok (.invokevirtual 99, 3) := by decide +kernel
theorem dX6_removeGear_50 : decode cX6_removeGear 50 = .ok (.iinc 2 1, 3) := by decide +kernel
theorem dX6_removeGear_53 : decode cX6_removeGear 53 = .ok (.iinc 3 (-1), 3) := by decide +kernel
theorem dX6_removeGear_56 : decode cX6_removeGear 56 = .ok (.goto (-25), 3) := by decide +kernel
theorem dX6_removeGear_59 : decode cX6_removeGear 59 = .ok (.iconst 0, 1) := by decide +kernel
theorem dX6_removeGear_60 : decode cX6_removeGear 60 = .ok (.istore_n 3, 1) := by decide +kernel
theorem dX6_removeGear_61 : decode cX6_removeGear 61 = .ok (.iload_n 3, 1) := by decide +kernel
theorem dX6_removeGear_62 : decode cX6_removeGear 62 = .ok (.aload_n 0, 1) := by decide +kernel
theorem dX6_removeGear_63 : decode cX6_removeGear 63 = .ok (.getfield 7, 3) := by decide +kernel
theorem dX6_removeGear_66 : decode cX6_removeGear 66 = .ok (.sipush 571, 3) := by decide +kernel
theorem dX6_removeGear_69 : decode cX6_removeGear 69 = .ok (.iaload, 1) := by decide +kernel
theorem dX6_removeGear_70 : decode cX6_removeGear 70 = .ok (.if_icmp .ge 40, 3) := by decide +kernel
theorem dX6_removeGear_73 : decode cX6_removeGear 73 = .ok (.aload_n 0, 1) := by decide +kernel
theorem dX6_removeGear_74 : decode cX6_removeGear 74 = .ok (.getfield 7, 3) := by decide +kernel
theorem dX6_removeGear_77 : decode cX6_removeGear 77 = .ok (.sipush 572, 3) := by decide +kernel
theorem dX6_removeGear_80 : decode cX6_removeGear 80 = .ok (.bipush 15, 2) := by decide +kernel
theorem dX6_removeGear_82 : decode cX6_removeGear 82 = .ok (.iload_n 3, 1) := by decide +kernel
theorem dX6_removeGear_83 : decode cX6_removeGear 83 = .ok (.imul, 1) := by decide +kernel
theorem dX6_removeGear_84 : decode cX6_removeGear 84 = .ok (.iadd, 1) := by decide +kernel
theorem dX6_removeGear_85 : decode cX6_removeGear 85 = .ok (.dup2, 1) := by decide +kernel
theorem dX6_removeGear_86 : decode cX6_removeGear 86 = .ok (.iaload, 1) := by decide +kernel
theorem dX6_removeGear_87 : decode cX6_removeGear 87 = .ok (.aload_n 0, 1) := by decide +kernel
theorem dX6_removeGear_88 : decode cX6_removeGear 88 = .ok (.iload_n 3, 1) := by decide +kernel
theorem dX6_removeGear_89 : decode cX6_removeGear 89 = .ok (.iconst 0, 1) := by decide +kernel
theorem dX6_removeGear_90 : decode cX6_removeGear 90 = .ok (.invokevirtual 96, 3) := by decide +kernel
theorem dX6_removeGear_93 : decode cX6_removeGear 93 = .ok (.iload_n 1, 1) := by decide +kernel
theorem dX6_removeGear_94 : decode cX6_removeGear 94 = .ok (.if_icmp .le 7, 3) := by decide +kernel
theorem dX6_removeGear_97 : decode cX6_removeGear 97 = .ok (.iconst 1, 1) := by decide +kernel
theorem dX6_removeGear_98 : decode cX6_removeGear 98 = .ok (.goto 4, 3) := by decide +kernel
theorem dX6_removeGear_101 : decode cX6_removeGear 101 = .ok (.iconst 0, 1) := by decide +kernel
theorem dX6_removeGear_102 : decode cX6_removeGear 102 = .ok (.isub, 1) := by decide +kernel
theorem dX6_removeGear_103 : decode cX6_removeGear 103 = .ok (.iastore, 1) := by decide +kernel
theorem dX6_removeGear_104 : decode cX6_removeGear 104 = .ok (.iinc 3 1, 3) := by decide +kernel
theorem dX6_removeGear_107 : decode cX6_removeGear 107 = .ok (.goto (-46), 3) := by decide +kernel
theorem dX6_removeGear_110 : decode cX6_removeGear 110 = .ok (.aload_n 0, 1) := by decide +kernel
theorem dX6_removeGear_111 : decode cX6_removeGear 111 = .ok (.getfield 7, 3) := by decide +kernel
theorem dX6_removeGear_114 : decode cX6_removeGear 114 = .ok (.iconst 0, 1) := by decide +kernel
theorem dX6_removeGear_115 : decode cX6_removeGear 115 = .ok (.dup2, 1) := by decide +kernel
theorem dX6_removeGear_116 : decode cX6_removeGear 116 = .ok (.iaload, 1) := by decide +kernel
theorem dX6_removeGear_117 : decode cX6_removeGear 117 = .ok (.iconst 1, 1) := by decide +kernel
theorem dX6_removeGear_118 : decode cX6_removeGear 118 = .ok (.isub, 1) := by decide +kernel
theorem dX6_removeGear_119 : decode cX6_removeGear 119 = .ok (.iastore, 1) := by decide +kernel
theorem dX6_removeGear_120 : decode cX6_removeGear 120 = .ok (.iconst 1, 1) := by decide +kernel
theorem dX6_removeGear_121 : decode cX6_removeGear 121 = .ok (.bipush 95, 2) := by decide +kernel
theorem dX6_removeGear_123 : decode cX6_removeGear 123 = .ok (.iload_n 1, 1) := by decide +kernel
theorem dX6_removeGear_124 : decode cX6_removeGear 124 = .ok (.imul, 1) := by decide +kernel
theorem dX6_removeGear_125 : decode cX6_removeGear 125 = .ok (.iadd, 1) := by decide +kernel
theorem dX6_removeGear_126 : decode cX6_removeGear 126 = .ok (.istore_n 3, 1) := by decide +kernel
theorem dX6_removeGear_127 : decode cX6_removeGear 127 = .ok (.iload_n 3, 1) := by decide +kernel
theorem dX6_removeGear_128 : decode cX6_removeGear 128 = .ok (.iconst 1, 1) := by decide +kernel
theorem dX6_removeGear_129 : decode cX6_removeGear 129 = .ok (.bipush 95, 2) := by decide +kernel
theorem dX6_removeGear_131 : decode cX6_removeGear 131 = .ok (.aload_n 0, 1) := by decide +kernel
theorem dX6_removeGear_132 : decode cX6_removeGear 132 = .ok (.getfield 7, 3) := by decide +kernel
theorem dX6_removeGear_135 : decode cX6_removeGear 135 = .ok (.iconst 0, 1) := by decide +kernel
theorem dX6_removeGear_136 : decode cX6_removeGear 136 = .ok (.iaload, 1) := by decide +kernel
theorem dX6_removeGear_137 : decode cX6_removeGear 137 = .ok (.imul, 1) := by decide +kernel
theorem dX6_removeGear_138 : decode cX6_removeGear 138 = .ok (.iadd, 1) := by decide +kernel
theorem dX6_removeGear_139 : decode cX6_removeGear 139 = .ok (.if_icmp .ge 24, 3) := by decide +kernel
theorem dX6_removeGear_142 : decode cX6_removeGear 142 = .ok (.aload_n 0, 1) := by decide +kernel
theorem dX6_removeGear_143 : decode cX6_removeGear 143 = .ok (.getfield 7, 3) := by decide +kernel
theorem dX6_removeGear_146 : decode cX6_removeGear 146 = .ok (.iload_n 3, 1) := by decide +kernel
theorem dX6_removeGear_147 : decode cX6_removeGear 147 = .ok (.aload_n 0, 1) := by decide +kernel
theorem dX6_removeGear_148 : decode cX6_removeGear 148 = .ok (.getfield 7, 3) := by decide +kernel
theorem dX6_removeGear_151 : decode cX6_removeGear 151 = .ok (.iload_n 3, 1) := by decide +kernel
theorem dX6_removeGear_152 : decode cX6_removeGear 152 = .ok (.bipush 95, 2) := by decide +kernel
theorem dX6_removeGear_154 : decode cX6_removeGear 154 = .ok (.iadd, 1) := by decide +kernel
theorem dX6_removeGear_155 : decode cX6_removeGear 155 = .ok (.iaload, 1) := by decide +kernel
theorem dX6_removeGear_156 : decode cX6_removeGear 156 = .ok (.iastore, 1) := by decide +kernel
theorem dX6_removeGear_157 : decode cX6_removeGear 157 = .ok (.iinc 3 1, 3) := by decide +kernel
theorem dX6_removeGear_160 : decode cX6_removeGear 160 = .ok (.goto (-33), 3) := by decide +kernel
theorem dX6_removeGear_163 : decode cX6_removeGear 163 = .ok (.aload_n 0, 1) := by decide +kernel
theorem dX6_removeGear_164 : decode cX6_removeGear 164 = .ok (.iload_n 2, 1) := by decide +kernel
theorem dX6_removeGear_165 : decode cX6_removeGear 165 = .ok (.invokevirtual 93, 3) := by decide +kernel
theorem dX6_removeGear_168 : decode cX6_removeGear 168 = .ok (.ireturn, 1) := by decide +kernel
theorem dX6_isValue_0 : decode cX6_isValue 0 = .ok (.iload_n 0, 1) := by decide +kernel
theorem dX6_isValue_1 : decode cX6_isValue 1 = .ok (.i2l, 1) := by decide +kernel
theorem dX6_isValue_2 : decode cX6_isValue 2 = .ok (.ldc2_w 103, 3) := by decide +kernel
theorem dX6_isValue_5 : decode cX6_isValue 5 = .ok (.ldc2_w 105, 3) := by decide +kernel
theorem dX6_isValue_8 : decode cX6_isValue 8 = .ok (.invokestatic 51, 3) := by decide +kernel
theorem dX6_isValue_11 : decode cX6_isValue 11 = .ok (.ireturn, 1) := by decide +kernel
theorem dX6_setReading_0 : decode cX6_setReading 0 = .ok (.aload_n 0, 1) := by decide +kernel
theorem dX6_setReading_1 : decode cX6_setReading 1 = .ok (.iload_n 1, 1) := by decide +kernel
theorem dX6_setReading_2 : decode cX6_setReading 2 = .ok (.iload_n 2, 1) := by decide +kernel
theorem dX6_setReading_3 : decode cX6_setReading 3 = .ok (.iload_n 3, 1) := by decide +kernel
theorem dX6_setReading_4 : decode cX6_setReading 4 = .ok (.invokevirtual 107, 3) := by decide +kernel
theorem dX6_setReading_7 : decode cX6_setReading 7 = .ok (.ifCond .ne 9, 3) := by decide +kernel
theorem dX6_setReading_10 : decode cX6_setReading 10 = .ok (.aload_n 0, 1) := by decide +kernel
theorem dX6_setReading_11 : decode cX6_setReading 11 = .ok (.iconst 1, 1) := by decide +kernel
theorem dX6_setReading_12 : decode cX6_setReading 12 = .ok (.invokevirtual 83, 3) := by decide +kernel
theorem dX6_setReading_15 : decode cX6_setReading 15 = .ok (.ireturn, 1) := by decide +kernel
theorem dX6_setReading_16 : decode cX6_setReading 16 = .ok (.iload 4, 2) := by decide +kernel
theorem dX6_setReading_18 : decode cX6_setReading 18 = .ok (.invokestatic 111, 3) := by decide +kernel
theorem dX6_setReading_21 : decode cX6_setReading 21 = .ok (.ifCond .ne 9, 3) := by decide +kernel
theorem dX6_setReading_24 : decode cX6_setReading 24 = .ok (.aload_n 0, 1) := by decide +kernel
theorem dX6_setReading_25 : decode cX6_setReading 25 = .ok (.iconst 2, 1) := by decide +kernel
theorem dX6_setReading_26 : decode cX6_setReading 26 = .ok (.invokevirtual 83, 3) := by decide +kernel
theorem dX6_setReading_29 : decode cX6_setReading 29 = .ok (.ireturn, 1) := by decide +kernel
theorem dX6_setReading_30 : decode cX6_setReading 30 = .ok (.aload_n 0, 1) := by decide +kernel
theorem dX6_setReading_31 : decode cX6_setReading 31 = .ok (.invokevirtual 86, 3) := by decide +kernel
theorem dX6_setReading_34 : decode cX6_setReading 34 = .ok (.aload_n 0, 1) := by decide +kernel
theorem dX6_setReading_35 : decode cX6_setReading 35 = .ok (.iload_n 1, 1) := by decide +kernel
theorem dX6_setReading_36 : decode cX6_setReading 36 = .ok (.iload_n 2, 1) := by decide +kernel
theorem dX6_setReading_37 : decode cX6_setReading 37 = .ok (.iload_n 3, 1) := by decide +kernel
theorem dX6_setReading_38 : decode cX6_setReading 38 = .ok (.invokevirtual 70, 3) := by decide +kernel
theorem dX6_setReading_41 : decode cX6_setReading 41 = .ok (.istore 5, 2) := by decide +kernel
theorem dX6_setReading_43 : decode cX6_setReading 43 = .ok (.aload_n 0, 1) := by decide +kernel
theorem dX6_setReading_44 : decode cX6_setReading 44 = .ok (.getfield 7, 3) := by decide +kernel
theorem dX6_setReading_47 : decode cX6_setReading 47 = .ok (.iload_n 1, 1) := by decide +kernel
theorem dX6_setReading_48 : decode cX6_setReading 48 = .ok (.iload_n 2, 1) := by decide +kernel
theorem dX6_setReading_49 : decode cX6_setReading 49 = .ok (.iload_n 3, 1) := by decide +kernel
theorem dX6_setReading_50 : decode cX6_setReading 50 = .ok (.invokestatic 55, 3) := by decide +kernel
theorem dX6_setReading_53 : decode cX6_setReading 53 = .ok (.iload 4, 2) := by decide +kernel
theorem dX6_setReading_55 : decode cX6_setReading 55 = .ok (.iastore, 1) := by decide +kernel
theorem dX6_setReading_56 : decode cX6_setReading 56 = .ok (.aload_n 0, 1) := by decide +kernel
theorem dX6_setReading_57 : decode cX6_setReading 57 = .ok (.iload 5, 2) := by decide +kernel
theorem dX6_setReading_59 : decode cX6_setReading 59 = .ok (.invokevirtual 93, 3) := by decide +kernel
theorem dX6_setReading_62 : decode cX6_setReading 62 = .ok (.ireturn, 1) := by decide +kernel
theorem dX6_fill_0 : decode cX6_fill 0 = .ok (.aload_n 0, 1) := by decide +kernel
theorem dX6_fill_1 : decode cX6_fill 1 = .ok (.iload_n 1, 1) := by decide +kernel
theorem dX6_fill_2 : decode cX6_fill 2 = .ok (.invokevirtual 62, 3) := by decide +kernel
theorem dX6_fill_5 : decode cX6_fill 5 = .ok (.ifCond .ne 9, 3) := by decide +kernel
theorem dX6_fill_8 : decode cX6_fill 8 = .ok (.aload_n 0, 1) := by decide +kernel
theorem dX6_fill_9 : decode cX6_fill 9 = .ok (.iconst 1, 1) := by decide +kernel
theorem dX6_fill_10 : decode cX6_fill 10 = .ok (.invokevirtual 83, 3) := by decide +kernel
theorem dX6_fill_13 : decode cX6_fill 13 = .ok (.ireturn, 1) := by decide +kernel
theorem dX6_fill_14 : decode cX6_fill 14 = .ok (.iload_n 2, 1) := by decide +kernel
theorem dX6_fill_15 : decode cX6_fill 15 = .ok (.i2l, 1) := by decide +kernel
theorem dX6_fill_16 : decode cX6_fill 16 = .ok (.lconst 0, 1) := by decide +kernel
theorem dX6_fill_17 : decode cX6_fill 17 = .ok (.ldc2_w 114, 3) := by decide +kernel
theorem dX6_fill_20 : decode cX6_fill 20 = .ok (.invokestatic 51, 3) := by decide +kernel
theorem dX6_fill_23 : decode cX6_fill 23 = .ok (.ifCond .eq 15, 3) := by decide +kernel
theorem dX6_fill_26 : decode cX6_fill 26 = .ok (.iload_n 3, 1) := by decide +kernel
theorem dX6_fill_27 : decode cX6_fill 27 = .ok (.i2l, 1) := by decide +kernel
theorem dX6_fill_28 : decode cX6_fill 28 = .ok (.lconst 0, 1) := by decide +kernel
theorem dX6_fill_29 : decode cX6_fill 29 = .ok (.ldc2_w 105, 3) := by decide +kernel
theorem dX6_fill_32 : decode cX6_fill 32 = .ok (.invokestatic 51, 3) := by decide +kernel
theorem dX6_fill_35 : decode cX6_fill 35 = .ok (.ifCond .ne 9, 3) := by decide +kernel
theorem dX6_fill_38 : decode cX6_fill 38 = .ok (.aload_n 0, 1) := by decide +kernel
theorem dX6_fill_39 : decode cX6_fill 39 = .ok (.iconst 2, 1) := by decide +kernel
theorem dX6_fill_40 : decode cX6_fill 40 = .ok (.invokevirtual 83, 3) := by decide +kernel
theorem dX6_fill_43 : decode cX6_fill 43 = .ok (.ireturn, 1) := by decide +kernel
theorem dX6_fill_44 : decode cX6_fill 44 = .ok (.aload_n 0, 1) := by decide +kernel
theorem dX6_fill_45 : decode cX6_fill 45 = .ok (.invokevirtual 86, 3) := by decide +kernel
theorem dX6_fill_48 : decode cX6_fill 48 = .ok (.iload_n 2, 1) := by decide +kernel
theorem dX6_fill_49 : decode cX6_fill 49 = .ok (.i2l, 1) := by decide +kernel
theorem dX6_fill_50 : decode cX6_fill 50 = .ok (.lstore 4, 2) := by decide +kernel
theorem dX6_fill_52 : decode cX6_fill 52 = .ok (.iconst 0, 1) := by decide +kernel
theorem dX6_fill_53 : decode cX6_fill 53 = .ok (.istore 6, 2) := by decide +kernel
theorem dX6_fill_55 : decode cX6_fill 55 = .ok (.iload 6, 2) := by decide +kernel
theorem dX6_fill_57 : decode cX6_fill 57 = .ok (.iconst 3, 1) := by decide +kernel
theorem dX6_fill_58 : decode cX6_fill 58 = .ok (.if_icmp .ge 77, 3) := by decide +kernel
theorem dX6_fill_61 : decode cX6_fill 61 = .ok (.iconst 0, 1) := by decide +kernel
theorem dX6_fill_62 : decode cX6_fill 62 = .ok (.istore 7, 2) := by decide +kernel
theorem dX6_fill_64 : decode cX6_fill 64 = .ok (.iload 7, 2) := by decide +kernel
theorem dX6_fill_66 : decode cX6_fill 66 = .ok (.aload_n 0, 1) := by decide +kernel
theorem dX6_fill_67 : decode cX6_fill 67 = .ok (.iload_n 1, 1) := by decide +kernel
theorem dX6_fill_68 : decode cX6_fill 68 = .ok (.iload 6, 2) := by decide +kernel
theorem dX6_fill_70 : decode cX6_fill 70 = .ok (.invokevirtual 66, 3) := by decide +kernel
theorem dX6_fill_73 : decode cX6_fill 73 = .ok (.if_icmp .ge 56, 3) := by decide +kernel
theorem dX6_fill_76 : decode cX6_fill 76 = .ok (.ldc2_w 116, 3) := by decide +kernel
theorem dX6_fill_79 : decode cX6_fill 79 = .ok (.lload 4, 2) := by decide +kernel
theorem dX6_fill_81 : decode cX6_fill 81 = .ok (.lmul, 1) := by decide +kernel
theorem dX6_fill_82 : decode cX6_fill 82 = .ok (.ldc2_w 118, 3) := by decide +kernel
theorem dX6_fill_85 : decode cX6_fill 85 = .ok (.ladd, 1) := by decide +kernel
theorem dX6_fill_86 : decode cX6_fill 86 = .ok (.ldc2_w 120, 3) := by decide +kernel
theorem dX6_fill_89 : decode cX6_fill 89 = .ok (.lrem, 1) := by decide +kernel
theorem dX6_fill_90 : decode cX6_fill 90 = .ok (.lstore 4, 2) := by decide +kernel
theorem dX6_fill_92 : decode cX6_fill 92 = .ok (.aload_n 0, 1) := by decide +kernel
theorem dX6_fill_93 : decode cX6_fill 93 = .ok (.getfield 7, 3) := by decide +kernel
theorem dX6_fill_96 : decode cX6_fill 96 = .ok (.iload_n 1, 1) := by decide +kernel
theorem dX6_fill_97 : decode cX6_fill 97 = .ok (.iload 6, 2) := by decide +kernel
theorem dX6_fill_99 : decode cX6_fill 99 = .ok (.iload 7, 2) := by decide +kernel
theorem dX6_fill_101 : decode cX6_fill 101 = .ok (.invokestatic 55, 3) := by decide +kernel
theorem dX6_fill_104 : decode cX6_fill 104 = .ok (.lload 4, 2) := by decide +kernel
theorem dX6_fill_106 : decode cX6_fill 106 = .ok (.ldc2_w 122, 3) := by decide +kernel
theorem dX6_fill_109 : decode cX6_fill 109 = .ok (.ldiv, 1) := by decide +kernel
theorem dX6_fill_110 : decode cX6_fill 110 = .ok (.ldc2_w 45, 3) := by decide +kernel
theorem dX6_fill_113 : decode cX6_fill 113 = .ok (.iload_n 3, 1) := by decide +kernel
theorem dX6_fill_114 : decode cX6_fill 114 = .ok (.i2l, 1) := by decide +kernel
theorem dX6_fill_115 : decode cX6_fill 115 = .ok (.lmul, 1) := by decide +kernel
theorem dX6_fill_116 : decode cX6_fill 116 = .ok (.lconst 1, 1) := by decide +kernel
theorem dX6_fill_117 : decode cX6_fill 117 = .ok (.ladd, 1) := by decide +kernel
theorem dX6_fill_118 : decode cX6_fill 118 = .ok (.lrem, 1) := by decide +kernel
theorem dX6_fill_119 : decode cX6_fill 119 = .ok (.l2i, 1) := by decide +kernel
theorem dX6_fill_120 : decode cX6_fill 120 = .ok (.iload_n 3, 1) := by decide +kernel
theorem dX6_fill_121 : decode cX6_fill 121 = .ok (.isub, 1) := by decide +kernel
theorem dX6_fill_122 : decode cX6_fill 122 = .ok (.iastore, 1) := by decide +kernel
theorem dX6_fill_123 : decode cX6_fill 123 = .ok (.iinc 7 1, 3) := by decide +kernel
theorem dX6_fill_126 : decode cX6_fill 126 = .ok (.goto (-62), 3) := by decide +kernel
theorem dX6_fill_129 : decode cX6_fill 129 = .ok (.iinc 6 1, 3) := by decide +kernel
theorem dX6_fill_132 : decode cX6_fill 132 = .ok (.goto (-77), 3) := by decide +kernel
theorem dX6_fill_135 : decode cX6_fill 135 = .ok (.aload_n 0, 1) := by decide +kernel
theorem dX6_fill_136 : decode cX6_fill 136 = .ok (.aload_n 0, 1) := by decide +kernel
theorem dX6_fill_137 : decode cX6_fill 137 = .ok (.iload_n 1, 1) := by decide +kernel
theorem dX6_fill_138 : decode cX6_fill 138 = .ok (.iconst 0, 1) := by decide +kernel
theorem dX6_fill_139 : decode cX6_fill 139 = .ok (.invokevirtual 124, 3) := by decide +kernel
theorem dX6_fill_142 : decode cX6_fill 142 = .ok (.invokevirtual 93, 3) := by decide +kernel
theorem dX6_fill_145 : decode cX6_fill 145 = .ok (.ireturn, 1) := by decide +kernel
theorem dX6_goes_0 : decode cX6_goes 0 = .ok (.aload_n 0, 1) := by decide +kernel
theorem dX6_goes_1 : decode cX6_goes 1 = .ok (.iload_n 1, 1) := by decide +kernel
theorem dX6_goes_2 : decode cX6_goes 2 = .ok (.invokevirtual 59, 3) := by decide +kernel
theorem dX6_goes_5 : decode cX6_goes 5 = .ok (.istore 4, 2) := by decide +kernel
theorem dX6_goes_7 : decode cX6_goes 7 = .ok (.iload_n 2, 1) := by decide +kernel
theorem dX6_goes_8 : decode cX6_goes 8 = .ok (.iconst 2, 1) := by decide +kernel
theorem dX6_goes_9 : decode cX6_goes 9 = .ok (.if_icmp .ne 7, 3) := by decide +kernel
theorem dX6_goes_12 : decode cX6_goes 12 = .ok (.iconst 0, 1) := by decide +kernel
theorem dX6_goes_13 : decode cX6_goes 13 = .ok (.goto 27, 3) := by decide +kernel
theorem dX6_goes_16 : decode cX6_goes 16 = .ok (.aload_n 0, 1) := by decide +kernel
theorem dX6_goes_17 : decode cX6_goes 17 = .ok (.getfield 16, 3) := by decide +kernel
theorem dX6_goes_20 : decode cX6_goes 20 = .ok (.iload_n 1, 1) := by decide +kernel
theorem dX6_goes_21 : decode cX6_goes 21 = .ok (.iload_n 2, 1) := by decide +kernel
theorem dX6_goes_22 : decode cX6_goes 22 = .ok (.iload 4, 2) := by decide +kernel
theorem dX6_goes_24 : decode cX6_goes 24 = .ok (.invokestatic 55, 3) := by decide +kernel
theorem dX6_goes_27 : decode cX6_goes 27 = .ok (.iaload, 1) := by decide +kernel
theorem dX6_goes_28 : decode cX6_goes 28 = .ok (.aload_n 0, 1) := by decide +kernel
theorem dX6_goes_29 : decode cX6_goes 29 = .ok (.getfield 16, 3) := by decide +kernel
theorem dX6_goes_32 : decode cX6_goes 32 = .ok (.iload_n 1, 1) := by decide +kernel
theorem dX6_goes_33 : decode cX6_goes 33 = .ok (.iload_n 2, 1) := by decide +kernel
theorem dX6_goes_34 : decode cX6_goes 34 = .ok (.iconst 0, 1) := by decide +kernel
theorem dX6_goes_35 : decode cX6_goes 35 = .ok (.invokestatic 55, 3) := by decide +kernel
theorem dX6_goes_38 : decode cX6_goes 38 = .ok (.iaload, 1) := by decide +kernel
theorem dX6_goes_39 : decode cX6_goes 39 = .ok (.isub, 1) := by decide +kernel
theorem dX6_goes_40 : decode cX6_goes 40 = .ok (.istore 5, 2) := by decide +kernel
theorem dX6_goes_42 : decode cX6_goes 42 = .ok (.iconst 1, 1) := by decide +kernel
theorem dX6_goes_43 : decode cX6_goes 43 = .ok (.istore 6, 2) := by decide +kernel
theorem dX6_goes_45 : decode cX6_goes 45 = .ok (.iconst 0, 1) := by decide +kernel
theorem dX6_goes_46 : decode cX6_goes 46 = .ok (.istore 7, 2) := by decide +kernel
theorem dX6_goes_48 : decode cX6_goes 48 = .ok (.iload 7, 2) := by decide +kernel
theorem dX6_goes_50 : decode cX6_goes 50 = .ok (.aload_n 0, 1) := by decide +kernel
theorem dX6_goes_51 : decode cX6_goes 51 = .ok (.iload_n 1, 1) := by decide +kernel
theorem dX6_goes_52 : decode cX6_goes 52 = .ok (.iload_n 2, 1) := by decide +kernel
theorem dX6_goes_53 : decode cX6_goes 53 = .ok (.invokevirtual 66, 3) := by decide +kernel
theorem dX6_goes_56 : decode cX6_goes 56 = .ok (.if_icmp .ge 92, 3) := by decide +kernel
theorem dX6_goes_59 : decode cX6_goes 59 = .ok (.iload_n 3, 1) := by decide +kernel
theorem dX6_goes_60 : decode cX6_goes 60 = .ok (.iload 7, 2) := by decide +kernel
theorem dX6_goes_62 : decode cX6_goes 62 = .ok (.iadd, 1) := by decide +kernel
theorem dX6_goes_63 : decode cX6_goes 63 = .ok (.istore 8, 2) := by decide +kernel
theorem dX6_goes_65 : decode cX6_goes 65 = .ok (.aload_n 0, 1) := by decide +kernel
theorem dX6_goes_66 : decode cX6_goes 66 = .ok (.getfield 16, 3) := by decide +kernel
theorem dX6_goes_69 : decode cX6_goes 69 = .ok (.iload_n 1, 1) := by decide +kernel
theorem dX6_goes_70 : decode cX6_goes 70 = .ok (.iload_n 2, 1) := by decide +kernel
theorem dX6_goes_71 : decode cX6_goes 71 = .ok (.iload 8, 2) := by decide +kernel
theorem dX6_goes_73 : decode cX6_goes 73 = .ok (.iload 4, 2) := by decide +kernel
theorem dX6_goes_75 : decode cX6_goes 75 = .ok (.if_icmp .ge 8, 3) := by decide +kernel
theorem dX6_goes_78 : decode cX6_goes 78 = .ok (.iload 8, 2) := by decide +kernel
theorem dX6_goes_80 : decode cX6_goes 80 = .ok (.goto 8, 3) := by decide +kernel
theorem dX6_goes_83 : decode cX6_goes 83 = .ok (.iload 8, 2) := by decide +kernel
theorem dX6_goes_85 : decode cX6_goes 85 = .ok (.iload 4, 2) := by decide +kernel
theorem dX6_goes_87 : decode cX6_goes 87 = .ok (.isub, 1) := by decide +kernel
theorem dX6_goes_88 : decode cX6_goes 88 = .ok (.invokestatic 55, 3) := by decide +kernel
theorem dX6_goes_91 : decode cX6_goes 91 = .ok (.iaload, 1) := by decide +kernel
theorem dX6_goes_92 : decode cX6_goes 92 = .ok (.iload 8, 2) := by decide +kernel
theorem dX6_goes_94 : decode cX6_goes 94 = .ok (.iload 4, 2) := by decide +kernel
theorem dX6_goes_96 : decode cX6_goes 96 = .ok (.if_icmp .ge 7, 3) := by decide +kernel
theorem dX6_goes_99 : decode cX6_goes 99 = .ok (.iconst 0, 1) := by decide +kernel
theorem dX6_goes_100 : decode cX6_goes 100 = .ok (.goto 5, 3) := by decide +kernel
theorem dX6_goes_103 : decode cX6_goes 103 = .ok (.iload 5, 2) := by decide +kernel
theorem dX6_goes_105 : decode cX6_goes 105 = .ok (.iadd, 1) := by decide +kernel
theorem dX6_goes_106 : decode cX6_goes 106 = .ok (.istore 9, 2) := by decide +kernel
theorem dX6_goes_108 : decode cX6_goes 108 = .ok (.aload_n 0, 1) := by decide +kernel
theorem dX6_goes_109 : decode cX6_goes 109 = .ok (.getfield 7, 3) := by decide +kernel
theorem dX6_goes_112 : decode cX6_goes 112 = .ok (.iload_n 1, 1) := by decide +kernel
theorem dX6_goes_113 : decode cX6_goes 113 = .ok (.iload_n 2, 1) := by decide +kernel
theorem dX6_goes_114 : decode cX6_goes 114 = .ok (.iload 7, 2) := by decide +kernel
theorem dX6_goes_116 : decode cX6_goes 116 = .ok (.invokestatic 55, 3) := by decide +kernel
theorem dX6_goes_119 : decode cX6_goes 119 = .ok (.iload 9, 2) := by decide +kernel
theorem dX6_goes_121 : decode cX6_goes 121 = .ok (.iastore, 1) := by decide +kernel
theorem dX6_goes_122 : decode cX6_goes 122 = .ok (.iload 6, 2) := by decide +kernel
theorem dX6_goes_124 : decode cX6_goes 124 = .ok (.ifCond .eq 15, 3) := by decide +kernel
theorem dX6_goes_127 : decode cX6_goes 127 = .ok (.iload 9, 2) := by decide +kernel
theorem dX6_goes_129 : decode cX6_goes 129 = .ok (.invokestatic 111, 3) := by decide +kernel
theorem dX6_goes_132 : decode cX6_goes 132 = .ok (.ifCond .eq 7, 3) := by decide +kernel
theorem dX6_goes_135 : decode cX6_goes 135 = .ok (.iconst 1, 1) := by decide +kernel
theorem dX6_goes_136 : decode cX6_goes 136 = .ok (.goto 4, 3) := by decide +kernel
theorem dX6_goes_139 : decode cX6_goes 139 = .ok (.iconst 0, 1) := by decide +kernel
theorem dX6_goes_140 : decode cX6_goes 140 = .ok (.istore 6, 2) := by decide +kernel
theorem dX6_goes_142 : decode cX6_goes 142 = .ok (.iinc 7 1, 3) := by decide +kernel
theorem dX6_goes_145 : decode cX6_goes 145 = .ok (.goto (-97), 3) := by decide +kernel
theorem dX6_goes_148 : decode cX6_goes 148 = .ok (.iload 6, 2) := by decide +kernel
theorem dX6_goes_150 : decode cX6_goes 150 = .ok (.ireturn, 1) := by decide +kernel
theorem dX6_turn_0 : decode cX6_turn 0 = .ok (.aload_n 0, 1) := by decide +kernel
theorem dX6_turn_1 : decode cX6_turn 1 = .ok (.iload_n 1, 1) := by decide +kernel
theorem dX6_turn_2 : decode cX6_turn 2 = .ok (.invokevirtual 62, 3) := by decide +kernel
theorem dX6_turn_5 : decode cX6_turn 5 = .ok (.ifCond .eq 20, 3) := by decide +kernel
theorem dX6_turn_8 : decode cX6_turn 8 = .ok (.iload_n 2, 1) := by decide +kernel
theorem dX6_turn_9 : decode cX6_turn 9 = .ok (.i2l, 1) := by decide +kernel
theorem dX6_turn_10 : decode cX6_turn 10 = .ok (.lconst 0, 1) := by decide +kernel
theorem dX6_turn_11 : decode cX6_turn 11 = .ok (.aload_n 0, 1) := by decide +kernel
theorem dX6_turn_12 : decode cX6_turn 12 = .ok (.iload_n 1, 1) := by decide +kernel
theorem dX6_turn_13 : decode cX6_turn 13 = .ok (.invokevirtual 59, 3) := by decide +kernel
theorem dX6_turn_16 : decode cX6_turn 16 = .ok (.iconst 1, 1) := by decide +kernel
theorem dX6_turn_17 : decode cX6_turn 17 = .ok (.isub, 1) := by decide +kernel
theorem dX6_turn_18 : decode cX6_turn 18 = .ok (.i2l, 1) := by decide +kernel
theorem dX6_turn_19 : decode cX6_turn 19 = .ok (.invokestatic 51, 3) := by decide +kernel
theorem dX6_turn_22 : decode cX6_turn 22 = .ok (.ifCond .ne 9, 3) := by decide +kernel
theorem dX6_turn_25 : decode cX6_turn 25 = .ok (.aload_n 0, 1) := by decide +kernel
theorem dX6_turn_26 : decode cX6_turn 26 = .ok (.iconst 1, 1) := by decide +kernel
theorem dX6_turn_27 : decode cX6_turn 27 = .ok (.invokevirtual 83, 3) := by decide +kernel
theorem dX6_turn_30 : decode cX6_turn 30 = .ok (.ireturn, 1) := by decide +kernel
theorem dX6_turn_31 : decode cX6_turn 31 = .ok (.aload_n 0, 1) := by decide +kernel
theorem dX6_turn_32 : decode cX6_turn 32 = .ok (.invokevirtual 86, 3) := by decide +kernel
theorem dX6_turn_35 : decode cX6_turn 35 = .ok (.aload_n 0, 1) := by decide +kernel
theorem dX6_turn_36 : decode cX6_turn 36 = .ok (.iload_n 1, 1) := by decide +kernel
theorem dX6_turn_37 : decode cX6_turn 37 = .ok (.iconst 0, 1) := by decide +kernel
theorem dX6_turn_38 : decode cX6_turn 38 = .ok (.iload_n 2, 1) := by decide +kernel
theorem dX6_turn_39 : decode cX6_turn 39 = .ok (.invokevirtual 127, 3) := by decide +kernel
theorem dX6_turn_42 : decode cX6_turn 42 = .ok (.istore_n 3, 1) := by decide +kernel
theorem dX6_turn_43 : decode cX6_turn 43 = .ok (.aload_n 0, 1) := by decide +kernel
theorem dX6_turn_44 : decode cX6_turn 44 = .ok (.iload_n 1, 1) := by decide +kernel
theorem dX6_turn_45 : decode cX6_turn 45 = .ok (.iconst 1, 1) := by decide +kernel
theorem dX6_turn_46 : decode cX6_turn 46 = .ok (.iload_n 2, 1) := by decide +kernel
theorem dX6_turn_47 : decode cX6_turn 47 = .ok (.invokevirtual 127, 3) := by decide +kernel
theorem dX6_turn_50 : decode cX6_turn 50 = .ok (.istore 4, 2) := by decide +kernel
theorem dX6_turn_52 : decode cX6_turn 52 = .ok (.aload_n 0, 1) := by decide +kernel
theorem dX6_turn_53 : decode cX6_turn 53 = .ok (.iload_n 1, 1) := by decide +kernel
theorem dX6_turn_54 : decode cX6_turn 54 = .ok (.iconst 2, 1) := by decide +kernel
theorem dX6_turn_55 : decode cX6_turn 55 = .ok (.iload_n 2, 1) := by decide +kernel
theorem dX6_turn_56 : decode cX6_turn 56 = .ok (.invokevirtual 127, 3) := by decide +kernel
theorem dX6_turn_59 : decode cX6_turn 59 = .ok (.istore 5, 2) := by decide +kernel
theorem dX6_turn_61 : decode cX6_turn 61 = .ok (.iload_n 3, 1) := by decide +kernel
theorem dX6_turn_62 : decode cX6_turn 62 = .ok (.ifCond .eq 13, 3) := by decide +kernel
theorem dX6_turn_65 : decode cX6_turn 65 = .ok (.iload 4, 2) := by decide +kernel
theorem dX6_turn_67 : decode cX6_turn 67 = .ok (.ifCond .eq 8, 3) := by decide +kernel
theorem dX6_turn_70 : decode cX6_turn 70 = .ok (.iload 5, 2) := by decide +kernel
theorem dX6_turn_72 : decode cX6_turn 72 = .ok (.ifCond .ne 13, 3) := by decide +kernel
theorem dX6_turn_75 : decode cX6_turn 75 = .ok (.aload_n 0, 1) := by decide +kernel
theorem dX6_turn_76 : decode cX6_turn 76 = .ok (.invokevirtual 130, 3) := by decide +kernel
theorem dX6_turn_79 : decode cX6_turn 79 = .ok (.aload_n 0, 1) := by decide +kernel
theorem dX6_turn_80 : decode cX6_turn 80 = .ok (.iconst 2, 1) := by decide +kernel
theorem dX6_turn_81 : decode cX6_turn 81 = .ok (.invokevirtual 83, 3) := by decide +kernel
theorem dX6_turn_84 : decode cX6_turn 84 = .ok (.ireturn, 1) := by decide +kernel
theorem dX6_turn_85 : decode cX6_turn 85 = .ok (.aload_n 0, 1) := by decide +kernel
theorem dX6_turn_86 : decode cX6_turn 86 = .ok (.aload_n 0, 1) := by decide +kernel
theorem dX6_turn_87 : decode cX6_turn 87 = .ok (.iload_n 1, 1) := by decide +kernel
theorem dX6_turn_88 : decode cX6_turn 88 = .ok (.iconst 0, 1) := by decide +kernel
theorem dX6_turn_89 : decode cX6_turn 89 = .ok (.iconst 0, 1) := by decide +kernel
theorem dX6_turn_90 : decode cX6_turn 90 = .ok (.invokevirtual 70, 3) := by decide +kernel
theorem dX6_turn_93 : decode cX6_turn 93 = .ok (.invokevirtual 93, 3) := by decide +kernel
theorem dX6_turn_96 : decode cX6_turn 96 = .ok (.ireturn, 1) := by decide +kernel
theorem dX6_gears_0 : decode cX6_gears 0 = .ok (.aload_n 0, 1) := by decide +kernel
theorem dX6_gears_1 : decode cX6_gears 1 = .ok (.aload_n 0, 1) := by decide +kernel
theorem dX6_gears_2 : decode cX6_gears 2 = .ok (.getfield 7, 3) := by decide +kernel
theorem dX6_gears_5 : decode cX6_gears 5 = .ok (.iconst 0, 1) := by decide +kernel
theorem dX6_gears_6 : decode cX6_gears 6 = .ok (.iaload, 1) := by decide +kernel
theorem dX6_gears_7 : decode cX6_gears 7 = .ok (.invokevirtual 41, 3) := by decide +kernel
theorem dX6_gears_10 : decode cX6_gears 10 = .ok (.ireturn, 1) := by decide +kernel
theorem dX6_linesOf_0 : decode cX6_linesOf 0 = .ok (.iconst 0, 1) := by decide +kernel
theorem dX6_linesOf_1 : decode cX6_linesOf 1 = .ok (.istore_n 2, 1) := by decide +kernel
theorem dX6_linesOf_2 : decode cX6_linesOf 2 = .ok (.iconst 0, 1) := by decide +kernel
theorem dX6_linesOf_3 : decode cX6_linesOf 3 = .ok (.istore_n 3, 1) := by decide +kernel
theorem dX6_linesOf_4 : decode cX6_linesOf 4 = .ok (.iload_n 3, 1) := by decide +kernel
theorem dX6_linesOf_5 : decode cX6_linesOf 5 = .ok (.aload_n 0, 1) := by decide +kernel
theorem dX6_linesOf_6 : decode cX6_linesOf 6 = .ok (.getfield 7, 3) := by decide +kernel
theorem dX6_linesOf_9 : decode cX6_linesOf 9 = .ok (.sipush 571, 3) := by decide +kernel
theorem dX6_linesOf_12 : decode cX6_linesOf 12 = .ok (.iaload, 1) := by decide +kernel
theorem dX6_linesOf_13 : decode cX6_linesOf 13 = .ok (.if_icmp .ge 27, 3) := by decide +kernel
theorem dX6_linesOf_16 : decode cX6_linesOf 16 = .ok (.iload_n 2, 1) := by decide +kernel
theorem dX6_linesOf_17 : decode cX6_linesOf 17 = .ok (.aload_n 0, 1) := by decide +kernel
theorem dX6_linesOf_18 : decode cX6_linesOf 18 = .ok (.iload_n 3, 1) := by decide +kernel
theorem dX6_linesOf_19 : decode cX6_linesOf 19 = .ok (.iconst 0, 1) := by decide +kernel
theorem dX6_linesOf_20 : decode cX6_linesOf 20 = .ok (.invokevirtual 96, 3) := by decide +kernel
theorem dX6_linesOf_23 : decode cX6_linesOf 23 = .ok (.iload_n 1, 1) := by decide +kernel
theorem dX6_linesOf_24 : decode cX6_linesOf 24 = .ok (.if_icmp .ne 7, 3) := by decide +kernel
theorem dX6_linesOf_27 : decode cX6_linesOf 27 = .ok (.iconst 1, 1) := by decide +kernel
theorem dX6_linesOf_28 : decode cX6_linesOf 28 = .ok (.goto 4, 3) := by decide +kernel
theorem dX6_linesOf_31 : decode cX6_linesOf 31 = .ok (.iconst 0, 1) := by decide +kernel
theorem dX6_linesOf_32 : decode cX6_linesOf 32 = .ok (.iadd, 1) := by decide +kernel
theorem dX6_linesOf_33 : decode cX6_linesOf 33 = .ok (.istore_n 2, 1) := by decide +kernel
theorem dX6_linesOf_34 : decode cX6_linesOf 34 = .ok (.iinc 3 1, 3) := by decide +kernel
theorem dX6_linesOf_37 : decode cX6_linesOf 37 = .ok (.goto (-33), 3) := by decide +kernel
theorem dX6_linesOf_40 : decode cX6_linesOf 40 = .ok (.iload_n 2, 1) := by decide +kernel
theorem dX6_linesOf_41 : decode cX6_linesOf 41 = .ok (.ireturn, 1) := by decide +kernel
theorem dX6_told_0 : decode cX6_told 0 = .ok (.iload_n 2, 1) := by decide +kernel
theorem dX6_told_1 : decode cX6_told 1 = .ok (.tableswitch 56 0 3 #[31, 37, 43, 49], 31) := by decide +kernel
theorem dX6_told_32 : decode cX6_told 32 = .ok (.aload_n 0, 1) := by decide +kernel
theorem dX6_told_33 : decode cX6_told 33 = .ok (.iload_n 1, 1) := by decide +kernel
theorem dX6_told_34 : decode cX6_told 34 = .ok (.invokevirtual 59, 3) := by decide +kernel
theorem dX6_told_37 : decode cX6_told 37 = .ok (.ireturn, 1) := by decide +kernel
theorem dX6_told_38 : decode cX6_told 38 = .ok (.aload_n 0, 1) := by decide +kernel
theorem dX6_told_39 : decode cX6_told 39 = .ok (.iload_n 1, 1) := by decide +kernel
theorem dX6_told_40 : decode cX6_told 40 = .ok (.invokevirtual 133, 3) := by decide +kernel
theorem dX6_told_43 : decode cX6_told 43 = .ok (.ireturn, 1) := by decide +kernel
theorem dX6_told_44 : decode cX6_told 44 = .ok (.aload_n 0, 1) := by decide +kernel
theorem dX6_told_45 : decode cX6_told 45 = .ok (.iload_n 1, 1) := by decide +kernel
theorem dX6_told_46 : decode cX6_told 46 = .ok (.invokevirtual 136, 3) := by decide +kernel
theorem dX6_told_49 : decode cX6_told 49 = .ok (.ireturn, 1) := by decide +kernel
theorem dX6_told_50 : decode cX6_told 50 = .ok (.aload_n 0, 1) := by decide +kernel
theorem dX6_told_51 : decode cX6_told 51 = .ok (.iload_n 1, 1) := by decide +kernel
theorem dX6_told_52 : decode cX6_told 52 = .ok (.iconst (-1), 1) := by decide +kernel
theorem dX6_told_53 : decode cX6_told 53 = .ok (.invokevirtual 139, 3) := by decide +kernel
theorem dX6_told_56 : decode cX6_told 56 = .ok (.ireturn, 1) := by decide +kernel
theorem dX6_told_57 : decode cX6_told 57 = .ok (.aload_n 0, 1) := by decide +kernel
theorem dX6_told_58 : decode cX6_told 58 = .ok (.iload_n 1, 1) := by decide +kernel
theorem dX6_told_59 : decode cX6_told 59 = .ok (.iload_n 2, 1) := by decide +kernel
theorem dX6_told_60 : decode cX6_told 60 = .ok (.iconst 4, 1) := by decide +kernel
theorem dX6_told_61 : decode cX6_told 61 = .ok (.isub, 1) := by decide +kernel
theorem dX6_told_62 : decode cX6_told 62 = .ok (.invokevirtual 124, 3) := by decide +kernel
theorem dX6_told_65 : decode cX6_told 65 = .ok (.ireturn, 1) := by decide +kernel
theorem dX6_gear_0 : decode cX6_gear 0 = .ok (.aload_n 0, 1) := by decide +kernel
theorem dX6_gear_1 : decode cX6_gear 1 = .ok (.iload_n 1, 1) := by decide +kernel
theorem dX6_gear_2 : decode cX6_gear 2 = .ok (.invokevirtual 62, 3) := by decide +kernel
theorem dX6_gear_5 : decode cX6_gear 5 = .ok (.ifCond .ne 9, 3) := by decide +kernel
theorem dX6_gear_8 : decode cX6_gear 8 = .ok (.aload_n 0, 1) := by decide +kernel
theorem dX6_gear_9 : decode cX6_gear 9 = .ok (.iconst 1, 1) := by decide +kernel
theorem dX6_gear_10 : decode cX6_gear 10 = .ok (.invokevirtual 83, 3) := by decide +kernel
theorem dX6_gear_13 : decode cX6_gear 13 = .ok (.ireturn, 1) := by decide +kernel
theorem dX6_gear_14 : decode cX6_gear 14 = .ok (.iload_n 2, 1) := by decide +kernel
theorem dX6_gear_15 : decode cX6_gear 15 = .ok (.i2l, 1) := by decide +kernel
theorem dX6_gear_16 : decode cX6_gear 16 = .ok (.lconst 0, 1) := by decide +kernel
theorem dX6_gear_17 : decode cX6_gear 17 = .ok (.ldc2_w 73, 3) := by decide +kernel
theorem dX6_gear_20 : decode cX6_gear 20 = .ok (.invokestatic 51, 3) := by decide +kernel
theorem dX6_gear_23 : decode cX6_gear 23 = .ok (.ifCond .eq 16, 3) := by decide +kernel
theorem dX6_gear_26 : decode cX6_gear 26 = .ok (.aload_n 0, 1) := by decide +kernel
theorem dX6_gear_27 : decode cX6_gear 27 = .ok (.aload_n 0, 1) := by decide +kernel
theorem dX6_gear_28 : decode cX6_gear 28 = .ok (.iload_n 1, 1) := by decide +kernel
theorem dX6_gear_29 : decode cX6_gear 29 = .ok (.iload_n 2, 1) := by decide +kernel
theorem dX6_gear_30 : decode cX6_gear 30 = .ok (.invokevirtual 142, 3) := by decide +kernel
theorem dX6_gear_33 : decode cX6_gear 33 = .ok (.invokevirtual 41, 3) := by decide +kernel
theorem dX6_gear_36 : decode cX6_gear 36 = .ok (.goto 8, 3) := by decide +kernel
theorem dX6_gear_39 : decode cX6_gear 39 = .ok (.aload_n 0, 1) := by decide +kernel
theorem dX6_gear_40 : decode cX6_gear 40 = .ok (.iconst 2, 1) := by decide +kernel
theorem dX6_gear_41 : decode cX6_gear 41 = .ok (.invokevirtual 83, 3) := by decide +kernel
theorem dX6_gear_44 : decode cX6_gear 44 = .ok (.ireturn, 1) := by decide +kernel
theorem dX6_reading_0 : decode cX6_reading 0 = .ok (.aload_n 0, 1) := by decide +kernel
theorem dX6_reading_1 : decode cX6_reading 1 = .ok (.iload_n 1, 1) := by decide +kernel
theorem dX6_reading_2 : decode cX6_reading 2 = .ok (.iload_n 2, 1) := by decide +kernel
theorem dX6_reading_3 : decode cX6_reading 3 = .ok (.iload_n 3, 1) := by decide +kernel
theorem dX6_reading_4 : decode cX6_reading 4 = .ok (.invokevirtual 107, 3) := by decide +kernel
theorem dX6_reading_7 : decode cX6_reading 7 = .ok (.ifCond .eq 17, 3) := by decide +kernel
theorem dX6_reading_10 : decode cX6_reading 10 = .ok (.aload_n 0, 1) := by decide +kernel
theorem dX6_reading_11 : decode cX6_reading 11 = .ok (.aload_n 0, 1) := by decide +kernel
theorem dX6_reading_12 : decode cX6_reading 12 = .ok (.iload_n 1, 1) := by decide +kernel
theorem dX6_reading_13 : decode cX6_reading 13 = .ok (.iload_n 2, 1) := by decide +kernel
theorem dX6_reading_14 : decode cX6_reading 14 = .ok (.iload_n 3, 1) := by decide +kernel
theorem dX6_reading_15 : decode cX6_reading 15 = .ok (.invokevirtual 70, 3) := by decide +kernel
theorem dX6_reading_18 : decode cX6_reading 18 = .ok (.invokevirtual 41, 3) := by decide +kernel
theorem dX6_reading_21 : decode cX6_reading 21 = .ok (.goto 8, 3) := by decide +kernel
theorem dX6_reading_24 : decode cX6_reading 24 = .ok (.aload_n 0, 1) := by decide +kernel
theorem dX6_reading_25 : decode cX6_reading 25 = .ok (.iconst 1, 1) := by decide +kernel
theorem dX6_reading_26 : decode cX6_reading 26 = .ok (.invokevirtual 83, 3) := by decide +kernel
theorem dX6_reading_29 : decode cX6_reading 29 = .ok (.ireturn, 1) := by decide +kernel
theorem dX6_indexOf_0 : decode cX6_indexOf 0 = .ok (.aload_n 0, 1) := by decide +kernel
theorem dX6_indexOf_1 : decode cX6_indexOf 1 = .ok (.iload_n 1, 1) := by decide +kernel
theorem dX6_indexOf_2 : decode cX6_indexOf 2 = .ok (.iload_n 2, 1) := by decide +kernel
theorem dX6_indexOf_3 : decode cX6_indexOf 3 = .ok (.iload_n 3, 1) := by decide +kernel
theorem dX6_indexOf_4 : decode cX6_indexOf 4 = .ok (.invokevirtual 70, 3) := by decide +kernel
theorem dX6_indexOf_7 : decode cX6_indexOf 7 = .ok (.aload_n 0, 1) := by decide +kernel
theorem dX6_indexOf_8 : decode cX6_indexOf 8 = .ok (.iload_n 1, 1) := by decide +kernel
theorem dX6_indexOf_9 : decode cX6_indexOf 9 = .ok (.iload_n 2, 1) := by decide +kernel
theorem dX6_indexOf_10 : decode cX6_indexOf 10 = .ok (.iconst 0, 1) := by decide +kernel
theorem dX6_indexOf_11 : decode cX6_indexOf 11 = .ok (.invokevirtual 70, 3) := by decide +kernel
theorem dX6_indexOf_14 : decode cX6_indexOf 14 = .ok (.isub, 1) := by decide +kernel
theorem dX6_indexOf_15 : decode cX6_indexOf 15 = .ok (.aload_n 0, 1) := by decide +kernel
theorem dX6_indexOf_16 : decode cX6_indexOf 16 = .ok (.iload_n 1, 1) := by decide +kernel
theorem dX6_indexOf_17 : decode cX6_indexOf 17 = .ok (.iload_n 2, 1) := by decide +kernel
theorem dX6_indexOf_18 : decode cX6_indexOf 18 = .ok (.invokevirtual 124, 3) := by decide +kernel
theorem dX6_indexOf_21 : decode cX6_indexOf 21 = .ok (.i2l, 1) := by decide +kernel
theorem dX6_indexOf_22 : decode cX6_indexOf 22 = .ok (.iload_n 3, 1) := by decide +kernel
theorem dX6_indexOf_23 : decode cX6_indexOf 23 = .ok (.i2l, 1) := by decide +kernel
theorem dX6_indexOf_24 : decode cX6_indexOf 24 = .ok (.lmul, 1) := by decide +kernel
theorem dX6_indexOf_25 : decode cX6_indexOf 25 = .ok (.aload_n 0, 1) := by decide +kernel
theorem dX6_indexOf_26 : decode cX6_indexOf 26 = .ok (.iload_n 1, 1) := by decide +kernel
theorem dX6_indexOf_27 : decode cX6_indexOf 27 = .ok (.invokevirtual 59, 3) := by decide +kernel
theorem dX6_indexOf_30 : decode cX6_indexOf 30 = .ok (.i2l, 1) := by decide +kernel
theorem dX6_indexOf_31 : decode cX6_indexOf 31 = .ok (.invokestatic 145, 3) := by decide +kernel
theorem dX6_indexOf_34 : decode cX6_indexOf 34 = .ok (.isub, 1) := by decide +kernel
theorem dX6_indexOf_35 : decode cX6_indexOf 35 = .ok (.ireturn, 1) := by decide +kernel
theorem dX6_pitchOf_0 : decode cX6_pitchOf 0 = .ok (.aload_n 0, 1) := by decide +kernel
theorem dX6_pitchOf_1 : decode cX6_pitchOf 1 = .ok (.iload_n 1, 1) := by decide +kernel
theorem dX6_pitchOf_2 : decode cX6_pitchOf 2 = .ok (.iload_n 2, 1) := by decide +kernel
theorem dX6_pitchOf_3 : decode cX6_pitchOf 3 = .ok (.iload_n 3, 1) := by decide +kernel
theorem dX6_pitchOf_4 : decode cX6_pitchOf 4 = .ok (.invokevirtual 149, 3) := by decide +kernel
theorem dX6_pitchOf_7 : decode cX6_pitchOf 7 = .ok (.aload_n 0, 1) := by decide +kernel
theorem dX6_pitchOf_8 : decode cX6_pitchOf 8 = .ok (.iload_n 1, 1) := by decide +kernel
theorem dX6_pitchOf_9 : decode cX6_pitchOf 9 = .ok (.iload_n 2, 1) := by decide +kernel
theorem dX6_pitchOf_10 : decode cX6_pitchOf 10 = .ok (.iload_n 3, 1) := by decide +kernel
theorem dX6_pitchOf_11 : decode cX6_pitchOf 11 = .ok (.iconst 1, 1) := by decide +kernel
theorem dX6_pitchOf_12 : decode cX6_pitchOf 12 = .ok (.isub, 1) := by decide +kernel
theorem dX6_pitchOf_13 : decode cX6_pitchOf 13 = .ok (.invokevirtual 149, 3) := by decide +kernel
theorem dX6_pitchOf_16 : decode cX6_pitchOf 16 = .ok (.isub, 1) := by decide +kernel
theorem dX6_pitchOf_17 : decode cX6_pitchOf 17 = .ok (.ireturn, 1) := by decide +kernel
theorem dX6_isFlank_0 : decode cX6_isFlank 0 = .ok (.aload_n 0, 1) := by decide +kernel
theorem dX6_isFlank_1 : decode cX6_isFlank 1 = .ok (.iload_n 1, 1) := by decide +kernel
theorem dX6_isFlank_2 : decode cX6_isFlank 2 = .ok (.invokevirtual 62, 3) := by decide +kernel
theorem dX6_isFlank_5 : decode cX6_isFlank 5 = .ok (.ifCond .eq 17, 3) := by decide +kernel
theorem dX6_isFlank_8 : decode cX6_isFlank 8 = .ok (.iload_n 2, 1) := by decide +kernel
theorem dX6_isFlank_9 : decode cX6_isFlank 9 = .ok (.i2l, 1) := by decide +kernel
theorem dX6_isFlank_10 : decode cX6_isFlank 10 = .ok (.lconst 0, 1) := by decide +kernel
theorem dX6_isFlank_11 : decode cX6_isFlank 11 = .ok (.lconst 1, 1) := by decide +kernel
theorem dX6_isFlank_12 : decode cX6_isFlank 12 = .ok (.invokestatic 51, 3) := by decide +kernel
theorem dX6_isFlank_15 : decode cX6_isFlank 15 = .ok (.ifCond .eq 7, 3) := by decide +kernel
theorem dX6_isFlank_18 : decode cX6_isFlank 18 = .ok (.iconst 1, 1) := by decide +kernel
theorem dX6_isFlank_19 : decode cX6_isFlank 19 = .ok (.goto 4, 3) := by decide +kernel
theorem dX6_isFlank_22 : decode cX6_isFlank 22 = .ok (.iconst 0, 1) := by decide +kernel
theorem dX6_isFlank_23 : decode cX6_isFlank 23 = .ok (.ireturn, 1) := by decide +kernel
theorem dX6_index_0 : decode cX6_index 0 = .ok (.aload_n 0, 1) := by decide +kernel
theorem dX6_index_1 : decode cX6_index 1 = .ok (.iload_n 1, 1) := by decide +kernel
theorem dX6_index_2 : decode cX6_index 2 = .ok (.iload_n 2, 1) := by decide +kernel
theorem dX6_index_3 : decode cX6_index 3 = .ok (.invokevirtual 152, 3) := by decide +kernel
theorem dX6_index_6 : decode cX6_index 6 = .ok (.ifCond .eq 32, 3) := by decide +kernel
theorem dX6_index_9 : decode cX6_index 9 = .ok (.iload_n 3, 1) := by decide +kernel
theorem dX6_index_10 : decode cX6_index 10 = .ok (.i2l, 1) := by decide +kernel
theorem dX6_index_11 : decode cX6_index 11 = .ok (.lconst 0, 1) := by decide +kernel
theorem dX6_index_12 : decode cX6_index 12 = .ok (.aload_n 0, 1) := by decide +kernel
theorem dX6_index_13 : decode cX6_index 13 = .ok (.iload_n 1, 1) := by decide +kernel
theorem dX6_index_14 : decode cX6_index 14 = .ok (.invokevirtual 59, 3) := by decide +kernel
theorem dX6_index_17 : decode cX6_index 17 = .ok (.i2l, 1) := by decide +kernel
theorem dX6_index_18 : decode cX6_index 18 = .ok (.invokestatic 51, 3) := by decide +kernel
theorem dX6_index_21 : decode cX6_index 21 = .ok (.ifCond .eq 17, 3) := by decide +kernel
theorem dX6_index_24 : decode cX6_index 24 = .ok (.aload_n 0, 1) := by decide +kernel
theorem dX6_index_25 : decode cX6_index 25 = .ok (.aload_n 0, 1) := by decide +kernel
theorem dX6_index_26 : decode cX6_index 26 = .ok (.iload_n 1, 1) := by decide +kernel
theorem dX6_index_27 : decode cX6_index 27 = .ok (.iload_n 2, 1) := by decide +kernel
theorem dX6_index_28 : decode cX6_index 28 = .ok (.iload_n 3, 1) := by decide +kernel
theorem dX6_index_29 : decode cX6_index 29 = .ok (.invokevirtual 149, 3) := by decide +kernel
theorem dX6_index_32 : decode cX6_index 32 = .ok (.invokevirtual 41, 3) := by decide +kernel
theorem dX6_index_35 : decode cX6_index 35 = .ok (.goto 8, 3) := by decide +kernel
theorem dX6_index_38 : decode cX6_index 38 = .ok (.aload_n 0, 1) := by decide +kernel
theorem dX6_index_39 : decode cX6_index 39 = .ok (.iconst 1, 1) := by decide +kernel
theorem dX6_index_40 : decode cX6_index 40 = .ok (.invokevirtual 83, 3) := by decide +kernel
theorem dX6_index_43 : decode cX6_index 43 = .ok (.ireturn, 1) := by decide +kernel
theorem dX6_pitch_0 : decode cX6_pitch 0 = .ok (.aload_n 0, 1) := by decide +kernel
theorem dX6_pitch_1 : decode cX6_pitch 1 = .ok (.iload_n 1, 1) := by decide +kernel
theorem dX6_pitch_2 : decode cX6_pitch 2 = .ok (.iload_n 2, 1) := by decide +kernel
theorem dX6_pitch_3 : decode cX6_pitch 3 = .ok (.invokevirtual 152, 3) := by decide +kernel
theorem dX6_pitch_6 : decode cX6_pitch 6 = .ok (.ifCond .eq 32, 3) := by decide +kernel
theorem dX6_pitch_9 : decode cX6_pitch 9 = .ok (.iload_n 3, 1) := by decide +kernel
theorem dX6_pitch_10 : decode cX6_pitch 10 = .ok (.i2l, 1) := by decide +kernel
theorem dX6_pitch_11 : decode cX6_pitch 11 = .ok (.lconst 1, 1) := by decide +kernel
theorem dX6_pitch_12 : decode cX6_pitch 12 = .ok (.aload_n 0, 1) := by decide +kernel
theorem dX6_pitch_13 : decode cX6_pitch 13 = .ok (.iload_n 1, 1) := by decide +kernel
theorem dX6_pitch_14 : decode cX6_pitch 14 = .ok (.invokevirtual 59, 3) := by decide +kernel
theorem dX6_pitch_17 : decode cX6_pitch 17 = .ok (.i2l, 1) := by decide +kernel
theorem dX6_pitch_18 : decode cX6_pitch 18 = .ok (.invokestatic 51, 3) := by decide +kernel
theorem dX6_pitch_21 : decode cX6_pitch 21 = .ok (.ifCond .eq 17, 3) := by decide +kernel
theorem dX6_pitch_24 : decode cX6_pitch 24 = .ok (.aload_n 0, 1) := by decide +kernel
theorem dX6_pitch_25 : decode cX6_pitch 25 = .ok (.aload_n 0, 1) := by decide +kernel
theorem dX6_pitch_26 : decode cX6_pitch 26 = .ok (.iload_n 1, 1) := by decide +kernel
theorem dX6_pitch_27 : decode cX6_pitch 27 = .ok (.iload_n 2, 1) := by decide +kernel
theorem dX6_pitch_28 : decode cX6_pitch 28 = .ok (.iload_n 3, 1) := by decide +kernel
theorem dX6_pitch_29 : decode cX6_pitch 29 = .ok (.invokevirtual 155, 3) := by decide +kernel
theorem dX6_pitch_32 : decode cX6_pitch 32 = .ok (.invokevirtual 41, 3) := by decide +kernel
theorem dX6_pitch_35 : decode cX6_pitch 35 = .ok (.goto 8, 3) := by decide +kernel
theorem dX6_pitch_38 : decode cX6_pitch 38 = .ok (.aload_n 0, 1) := by decide +kernel
theorem dX6_pitch_39 : decode cX6_pitch 39 = .ok (.iconst 1, 1) := by decide +kernel
theorem dX6_pitch_40 : decode cX6_pitch 40 = .ok (.invokevirtual 83, 3) := by decide +kernel
theorem dX6_pitch_43 : decode cX6_pitch 43 = .ok (.ireturn, 1) := by decide +kernel
theorem dX6_span_0 : decode cX6_span 0 = .ok (.aload_n 0, 1) := by decide +kernel
theorem dX6_span_1 : decode cX6_span 1 = .ok (.iload_n 1, 1) := by decide +kernel
theorem dX6_span_2 : decode cX6_span 2 = .ok (.iload_n 2, 1) := by decide +kernel
theorem dX6_span_3 : decode cX6_span 3 = .ok (.invokevirtual 152, 3) := by decide +kernel
theorem dX6_span_6 : decode cX6_span 6 = .ok (.ifCond .ne 9, 3) := by decide +kernel
theorem dX6_span_9 : decode cX6_span 9 = .ok (.aload_n 0, 1) := by decide +kernel
theorem dX6_span_10 : decode cX6_span 10 = .ok (.iconst 1, 1) := by decide +kernel
theorem dX6_span_11 : decode cX6_span 11 = .ok (.invokevirtual 83, 3) := by decide +kernel
theorem dX6_span_14 : decode cX6_span 14 = .ok (.ireturn, 1) := by decide +kernel
theorem dX6_span_15 : decode cX6_span 15 = .ok (.iload_n 3, 1) := by decide +kernel
theorem dX6_span_16 : decode cX6_span 16 = .ok (.i2l, 1) := by decide +kernel
theorem dX6_span_17 : decode cX6_span 17 = .ok (.lconst 1, 1) := by decide +kernel
theorem dX6_span_18 : decode cX6_span 18 = .ok (.aload_n 0, 1) := by decide +kernel
theorem dX6_span_19 : decode cX6_span 19 = .ok (.iload_n 1, 1) := by decide +kernel
theorem dX6_span_20 : decode cX6_span 20 = .ok (.invokevirtual 59, 3) := by decide +kernel
theorem dX6_span_23 : decode cX6_span 23 = .ok (.i2l, 1) := by decide +kernel
theorem dX6_span_24 : decode cX6_span 24 = .ok (.invokestatic 51, 3) := by decide +kernel
theorem dX6_span_27 : decode cX6_span 27 = .ok (.ifCond .ne 9, 3) := by decide +kernel
theorem dX6_span_30 : decode cX6_span 30 = .ok (.aload_n 0, 1) := by decide +kernel
theorem dX6_span_31 : decode cX6_span 31 = .ok (.iconst 2, 1) := by decide +kernel
theorem dX6_span_32 : decode cX6_span 32 = .ok (.invokevirtual 83, 3) := by decide +kernel
theorem dX6_span_35 : decode cX6_span 35 = .ok (.ireturn, 1) := by decide +kernel
theorem dX6_span_36 : decode cX6_span 36 = .ok (.aload_n 0, 1) := by decide +kernel
theorem dX6_span_37 : decode cX6_span 37 = .ok (.iload_n 1, 1) := by decide +kernel
theorem dX6_span_38 : decode cX6_span 38 = .ok (.invokevirtual 59, 3) := by decide +kernel
theorem dX6_span_41 : decode cX6_span 41 = .ok (.istore 4, 2) := by decide +kernel
theorem dX6_span_43 : decode cX6_span 43 = .ok (.iconst 0, 1) := by decide +kernel
theorem dX6_span_44 : decode cX6_span 44 = .ok (.istore 5, 2) := by decide +kernel
theorem dX6_span_46 : decode cX6_span 46 = .ok (.iconst 0, 1) := by decide +kernel
theorem dX6_span_47 : decode cX6_span 47 = .ok (.istore 6, 2) := by decide +kernel
theorem dX6_span_49 : decode cX6_span 49 = .ok (.iload 6, 2) := by decide +kernel
theorem dX6_span_51 : decode cX6_span 51 = .ok (.iload 4, 2) := by decide +kernel
theorem dX6_span_53 : decode cX6_span 53 = .ok (.if_icmp .ge 70, 3) := by decide +kernel
theorem dX6_span_56 : decode cX6_span 56 = .ok (.iconst 0, 1) := by decide +kernel
theorem dX6_span_57 : decode cX6_span 57 = .ok (.istore 7, 2) := by decide +kernel
theorem dX6_span_59 : decode cX6_span 59 = .ok (.iconst 0, 1) := by decide +kernel
theorem dX6_span_60 : decode cX6_span 60 = .ok (.istore 8, 2) := by decide +kernel
theorem dX6_span_62 : decode cX6_span 62 = .ok (.iload 8, 2) := by decide +kernel
theorem dX6_span_64 : decode cX6_span 64 = .ok (.iload_n 3, 1) := by decide +kernel
theorem dX6_span_65 : decode cX6_span 65 = .ok (.if_icmp .ge 30, 3) := by decide +kernel
theorem dX6_span_68 : decode cX6_span 68 = .ok (.iload 7, 2) := by decide +kernel
theorem dX6_span_70 : decode cX6_span 70 = .ok (.aload_n 0, 1) := by decide +kernel
theorem dX6_span_71 : decode cX6_span 71 = .ok (.iload_n 1, 1) := by decide +kernel
theorem dX6_span_72 : decode cX6_span 72 = .ok (.iload_n 2, 1) := by decide +kernel
theorem dX6_span_73 : decode cX6_span 73 = .ok (.iload 6, 2) := by decide +kernel
theorem dX6_span_75 : decode cX6_span 75 = .ok (.iload 8, 2) := by decide +kernel
theorem dX6_span_77 : decode cX6_span 77 = .ok (.iadd, 1) := by decide +kernel
theorem dX6_span_78 : decode cX6_span 78 = .ok (.iload 4, 2) := by decide +kernel
theorem dX6_span_80 : decode cX6_span 80 = .ok (.irem, 1) := by decide +kernel
theorem dX6_span_81 : decode cX6_span 81 = .ok (.iconst 1, 1) := by decide +kernel
theorem dX6_span_82 : decode cX6_span 82 = .ok (.iadd, 1) := by decide +kernel
theorem dX6_span_83 : decode cX6_span 83 = .ok (.invokevirtual 155, 3) := by decide +kernel
theorem dX6_span_86 : decode cX6_span 86 = .ok (.iadd, 1) := by decide +kernel
theorem dX6_span_87 : decode cX6_span 87 = .ok (.istore 7, 2) := by decide +kernel
theorem dX6_span_89 : decode cX6_span 89 = .ok (.iinc 8 1, 3) := by decide +kernel
theorem dX6_span_92 : decode cX6_span 92 = .ok (.goto (-30), 3) := by decide +kernel
theorem dX6_span_95 : decode cX6_span 95 = .ok (.iload 7, 2) := by decide +kernel
theorem dX6_span_97 : decode cX6_span 97 = .ok (.invokestatic 158, 3) := by decide +kernel
theorem dX6_span_100 : decode cX6_span 100 = .ok (.iload 5, 2) := by decide +kernel
theorem dX6_span_102 : decode cX6_span 102 = .ok (.if_icmp .le 11, 3) := by decide +kernel
theorem dX6_span_105 : decode cX6_span 105 = .ok (.iload 7, 2) := by decide +kernel
theorem dX6_span_107 : decode cX6_span 107 = .ok (.invokestatic 158, 3) := by decide +kernel
theorem dX6_span_110 : decode cX6_span 110 = .ok (.goto 5, 3) := by decide +kernel
theorem dX6_span_113 : decode cX6_span 113 = .ok (.iload 5, 2) := by decide +kernel
theorem dX6_span_115 : decode cX6_span 115 = .ok (.istore 5, 2) := by decide +kernel
theorem dX6_span_117 : decode cX6_span 117 = .ok (.iinc 6 1, 3) := by decide +kernel
theorem dX6_span_120 : decode cX6_span 120 = .ok (.goto (-71), 3) := by decide +kernel
theorem dX6_span_123 : decode cX6_span 123 = .ok (.aload_n 0, 1) := by decide +kernel
theorem dX6_span_124 : decode cX6_span 124 = .ok (.iload 5, 2) := by decide +kernel
theorem dX6_span_126 : decode cX6_span 126 = .ok (.invokevirtual 41, 3) := by decide +kernel
theorem dX6_span_129 : decode cX6_span 129 = .ok (.ireturn, 1) := by decide +kernel
theorem dX6_thick_0 : decode cX6_thick 0 = .ok (.aload_n 0, 1) := by decide +kernel
theorem dX6_thick_1 : decode cX6_thick 1 = .ok (.iload_n 1, 1) := by decide +kernel
theorem dX6_thick_2 : decode cX6_thick 2 = .ok (.iconst 0, 1) := by decide +kernel
theorem dX6_thick_3 : decode cX6_thick 3 = .ok (.iload_n 2, 1) := by decide +kernel
theorem dX6_thick_4 : decode cX6_thick 4 = .ok (.invokevirtual 149, 3) := by decide +kernel
theorem dX6_thick_7 : decode cX6_thick 7 = .ok (.aload_n 0, 1) := by decide +kernel
theorem dX6_thick_8 : decode cX6_thick 8 = .ok (.iload_n 1, 1) := by decide +kernel
theorem dX6_thick_9 : decode cX6_thick 9 = .ok (.iconst 1, 1) := by decide +kernel
theorem dX6_thick_10 : decode cX6_thick 10 = .ok (.iload_n 2, 1) := by decide +kernel
theorem dX6_thick_11 : decode cX6_thick 11 = .ok (.invokevirtual 149, 3) := by decide +kernel
theorem dX6_thick_14 : decode cX6_thick 14 = .ok (.isub, 1) := by decide +kernel
theorem dX6_thick_15 : decode cX6_thick 15 = .ok (.ireturn, 1) := by decide +kernel
theorem dX6_thickness_0 : decode cX6_thickness 0 = .ok (.aload_n 0, 1) := by decide +kernel
theorem dX6_thickness_1 : decode cX6_thickness 1 = .ok (.iload_n 1, 1) := by decide +kernel
theorem dX6_thickness_2 : decode cX6_thickness 2 = .ok (.invokevirtual 62, 3) := by decide +kernel
theorem dX6_thickness_5 : decode cX6_thickness 5 = .ok (.ifCond .eq 22, 3) := by decide +kernel
theorem dX6_thickness_8 : decode cX6_thickness 8 = .ok (.iload_n 2, 1) := by decide +kernel
theorem dX6_thickness_9 : decode cX6_thickness 9 = .ok (.i2l, 1) := by decide +kernel
theorem dX6_thickness_10 : decode cX6_thickness 10 = .ok (.ldc2_w 161, 3) := by decide +kernel
theorem dX6_thickness_13 : decode cX6_thickness 13 = .ok (.aload_n 0, 1) := by decide +kernel
theorem dX6_thickness_14 : decode cX6_thickness 14 = .ok (.iload_n 1, 1) := by decide +kernel
theorem dX6_thickness_15 : decode cX6_thickness 15 = .ok (.invokevirtual 59, 3) := by decide +kernel
theorem dX6_thickness_18 : decode cX6_thickness 18 = .ok (.iconst 1, 1) := by decide +kernel
theorem dX6_thickness_19 : decode cX6_thickness 19 = .ok (.isub, 1) := by decide +kernel
theorem dX6_thickness_20 : decode cX6_thickness 20 = .ok (.i2l, 1) := by decide +kernel
theorem dX6_thickness_21 : decode cX6_thickness 21 = .ok (.invokestatic 51, 3) := by decide +kernel
theorem dX6_thickness_24 : decode cX6_thickness 24 = .ok (.ifCond .ne 9, 3) := by decide +kernel
theorem dX6_thickness_27 : decode cX6_thickness 27 = .ok (.aload_n 0, 1) := by decide +kernel
theorem dX6_thickness_28 : decode cX6_thickness 28 = .ok (.iconst 1, 1) := by decide +kernel
theorem dX6_thickness_29 : decode cX6_thickness 29 = .ok (.invokevirtual 83, 3) := by decide +kernel
theorem dX6_thickness_32 : decode cX6_thickness 32 = .ok (.ireturn, 1) := by decide +kernel
theorem dX6_thickness_33 : decode cX6_thickness 33 = .ok (.iload_n 2, 1) := by decide +kernel
theorem dX6_thickness_34 : decode cX6_thickness 34 = .ok (.iconst (-1), 1) := by decide +kernel
theorem dX6_thickness_35 : decode cX6_thickness 35 = .ok (.if_icmp .eq 14, 3) := by decide +kernel
theorem dX6_thickness_38 : decode cX6_thickness 38 = .ok (.aload_n 0, 1) := by decide +kernel
theorem dX6_thickness_39 : decode cX6_thickness 39 = .ok (.aload_n 0, 1) := by decide +kernel
theorem dX6_thickness_40 : decode cX6_thickness 40 = .ok (.iload_n 1, 1) := by decide +kernel
theorem dX6_thickness_41 : decode cX6_thickness 41 = .ok (.iload_n 2, 1) := by decide +kernel
theorem dX6_thickness_42 : decode cX6_thickness 42 = .ok (.invokevirtual 163, 3) := by decide +kernel
theorem dX6_thickness_45 : decode cX6_thickness 45 = .ok (.invokevirtual 41, 3) := by decide +kernel
theorem dX6_thickness_48 : decode cX6_thickness 48 = .ok (.ireturn, 1) := by decide +kernel
theorem dX6_thickness_49 : decode cX6_thickness 49 = .ok (.aload_n 0, 1) := by decide +kernel
theorem dX6_thickness_50 : decode cX6_thickness 50 = .ok (.iload_n 1, 1) := by decide +kernel
theorem dX6_thickness_51 : decode cX6_thickness 51 = .ok (.iconst 0, 1) := by decide +kernel
theorem dX6_thickness_52 : decode cX6_thickness 52 = .ok (.invokevirtual 163, 3) := by decide +kernel
theorem dX6_thickness_55 : decode cX6_thickness 55 = .ok (.istore_n 3, 1) := by decide +kernel
theorem dX6_thickness_56 : decode cX6_thickness 56 = .ok (.iload_n 3, 1) := by decide +kernel
theorem dX6_thickness_57 : decode cX6_thickness 57 = .ok (.istore 4, 2) := by decide +kernel
theorem dX6_thickness_59 : decode cX6_thickness 59 = .ok (.iconst 1, 1) := by decide +kernel
theorem dX6_thickness_60 : decode cX6_thickness 60 = .ok (.istore 5, 2) := by decide +kernel
theorem dX6_thickness_62 : decode cX6_thickness 62 = .ok (.iload 5, 2) := by decide +kernel
theorem dX6_thickness_64 : decode cX6_thickness 64 = .ok (.aload_n 0, 1) := by decide +kernel
theorem dX6_thickness_65 : decode cX6_thickness 65 = .ok (.iload_n 1, 1) := by decide +kernel
theorem dX6_thickness_66 : decode cX6_thickness 66 = .ok (.invokevirtual 59, 3) := by decide +kernel
theorem dX6_thickness_69 : decode cX6_thickness 69 = .ok (.if_icmp .ge 47, 3) := by decide +kernel
theorem dX6_thickness_72 : decode cX6_thickness 72 = .ok (.aload_n 0, 1) := by decide +kernel
theorem dX6_thickness_73 : decode cX6_thickness 73 = .ok (.iload_n 1, 1) := by decide +kernel
theorem dX6_thickness_74 : decode cX6_thickness 74 = .ok (.iload 5, 2) := by decide +kernel
theorem dX6_thickness_76 : decode cX6_thickness 76 = .ok (.invokevirtual 163, 3) := by decide +kernel
theorem dX6_thickness_79 : decode cX6_thickness 79 = .ok (.istore 6, 2) := by decide +kernel
theorem dX6_thickness_81 : decode cX6_thickness 81 = .ok (.iload 6, 2) := by decide +kernel
theorem dX6_thickness_83 : decode cX6_thickness 83 = .ok (.iload_n 3, 1) := by decide +kernel
theorem dX6_thickness_84 : decode cX6_thickness 84 = .ok (.if_icmp .le 8, 3) := by decide +kernel
theorem dX6_thickness_87 : decode cX6_thickness 87 = .ok (.iload 6, 2) := by decide +kernel
theorem dX6_thickness_89 : decode cX6_thickness 89 = .ok (.goto 4, 3) := by decide +kernel
theorem dX6_thickness_92 : decode cX6_thickness 92 = .ok (.iload_n 3, 1) := by decide +kernel
theorem dX6_thickness_93 : decode cX6_thickness 93 = .ok (.istore_n 3, 1) := by decide +kernel
theorem dX6_thickness_94 : decode cX6_thickness 94 = .ok (.iload 6, 2) := by decide +kernel
theorem dX6_thickness_96 : decode cX6_thickness 96 = .ok (.iload 4, 2) := by decide +kernel
theorem dX6_thickness_98 : decode cX6_thickness 98 = .ok (.if_icmp .ge 8, 3) := by decide +kernel
theorem dX6_thickness_101 : decode cX6_thickness 101 = .ok (.iload 6, 2) := by decide +kernel
theorem dX6_thickness_103 : decode cX6_thickness 103 = .ok (.goto 5, 3) := by decide +kernel
theorem dX6_thickness_106 : decode cX6_thickness 106 = .ok (.iload 4, 2) := by decide +kernel
theorem dX6_thickness_108 : decode cX6_thickness 108 = .ok (.istore 4, 2) := by decide +kernel
theorem dX6_thickness_110 : decode cX6_thickness 110 = .ok (.iinc 5 1, 3) := by decide +kernel
theorem dX6_thickness_113 : decode cX6_thickness 113 = .ok (.goto (-51), 3) := by decide +kernel
theorem dX6_thickness_116 : decode cX6_thickness 116 = .ok (.aload_n 0, 1) := by decide +kernel
theorem dX6_thickness_117 : decode cX6_thickness 117 = .ok (.iload_n 3, 1) := by decide +kernel
theorem dX6_thickness_118 : decode cX6_thickness 118 = .ok (.iload 4, 2) := by decide +kernel
theorem dX6_thickness_120 : decode cX6_thickness 120 = .ok (.isub, 1) := by decide +kernel
theorem dX6_thickness_121 : decode cX6_thickness 121 = .ok (.invokevirtual 41, 3) := by decide +kernel
theorem dX6_thickness_124 : decode cX6_thickness 124 = .ok (.ireturn, 1) := by decide +kernel
theorem dX6_eccentricity_0 : decode cX6_eccentricity 0 = .ok (.aload_n 0, 1) := by decide +kernel
theorem dX6_eccentricity_1 : decode cX6_eccentricity 1 = .ok (.iload_n 1, 1) := by decide +kernel
theorem dX6_eccentricity_2 : decode cX6_eccentricity 2 = .ok (.invokevirtual 62, 3) := by decide +kernel
theorem dX6_eccentricity_5 : decode cX6_eccentricity 5 = .ok (.ifCond .ne 10, 3) := by decide +kernel
theorem dX6_eccentricity_8 : decode cX6_eccentricity 8 = .ok (.aload_n 0, 1) := by decide +kernel
theorem dX6_eccentricity_9 : decode cX6_eccentricity 9 = .ok (.iconst 1, 1) := by decide +kernel
theorem dX6_eccentricity_10 : decode cX6_eccentricity 10 = .ok (.invokevirtual 83, 3) := by decide +kernel
theorem dX6_eccentricity_13 : decode cX6_eccentricity 13 = .ok (.i2d, 1) := by decide +kernel
theorem dX6_eccentricity_14 : decode cX6_eccentricity 14 = .ok (.dreturn, 1) := by decide +kernel
theorem dX6_eccentricity_15 : decode cX6_eccentricity 15 = .ok (.aload_n 0, 1) := by decide +kernel
theorem dX6_eccentricity_16 : decode cX6_eccentricity 16 = .ok (.iload_n 1, 1) := by decide +kernel
theorem dX6_eccentricity_17 : decode cX6_eccentricity 17 = .ok (.invokevirtual 59, 3) := by decide +kernel
theorem dX6_eccentricity_20 : decode cX6_eccentricity 20 = .ok (.istore_n 2, 1) := by decide +kernel
theorem dX6_eccentricity_21 : decode cX6_eccentricity 21 = .ok (.iconst 0, 1) := by decide +kernel
theorem dX6_eccentricity_22 : decode cX6_eccentricity 22 = .ok (.istore_n 3, 1) := by decide +kernel
theorem dX6_eccentricity_23 : decode cX6_eccentricity 23 = .ok (.iconst 0, 1) := by decide +kernel
theorem dX6_eccentricity_24 : decode cX6_eccentricity 24 = .ok (.istore 4, 2) := by decide +kernel
theorem dX6_eccentricity_26 : decode cX6_eccentricity 26 = .ok (.iload 4, 2) := by decide +kernel
theorem dX6_eccentricity_28 : decode cX6_eccentricity 28 = .ok (.iload_n 2, 1) := by decide +kernel
theorem dX6_eccentricity_29 : decode cX6_eccentricity 29 = .ok (.if_icmp .ge 50, 3) := by decide +kernel
theorem dX6_eccentricity_32 : decode cX6_eccentricity 32 = .ok (.aload_n 0, 1) := by decide +kernel
theorem dX6_eccentricity_33 : decode cX6_eccentricity 33 = .ok (.iload_n 1, 1) := by decide +kernel
theorem dX6_eccentricity_34 : decode cX6_eccentricity 34 = .ok (.iconst 2, 1) := by decide +kernel
theorem dX6_eccentricity_35 : decode cX6_eccentricity 35 = .ok (.iload 4, 2) := by decide +kernel
theorem dX6_eccentricity_37 : decode cX6_eccentricity 37 = .ok (.invokevirtual 70, 3) := by decide +kernel
theorem dX6_eccentricity_40 : decode cX6_eccentricity 40 = .ok (.aload_n 0, 1) := by decide +kernel
theorem dX6_eccentricity_41 : decode cX6_eccentricity 41 = .ok (.iload_n 1, 1) := by decide +kernel
theorem dX6_eccentricity_42 : decode cX6_eccentricity 42 = .ok (.iconst 2, 1) := by decide +kernel
theorem dX6_eccentricity_43 : decode cX6_eccentricity 43 = .ok (.iload 4, 2) := by decide +kernel
theorem dX6_eccentricity_45 : decode cX6_eccentricity 45 = .ok (.iload_n 2, 1) := by decide +kernel
theorem dX6_eccentricity_46 : decode cX6_eccentricity 46 = .ok (.iconst 2, 1) := by decide +kernel
theorem dX6_eccentricity_47 : decode cX6_eccentricity 47 = .ok (.idiv, 1) := by decide +kernel
theorem dX6_eccentricity_48 : decode cX6_eccentricity 48 = .ok (.iadd, 1) := by decide +kernel
theorem dX6_eccentricity_49 : decode cX6_eccentricity 49 = .ok (.iload_n 2, 1) := by decide +kernel
theorem dX6_eccentricity_50 : decode cX6_eccentricity 50 = .ok (.irem, 1) := by decide +kernel
theorem dX6_eccentricity_51 : decode cX6_eccentricity 51 = .ok (.invokevirtual 70, 3) := by decide +kernel
theorem dX6_eccentricity_54 : decode cX6_eccentricity 54 = .ok (.isub, 1) := by decide +kernel
theorem dX6_eccentricity_55 : decode cX6_eccentricity 55 = .ok (.invokestatic 158, 3) := by decide +kernel
theorem dX6_eccentricity_58 : decode cX6_eccentricity 58 = .ok (.istore 5, 2) := by decide +kernel
theorem dX6_eccentricity_60 : decode cX6_eccentricity 60 = .ok (.iload 5, 2) := by decide +kernel
theorem dX6_eccentricity_62 : decode cX6_eccentricity 62 = .ok (.iload_n 3, 1) := by decide +kernel
theorem dX6_eccentricity_63 : decode cX6_eccentricity 63 = .ok (.if_icmp .le 8, 3) := by decide +kernel
theorem dX6_eccentricity_66 : decode cX6_eccentricity 66 = .ok (.iload 5, 2) := by decide +kernel
theorem dX6_eccentricity_68 : decode cX6_eccentricity 68 = .ok (.goto 4, 3) := by decide +kernel
theorem dX6_eccentricity_71 : decode cX6_eccentricity 71 = .ok (.iload_n 3, 1) := by decide +kernel
theorem dX6_eccentricity_72 : decode cX6_eccentricity 72 = .ok (.istore_n 3, 1) := by decide +kernel
theorem dX6_eccentricity_73 : decode cX6_eccentricity 73 = .ok (.iinc 4 1, 3) := by decide +kernel
theorem dX6_eccentricity_76 : decode cX6_eccentricity 76 = .ok (.goto (-50), 3) := by decide +kernel
theorem dX6_eccentricity_79 : decode cX6_eccentricity 79 = .ok (.aload_n 0, 1) := by decide +kernel
theorem dX6_eccentricity_80 : decode cX6_eccentricity 80 = .ok (.iload_n 3, 1) := by decide +kernel
theorem dX6_eccentricity_81 : decode cX6_eccentricity 81 = .ok (.invokevirtual 41, 3) := by decide +kernel
theorem dX6_eccentricity_84 : decode cX6_eccentricity 84 = .ok (.i2d, 1) := by decide +kernel
theorem dX6_eccentricity_85 : decode cX6_eccentricity 85 = .ok (.ldc2_w 166, 3) := by decide +kernel
theorem dX6_eccentricity_88 : decode cX6_eccentricity 88 = .ok (.ddiv, 1) := by decide +kernel
theorem dX6_eccentricity_89 : decode cX6_eccentricity 89 = .ok (.dreturn, 1) := by decide +kernel
theorem dX6_indexRange_0 : decode cX6_indexRange 0 = .ok (.iconst 0, 1) := by decide +kernel
theorem dX6_indexRange_1 : decode cX6_indexRange 1 = .ok (.istore_n 3, 1) := by decide +kernel
theorem dX6_indexRange_2 : decode cX6_indexRange 2 = .ok (.iconst 0, 1) := by decide +kernel
theorem dX6_indexRange_3 : decode cX6_indexRange 3 = .ok (.istore 4, 2) := by decide +kernel
theorem dX6_indexRange_5 : decode cX6_indexRange 5 = .ok (.iconst 1, 1) := by decide +kernel
theorem dX6_indexRange_6 : decode cX6_indexRange 6 = .ok (.istore 5, 2) := by decide +kernel
theorem dX6_indexRange_8 : decode cX6_indexRange 8 = .ok (.iload 5, 2) := by decide +kernel
theorem dX6_indexRange_10 : decode cX6_indexRange 10 = .ok (.aload_n 0, 1) := by decide +kernel
theorem dX6_indexRange_11 : decode cX6_indexRange 11 = .ok (.iload_n 1, 1) := by decide +kernel
theorem dX6_indexRange_12 : decode cX6_indexRange 12 = .ok (.invokevirtual 59, 3) := by decide +kernel
theorem dX6_indexRange_15 : decode cX6_indexRange 15 = .ok (.if_icmp .gt 48, 3) := by decide +kernel
theorem dX6_indexRange_18 : decode cX6_indexRange 18 = .ok (.aload_n 0, 1) := by decide +kernel
theorem dX6_indexRange_19 : decode cX6_indexRange 19 = .ok (.iload_n 1, 1) := by decide +kernel
theorem dX6_indexRange_20 : decode cX6_indexRange 20 = .ok (.iload_n 2, 1) := by decide +kernel
theorem dX6_indexRange_21 : decode cX6_indexRange 21 = .ok (.iload 5, 2) := by decide +kernel
theorem dX6_indexRange_23 : decode cX6_indexRange 23 = .ok (.invokevirtual 149, 3) := by decide +kernel
theorem dX6_indexRange_26 : decode cX6_indexRange 26 = .ok (.istore 6, 2) := by decide +kernel
theorem dX6_indexRange_28 : decode cX6_indexRange 28 = .ok (.iload 6, 2) := by decide +kernel
theorem dX6_indexRange_30 : decode cX6_indexRange 30 = .ok (.iload_n 3, 1) := by decide +kernel
theorem dX6_indexRange_31 : decode cX6_indexRange 31 = .ok (.if_icmp .le 8, 3) := by decide +kernel
theorem dX6_indexRange_34 : decode cX6_indexRange 34 = .ok (.iload 6, 2) := by decide +kernel
theorem dX6_indexRange_36 : decode cX6_indexRange 36 = .ok (.goto 4, 3) := by decide +kernel
theorem dX6_indexRange_39 : decode cX6_indexRange 39 = .ok (.iload_n 3, 1) := by decide +kernel
theorem dX6_indexRange_40 : decode cX6_indexRange 40 = .ok (.istore_n 3, 1) := by decide +kernel
theorem dX6_indexRange_41 : decode cX6_indexRange 41 = .ok (.iload 6, 2) := by decide +kernel
theorem dX6_indexRange_43 : decode cX6_indexRange 43 = .ok (.iload 4, 2) := by decide +kernel
theorem dX6_indexRange_45 : decode cX6_indexRange 45 = .ok (.if_icmp .ge 8, 3) := by decide +kernel
theorem dX6_indexRange_48 : decode cX6_indexRange 48 = .ok (.iload 6, 2) := by decide +kernel
theorem dX6_indexRange_50 : decode cX6_indexRange 50 = .ok (.goto 5, 3) := by decide +kernel
theorem dX6_indexRange_53 : decode cX6_indexRange 53 = .ok (.iload 4, 2) := by decide +kernel
theorem dX6_indexRange_55 : decode cX6_indexRange 55 = .ok (.istore 4, 2) := by decide +kernel
theorem dX6_indexRange_57 : decode cX6_indexRange 57 = .ok (.iinc 5 1, 3) := by decide +kernel
theorem dX6_indexRange_60 : decode cX6_indexRange 60 = .ok (.goto (-52), 3) := by decide +kernel
theorem dX6_indexRange_63 : decode cX6_indexRange 63 = .ok (.iload_n 3, 1) := by decide +kernel
theorem dX6_indexRange_64 : decode cX6_indexRange 64 = .ok (.iload 4, 2) := by decide +kernel
theorem dX6_indexRange_66 : decode cX6_indexRange 66 = .ok (.isub, 1) := by decide +kernel
theorem dX6_indexRange_67 : decode cX6_indexRange 67 = .ok (.ireturn, 1) := by decide +kernel
theorem dX6_greatestPitch_0 : decode cX6_greatestPitch 0 = .ok (.iconst 0, 1) := by decide +kernel
theorem dX6_greatestPitch_1 : decode cX6_greatestPitch 1 = .ok (.istore_n 2, 1) := by decide +kernel
theorem dX6_greatestPitch_2 : decode cX6_greatestPitch 2 = .ok (.iconst 1, 1) := by decide +kernel
theorem dX6_greatestPitch_3 : decode cX6_greatestPitch 3 = .ok (.istore_n 3, 1) := by decide +kernel
theorem dX6_greatestPitch_4 : decode cX6_greatestPitch 4 = .ok (.iload_n 3, 1) := by decide +kernel
theorem dX6_greatestPitch_5 : decode cX6_greatestPitch 5 = .ok (.aload_n 0, 1) := by decide +kernel
theorem dX6_greatestPitch_6 : decode cX6_greatestPitch 6 = .ok (.iload_n 1, 1) := by decide +kernel
theorem dX6_greatestPitch_7 : decode cX6_greatestPitch 7 = .ok (.invokevirtual 59, 3) := by decide +kernel
theorem dX6_greatestPitch_10 : decode cX6_greatestPitch 10 = .ok (.if_icmp .gt 50, 3) := by decide +kernel
theorem dX6_greatestPitch_13 : decode cX6_greatestPitch 13 = .ok (.iconst 0, 1) := by decide +kernel
theorem dX6_greatestPitch_14 : decode cX6_greatestPitch 14 = .ok (.istore 4, 2) := by decide +kernel
theorem dX6_greatestPitch_16 : decode cX6_greatestPitch 16 = .ok (.iload 4, 2) := by decide +kernel
theorem dX6_greatestPitch_18 : decode cX6_greatestPitch 18 = .ok (.iconst 2, 1) := by decide +kernel
theorem dX6_greatestPitch_19 : decode cX6_greatestPitch 19 = .ok (.if_icmp .ge 35, 3) := by decide +kernel
theorem dX6_greatestPitch_22 : decode cX6_greatestPitch 22 = .ok (.aload_n 0, 1) := by decide +kernel
theorem dX6_greatestPitch_23 : decode cX6_greatestPitch 23 = .ok (.iload_n 1, 1) := by decide +kernel
theorem dX6_greatestPitch_24 : decode cX6_greatestPitch 24 = .ok (.iload 4, 2) := by decide +kernel
theorem dX6_greatestPitch_26 : decode cX6_greatestPitch 26 = .ok (.iload_n 3, 1) := by decide +kernel
theorem dX6_greatestPitch_27 : decode cX6_greatestPitch 27 = .ok (.invokevirtual 155, 3) := by decide +kernel
theorem dX6_greatestPitch_30 : decode cX6_greatestPitch 30 = .ok (.invokestatic 158, 3) := by decide +kernel
theorem dX6_greatestPitch_33 : decode cX6_greatestPitch 33 = .ok (.istore 5, 2) := by decide +kernel
theorem dX6_greatestPitch_35 : decode cX6_greatestPitch 35 = .ok (.iload 5, 2) := by decide +kernel
theorem dX6_greatestPitch_37 : decode cX6_greatestPitch 37 = .ok (.iload_n 2, 1) := by decide +kernel
theorem dX6_greatestPitch_38 : decode cX6_greatestPitch 38 = .ok (.if_icmp .le 8, 3) := by decide +kernel
theorem dX6_greatestPitch_41 : decode cX6_greatestPitch 41 = .ok (.iload 5, 2) := by decide +kernel
theorem dX6_greatestPitch_43 : decode cX6_greatestPitch 43 = .ok (.goto 4, 3) := by decide +kernel
theorem dX6_greatestPitch_46 : decode cX6_greatestPitch 46 = .ok (.iload_n 2, 1) := by decide +kernel
theorem dX6_greatestPitch_47 : decode cX6_greatestPitch 47 = .ok (.istore_n 2, 1) := by decide +kernel
theorem dX6_greatestPitch_48 : decode cX6_greatestPitch 48 = .ok (.iinc 4 1, 3) := by decide +kernel
theorem dX6_greatestPitch_51 : decode cX6_greatestPitch 51 = .ok (.goto (-35), 3) := by decide +kernel
theorem dX6_greatestPitch_54 : decode cX6_greatestPitch 54 = .ok (.iinc 3 1, 3) := by decide +kernel
theorem dX6_greatestPitch_57 : decode cX6_greatestPitch 57 = .ok (.goto (-53), 3) := by decide +kernel
theorem dX6_greatestPitch_60 : decode cX6_greatestPitch 60 = .ok (.iload_n 2, 1) := by decide +kernel
theorem dX6_greatestPitch_61 : decode cX6_greatestPitch 61 = .ok (.ireturn, 1) := by decide +kernel
theorem dX6_runout_0 : decode cX6_runout 0 = .ok (.sipush (-5000), 3) := by decide +kernel
theorem dX6_runout_3 : decode cX6_runout 3 = .ok (.istore_n 2, 1) := by decide +kernel
theorem dX6_runout_4 : decode cX6_runout 4 = .ok (.sipush 5000, 3) := by decide +kernel
theorem dX6_runout_7 : decode cX6_runout 7 = .ok (.istore_n 3, 1) := by decide +kernel
theorem dX6_runout_8 : decode cX6_runout 8 = .ok (.iconst 0, 1) := by decide +kernel
theorem dX6_runout_9 : decode cX6_runout 9 = .ok (.istore 4, 2) := by decide +kernel
theorem dX6_runout_11 : decode cX6_runout 11 = .ok (.iload 4, 2) := by decide +kernel
theorem dX6_runout_13 : decode cX6_runout 13 = .ok (.aload_n 0, 1) := by decide +kernel
theorem dX6_runout_14 : decode cX6_runout 14 = .ok (.iload_n 1, 1) := by decide +kernel
theorem dX6_runout_15 : decode cX6_runout 15 = .ok (.invokevirtual 59, 3) := by decide +kernel
theorem dX6_runout_18 : decode cX6_runout 18 = .ok (.if_icmp .ge 45, 3) := by decide +kernel
theorem dX6_runout_21 : decode cX6_runout 21 = .ok (.aload_n 0, 1) := by decide +kernel
theorem dX6_runout_22 : decode cX6_runout 22 = .ok (.iload_n 1, 1) := by decide +kernel
theorem dX6_runout_23 : decode cX6_runout 23 = .ok (.iconst 2, 1) := by decide +kernel
theorem dX6_runout_24 : decode cX6_runout 24 = .ok (.iload 4, 2) := by decide +kernel
theorem dX6_runout_26 : decode cX6_runout 26 = .ok (.invokevirtual 70, 3) := by decide +kernel
theorem dX6_runout_29 : decode cX6_runout 29 = .ok (.istore 5, 2) := by decide +kernel
theorem dX6_runout_31 : decode cX6_runout 31 = .ok (.iload 5, 2) := by decide +kernel
theorem dX6_runout_33 : decode cX6_runout 33 = .ok (.iload_n 2, 1) := by decide +kernel
theorem dX6_runout_34 : decode cX6_runout 34 = .ok (.if_icmp .le 8, 3) := by decide +kernel
theorem dX6_runout_37 : decode cX6_runout 37 = .ok (.iload 5, 2) := by decide +kernel
theorem dX6_runout_39 : decode cX6_runout 39 = .ok (.goto 4, 3) := by decide +kernel
theorem dX6_runout_42 : decode cX6_runout 42 = .ok (.iload_n 2, 1) := by decide +kernel
theorem dX6_runout_43 : decode cX6_runout 43 = .ok (.istore_n 2, 1) := by decide +kernel
theorem dX6_runout_44 : decode cX6_runout 44 = .ok (.iload 5, 2) := by decide +kernel
theorem dX6_runout_46 : decode cX6_runout 46 = .ok (.iload_n 3, 1) := by decide +kernel
theorem dX6_runout_47 : decode cX6_runout 47 = .ok (.if_icmp .ge 8, 3) := by decide +kernel
theorem dX6_runout_50 : decode cX6_runout 50 = .ok (.iload 5, 2) := by decide +kernel
theorem dX6_runout_52 : decode cX6_runout 52 = .ok (.goto 4, 3) := by decide +kernel
theorem dX6_runout_55 : decode cX6_runout 55 = .ok (.iload_n 3, 1) := by decide +kernel
theorem dX6_runout_56 : decode cX6_runout 56 = .ok (.istore_n 3, 1) := by decide +kernel
theorem dX6_runout_57 : decode cX6_runout 57 = .ok (.iinc 4 1, 3) := by decide +kernel
theorem dX6_runout_60 : decode cX6_runout 60 = .ok (.goto (-49), 3) := by decide +kernel
theorem dX6_runout_63 : decode cX6_runout 63 = .ok (.iload_n 2, 1) := by decide +kernel
theorem dX6_runout_64 : decode cX6_runout 64 = .ok (.iload_n 3, 1) := by decide +kernel
theorem dX6_runout_65 : decode cX6_runout 65 = .ok (.isub, 1) := by decide +kernel
theorem dX6_runout_66 : decode cX6_runout 66 = .ok (.ireturn, 1) := by decide +kernel
theorem dX6_greatestOfLines_0 : decode cX6_greatestOfLines 0 = .ok (.iconst 0, 1) := by decide +kernel
theorem dX6_greatestOfLines_1 : decode cX6_greatestOfLines 1 = .ok (.istore 4, 2) := by decide +kernel
theorem dX6_greatestOfLines_3 : decode cX6_greatestOfLines 3 = .ok (.iconst 0, 1) := by decide +kernel
theorem dX6_greatestOfLines_4 : decode cX6_greatestOfLines 4 = .ok (.istore 5, 2) := by decide +kernel
theorem dX6_greatestOfLines_6 : decode cX6_greatestOfLines 6 = .ok (.iload 5, 2) := by decide +kernel
theorem dX6_greatestOfLines_8 : decode cX6_greatestOfLines 8 = .ok (.aload_n 0, 1) := by decide +kernel
theorem dX6_greatestOfLines_9 : decode cX6_greatestOfLines 9 = .ok (.getfield 7, 3) := by decide +kernel
theorem dX6_greatestOfLines_12 : decode cX6_greatestOfLines 12 = .ok (.sipush 571, 3) := by decide +kernel
theorem dX6_greatestOfLines_15 : decode cX6_greatestOfLines 15 = .ok (.iaload, 1) := by decide +kernel
theorem dX6_greatestOfLines_16 : decode cX6_greatestOfLines 16 = .ok (.if_icmp .ge 70, 3) := by decide +kernel
theorem dX6_greatestOfLines_19 : decode cX6_greatestOfLines 19 = .ok (.aload_n 0, 1) := by decide +kernel
theorem dX6_greatestOfLines_20 : decode cX6_greatestOfLines 20 = .ok (.iload 5, 2) := by decide +kernel
theorem dX6_greatestOfLines_22 : decode cX6_greatestOfLines 22 = .ok (.iconst 0, 1) := by decide +kernel
theorem dX6_greatestOfLines_23 : decode cX6_greatestOfLines 23 = .ok (.invokevirtual 96, 3) := by decide +kernel
theorem dX6_greatestOfLines_26 : decode cX6_greatestOfLines 26 = .ok (.iload_n 1, 1) := by decide +kernel
theorem dX6_greatestOfLines_27 : decode cX6_greatestOfLines 27 = .ok (.if_icmp .ne 53, 3) := by decide +kernel
theorem dX6_greatestOfLines_30 : decode cX6_greatestOfLines 30 = .ok (.aload_n 0, 1) := by decide +kernel
theorem dX6_greatestOfLines_31 : decode cX6_greatestOfLines 31 = .ok (.iload 5, 2) := by decide +kernel
theorem dX6_greatestOfLines_33 : decode cX6_greatestOfLines 33 = .ok (.iconst 1, 1) := by decide +kernel
theorem dX6_greatestOfLines_34 : decode cX6_greatestOfLines 34 = .ok (.invokevirtual 96, 3) := by decide +kernel
theorem dX6_greatestOfLines_37 : decode cX6_greatestOfLines 37 = .ok (.iload_n 2, 1) := by decide +kernel
theorem dX6_greatestOfLines_38 : decode cX6_greatestOfLines 38 = .ok (.if_icmp .ne 42, 3) := by decide +kernel
theorem dX6_greatestOfLines_41 : decode cX6_greatestOfLines 41 = .ok (.aload_n 0, 1) := by decide +kernel
theorem dX6_greatestOfLines_42 : decode cX6_greatestOfLines 42 = .ok (.iload 5, 2) := by decide +kernel
theorem dX6_greatestOfLines_44 : decode cX6_greatestOfLines 44 = .ok (.iconst 2, 1) := by decide +kernel
theorem dX6_greatestOfLines_45 : decode cX6_greatestOfLines 45 = .ok (.invokevirtual 96, 3) := by decide +kernel
theorem dX6_greatestOfLines_48 : decode cX6_greatestOfLines 48 = .ok (.iconst 2, 1) := by decide +kernel
theorem dX6_greatestOfLines_49 : decode cX6_greatestOfLines 49 = .ok (.if_icmp .le 31, 3) := by decide +kernel
theorem dX6_greatestOfLines_52 : decode cX6_greatestOfLines 52 = .ok (.aload_n 0, 1) := by decide +kernel
theorem dX6_greatestOfLines_53 : decode cX6_greatestOfLines 53 = .ok (.iload 5, 2) := by decide +kernel
theorem dX6_greatestOfLines_55 : decode cX6_greatestOfLines 55 = .ok (.iload_n 3, 1) := by decide +kernel
theorem dX6_greatestOfLines_56 : decode cX6_greatestOfLines 56 = .ok (.invokevirtual 168, 3) := by decide +kernel
theorem dX6_greatestOfLines_59 : decode cX6_greatestOfLines 59 = .ok (.invokestatic 158, 3) := by decide +kernel
theorem dX6_greatestOfLines_62 : decode cX6_greatestOfLines 62 = .ok (.istore 6, 2) := by decide +kernel
theorem dX6_greatestOfLines_64 : decode cX6_greatestOfLines 64 = .ok (.iload 6, 2) := by decide +kernel
theorem dX6_greatestOfLines_66 : decode cX6_greatestOfLines 66 = .ok (.iload 4, 2) := by decide +kernel
theorem dX6_greatestOfLines_68 : decode cX6_greatestOfLines 68 = .ok (.if_icmp .le 8, 3) := by decide +kernel
theorem dX6_greatestOfLines_71 : decode cX6_greatestOfLines 71 = .ok (.iload 6, 2) := by decide +kernel
theorem dX6_greatestOfLines_73 : decode cX6_greatestOfLines 73 = .ok (.goto 5, 3) := by decide +kernel
theorem dX6_greatestOfLines_76 : decode cX6_greatestOfLines 76 = .ok (.iload 4, 2) := by decide +kernel
theorem dX6_greatestOfLines_78 : decode cX6_greatestOfLines 78 = .ok (.istore 4, 2) := by decide +kernel
theorem dX6_greatestOfLines_80 : decode cX6_greatestOfLines 80 = .ok (.iinc 5 1, 3) := by decide +kernel
theorem dX6_greatestOfLines_83 : decode cX6_greatestOfLines 83 = .ok (.goto (-77), 3) := by decide +kernel
theorem dX6_greatestOfLines_86 : decode cX6_greatestOfLines 86 = .ok (.iload 4, 2) := by decide +kernel
theorem dX6_greatestOfLines_88 : decode cX6_greatestOfLines 88 = .ok (.ireturn, 1) := by decide +kernel
theorem dX6_deviationOf_0 : decode cX6_deviationOf 0 = .ok (.iload_n 2, 1) := by decide +kernel
theorem dX6_deviationOf_1 : decode cX6_deviationOf 1 = .ok (.tableswitch 70 0 2 #[27, 33, 64], 27) := by decide +kernel
theorem dX6_deviationOf_28 : decode cX6_deviationOf 28 = .ok (.aload_n 0, 1) := by decide +kernel
theorem dX6_deviationOf_29 : decode cX6_deviationOf 29 = .ok (.iload_n 1, 1) := by decide +kernel
theorem dX6_deviationOf_30 : decode cX6_deviationOf 30 = .ok (.invokevirtual 171, 3) := by decide +kernel
theorem dX6_deviationOf_33 : decode cX6_deviationOf 33 = .ok (.ireturn, 1) := by decide +kernel
theorem dX6_deviationOf_34 : decode cX6_deviationOf 34 = .ok (.aload_n 0, 1) := by decide +kernel
theorem dX6_deviationOf_35 : decode cX6_deviationOf 35 = .ok (.iload_n 1, 1) := by decide +kernel
theorem dX6_deviationOf_36 : decode cX6_deviationOf 36 = .ok (.iconst 0, 1) := by decide +kernel
theorem dX6_deviationOf_37 : decode cX6_deviationOf 37 = .ok (.invokevirtual 174, 3) := by decide +kernel
theorem dX6_deviationOf_40 : decode cX6_deviationOf 40 = .ok (.aload_n 0, 1) := by decide +kernel
theorem dX6_deviationOf_41 : decode cX6_deviationOf 41 = .ok (.iload_n 1, 1) := by decide +kernel
theorem dX6_deviationOf_42 : decode cX6_deviationOf 42 = .ok (.iconst 1, 1) := by decide +kernel
theorem dX6_deviationOf_43 : decode cX6_deviationOf 43 = .ok (.invokevirtual 174, 3) := by decide +kernel
theorem dX6_deviationOf_46 : decode cX6_deviationOf 46 = .ok (.if_icmp .le 12, 3) := by decide +kernel
theorem dX6_deviationOf_49 : decode cX6_deviationOf 49 = .ok (.aload_n 0, 1) := by decide +kernel
theorem dX6_deviationOf_50 : decode cX6_deviationOf 50 = .ok (.iload_n 1, 1) := by decide +kernel
theorem dX6_deviationOf_51 : decode cX6_deviationOf 51 = .ok (.iconst 0, 1) := by decide +kernel
theorem dX6_deviationOf_52 : decode cX6_deviationOf 52 = .ok (.invokevirtual 174, 3) := by decide +kernel
theorem dX6_deviationOf_55 : decode cX6_deviationOf 55 = .ok (.goto 9, 3) := by decide +kernel
theorem dX6_deviationOf_58 : decode cX6_deviationOf 58 = .ok (.aload_n 0, 1) := by decide +kernel
theorem dX6_deviationOf_59 : decode cX6_deviationOf 59 = .ok (.iload_n 1, 1) := by decide +kernel
theorem dX6_deviationOf_60 : decode cX6_deviationOf 60 = .ok (.iconst 1, 1) := by decide +kernel
theorem dX6_deviationOf_61 : decode cX6_deviationOf 61 = .ok (.invokevirtual 174, 3) := by decide +kernel
theorem dX6_deviationOf_64 : decode cX6_deviationOf 64 = .ok (.ireturn, 1) := by decide +kernel
theorem dX6_deviationOf_65 : decode cX6_deviationOf 65 = .ok (.aload_n 0, 1) := by decide +kernel
theorem dX6_deviationOf_66 : decode cX6_deviationOf 66 = .ok (.iload_n 1, 1) := by decide +kernel
theorem dX6_deviationOf_67 : decode cX6_deviationOf 67 = .ok (.invokevirtual 177, 3) := by decide +kernel
theorem dX6_deviationOf_70 : decode cX6_deviationOf 70 = .ok (.ireturn, 1) := by decide +kernel
theorem dX6_deviationOf_71 : decode cX6_deviationOf 71 = .ok (.aload_n 0, 1) := by decide +kernel
theorem dX6_deviationOf_72 : decode cX6_deviationOf 72 = .ok (.iload_n 1, 1) := by decide +kernel
theorem dX6_deviationOf_73 : decode cX6_deviationOf 73 = .ok (.iload_n 2, 1) := by decide +kernel
theorem dX6_deviationOf_74 : decode cX6_deviationOf 74 = .ok (.bipush 6, 2) := by decide +kernel
theorem dX6_deviationOf_76 : decode cX6_deviationOf 76 = .ok (.if_icmp .ge 7, 3) := by decide +kernel
theorem dX6_deviationOf_79 : decode cX6_deviationOf 79 = .ok (.iconst 0, 1) := by decide +kernel
theorem dX6_deviationOf_80 : decode cX6_deviationOf 80 = .ok (.goto 4, 3) := by decide +kernel
theorem dX6_deviationOf_83 : decode cX6_deviationOf 83 = .ok (.iconst 1, 1) := by decide +kernel
theorem dX6_deviationOf_84 : decode cX6_deviationOf 84 = .ok (.iload_n 2, 1) := by decide +kernel
theorem dX6_deviationOf_85 : decode cX6_deviationOf 85 = .ok (.iconst 3, 1) := by decide +kernel
theorem dX6_deviationOf_86 : decode cX6_deviationOf 86 = .ok (.irem, 1) := by decide +kernel
theorem dX6_deviationOf_87 : decode cX6_deviationOf 87 = .ok (.invokevirtual 180, 3) := by decide +kernel
theorem dX6_deviationOf_90 : decode cX6_deviationOf 90 = .ok (.ireturn, 1) := by decide +kernel
theorem dX6_isDeviation_0 : decode cX6_isDeviation 0 = .ok (.iload_n 0, 1) := by decide +kernel
theorem dX6_isDeviation_1 : decode cX6_isDeviation 1 = .ok (.i2l, 1) := by decide +kernel
theorem dX6_isDeviation_2 : decode cX6_isDeviation 2 = .ok (.lconst 0, 1) := by decide +kernel
theorem dX6_isDeviation_3 : decode cX6_isDeviation 3 = .ok (.ldc2_w 183, 3) := by decide +kernel
theorem dX6_isDeviation_6 : decode cX6_isDeviation 6 = .ok (.invokestatic 51, 3) := by decide +kernel
theorem dX6_isDeviation_9 : decode cX6_isDeviation 9 = .ok (.ireturn, 1) := by decide +kernel
theorem dX6_deviation_0 : decode cX6_deviation 0 = .ok (.aload_n 0, 1) := by decide +kernel
theorem dX6_deviation_1 : decode cX6_deviation 1 = .ok (.iload_n 1, 1) := by decide +kernel
theorem dX6_deviation_2 : decode cX6_deviation 2 = .ok (.invokevirtual 62, 3) := by decide +kernel
theorem dX6_deviation_5 : decode cX6_deviation 5 = .ok (.ifCond .ne 9, 3) := by decide +kernel
theorem dX6_deviation_8 : decode cX6_deviation 8 = .ok (.aload_n 0, 1) := by decide +kernel
theorem dX6_deviation_9 : decode cX6_deviation 9 = .ok (.iconst 1, 1) := by decide +kernel
theorem dX6_deviation_10 : decode cX6_deviation 10 = .ok (.invokevirtual 83, 3) := by decide +kernel
theorem dX6_deviation_13 : decode cX6_deviation 13 = .ok (.ireturn, 1) := by decide +kernel
theorem dX6_deviation_14 : decode cX6_deviation 14 = .ok (.iload_n 2, 1) := by decide +kernel
theorem dX6_deviation_15 : decode cX6_deviation 15 = .ok (.invokestatic 185, 3) := by decide +kernel
theorem dX6_deviation_18 : decode cX6_deviation 18 = .ok (.ifCond .eq 16, 3) := by decide +kernel
theorem dX6_deviation_21 : decode cX6_deviation 21 = .ok (.aload_n 0, 1) := by decide +kernel
theorem dX6_deviation_22 : decode cX6_deviation 22 = .ok (.aload_n 0, 1) := by decide +kernel
theorem dX6_deviation_23 : decode cX6_deviation 23 = .ok (.iload_n 1, 1) := by decide +kernel
theorem dX6_deviation_24 : decode cX6_deviation 24 = .ok (.iload_n 2, 1) := by decide +kernel
theorem dX6_deviation_25 : decode cX6_deviation 25 = .ok (.invokevirtual 188, 3) := by decide +kernel
theorem dX6_deviation_28 : decode cX6_deviation 28 = .ok (.invokevirtual 41, 3) := by decide +kernel
theorem dX6_deviation_31 : decode cX6_deviation 31 = .ok (.goto 8, 3) := by decide +kernel
theorem dX6_deviation_34 : decode cX6_deviation 34 = .ok (.aload_n 0, 1) := by decide +kernel
theorem dX6_deviation_35 : decode cX6_deviation 35 = .ok (.iconst 2, 1) := by decide +kernel
theorem dX6_deviation_36 : decode cX6_deviation 36 = .ok (.invokevirtual 83, 3) := by decide +kernel
theorem dX6_deviation_39 : decode cX6_deviation 39 = .ok (.ireturn, 1) := by decide +kernel
theorem dX6_fits_0 : decode cX6_fits 0 = .ok (.aload_n 0, 1) := by decide +kernel
theorem dX6_fits_1 : decode cX6_fits 1 = .ok (.iload_n 1, 1) := by decide +kernel
theorem dX6_fits_2 : decode cX6_fits 2 = .ok (.iconst 2, 1) := by decide +kernel
theorem dX6_fits_3 : decode cX6_fits 3 = .ok (.invokevirtual 96, 3) := by decide +kernel
theorem dX6_fits_6 : decode cX6_fits 6 = .ok (.i2l, 1) := by decide +kernel
theorem dX6_fits_7 : decode cX6_fits 7 = .ok (.lstore_n 2, 1) := by decide +kernel
theorem dX6_fits_8 : decode cX6_fits 8 = .ok (.lconst 0, 1) := by decide +kernel
theorem dX6_fits_9 : decode cX6_fits 9 = .ok (.lstore 4, 2) := by decide +kernel
theorem dX6_fits_11 : decode cX6_fits 11 = .ok (.lconst 0, 1) := by decide +kernel
theorem dX6_fits_12 : decode cX6_fits 12 = .ok (.lstore 6, 2) := by decide +kernel
theorem dX6_fits_14 : decode cX6_fits 14 = .ok (.lconst 0, 1) := by decide +kernel
theorem dX6_fits_15 : decode cX6_fits 15 = .ok (.lstore 8, 2) := by decide +kernel
theorem dX6_fits_17 : decode cX6_fits 17 = .ok (.lconst 0, 1) := by decide +kernel
theorem dX6_fits_18 : decode cX6_fits 18 = .ok (.lstore 10, 2) := by decide +kernel
theorem dX6_fits_20 : decode cX6_fits 20 = .ok (.iconst 0, 1) := by decide +kernel
theorem dX6_fits_21 : decode cX6_fits 21 = .ok (.istore 12, 2) := by decide +kernel
theorem dX6_fits_23 : decode cX6_fits 23 = .ok (.iload 12, 2) := by decide +kernel
theorem dX6_fits_25 : decode cX6_fits 25 = .ok (.i2l, 1) := by decide +kernel
theorem dX6_fits_26 : decode cX6_fits 26 = .ok (.lload_n 2, 1) := by decide +kernel
theorem dX6_fits_27 : decode cX6_fits 27 = .ok (.lcmp, 1) := by decide +kernel
theorem dX6_fits_28 : decode cX6_fits 28 = .ok (.ifCond .ge 63, 3) := by decide +kernel
theorem dX6_fits_31 : decode cX6_fits 31 = .ok (.lload 4, 2) := by decide +kernel
theorem dX6_fits_33 : decode cX6_fits 33 = .ok (.iload 12, 2) := by decide +kernel
theorem dX6_fits_35 : decode cX6_fits 35 = .ok (.i2l, 1) := by decide +kernel
theorem dX6_fits_36 : decode cX6_fits 36 = .ok (.ladd, 1) := by decide +kernel
theorem dX6_fits_37 : decode cX6_fits 37 = .ok (.lstore 4, 2) := by decide +kernel
theorem dX6_fits_39 : decode cX6_fits 39 = .ok (.lload 6, 2) := by decide +kernel
theorem dX6_fits_41 : decode cX6_fits 41 = .ok (.iload 12, 2) := by decide +kernel
theorem dX6_fits_43 : decode cX6_fits 43 = .ok (.i2l, 1) := by decide +kernel
theorem dX6_fits_44 : decode cX6_fits 44 = .ok (.iload 12, 2) := by decide +kernel
theorem dX6_fits_46 : decode cX6_fits 46 = .ok (.i2l, 1) := by decide +kernel
theorem dX6_fits_47 : decode cX6_fits 47 = .ok (.lmul, 1) := by decide +kernel
theorem dX6_fits_48 : decode cX6_fits 48 = .ok (.ladd, 1) := by decide +kernel
theorem dX6_fits_49 : decode cX6_fits 49 = .ok (.lstore 6, 2) := by decide +kernel
theorem dX6_fits_51 : decode cX6_fits 51 = .ok (.lload 8, 2) := by decide +kernel
theorem dX6_fits_53 : decode cX6_fits 53 = .ok (.aload_n 0, 1) := by decide +kernel
theorem dX6_fits_54 : decode cX6_fits 54 = .ok (.iload_n 1, 1) := by decide +kernel
theorem dX6_fits_55 : decode cX6_fits 55 = .ok (.iconst 3, 1) := by decide +kernel
theorem dX6_fits_56 : decode cX6_fits 56 = .ok (.iload 12, 2) := by decide +kernel
theorem dX6_fits_58 : decode cX6_fits 58 = .ok (.iadd, 1) := by decide +kernel
theorem dX6_fits_59 : decode cX6_fits 59 = .ok (.invokevirtual 96, 3) := by decide +kernel
theorem dX6_fits_62 : decode cX6_fits 62 = .ok (.i2l, 1) := by decide +kernel
theorem dX6_fits_63 : decode cX6_fits 63 = .ok (.ladd, 1) := by decide +kernel
theorem dX6_fits_64 : decode cX6_fits 64 = .ok (.lstore 8, 2) := by decide +kernel
theorem dX6_fits_66 : decode cX6_fits 66 = .ok (.lload 10, 2) := by decide +kernel
theorem dX6_fits_68 : decode cX6_fits 68 = .ok (.iload 12, 2) := by decide +kernel
theorem dX6_fits_70 : decode cX6_fits 70 = .ok (.i2l, 1) := by decide +kernel
theorem dX6_fits_71 : decode cX6_fits 71 = .ok (.aload_n 0, 1) := by decide +kernel
theorem dX6_fits_72 : decode cX6_fits 72 = .ok (.iload_n 1, 1) := by decide +kernel
theorem dX6_fits_73 : decode cX6_fits 73 = .ok (.iconst 3, 1) := by decide +kernel
theorem dX6_fits_74 : decode cX6_fits 74 = .ok (.iload 12, 2) := by decide +kernel
theorem dX6_fits_76 : decode cX6_fits 76 = .ok (.iadd, 1) := by decide +kernel
theorem dX6_fits_77 : decode cX6_fits 77 = .ok (.invokevirtual 96, 3) := by decide +kernel
theorem dX6_fits_80 : decode cX6_fits 80 = .ok (.i2l, 1) := by decide +kernel
theorem dX6_fits_81 : decode cX6_fits 81 = .ok (.lmul, 1) := by decide +kernel
theorem dX6_fits_82 : decode cX6_fits 82 = .ok (.ladd, 1) := by decide +kernel
theorem dX6_fits_83 : decode cX6_fits 83 = .ok (.lstore 10, 2) := by decide +kernel
theorem dX6_fits_85 : decode cX6_fits 85 = .ok (.iinc 12 1, 3) := by decide +kernel
theorem dX6_fits_88 : decode cX6_fits 88 = .ok (.goto (-65), 3) := by decide +kernel
theorem dX6_fits_91 : decode cX6_fits 91 = .ok (.aload_n 0, 1) := by decide +kernel
theorem dX6_fits_92 : decode cX6_fits 92 = .ok (.lload_n 2, 1) := by decide +kernel
theorem dX6_fits_93 : decode cX6_fits 93 = .ok (.lload 10, 2) := by decide +kernel
theorem dX6_fits_95 : decode cX6_fits 95 = .ok (.lmul, 1) := by decide +kernel
theorem dX6_fits_96 : decode cX6_fits 96 = .ok (.lload 4, 2) := by decide +kernel
theorem dX6_fits_98 : decode cX6_fits 98 = .ok (.lload 8, 2) := by decide +kernel
theorem dX6_fits_100 : decode cX6_fits 100 = .ok (.lmul, 1) := by decide +kernel
theorem dX6_fits_101 : decode cX6_fits 101 = .ok (.lsub, 1) := by decide +kernel
theorem dX6_fits_102 : decode cX6_fits 102 = .ok (.putfield 191, 3) := by decide +kernel
theorem dX6_fits_105 : decode cX6_fits 105 = .ok (.aload_n 0, 1) := by decide +kernel
theorem dX6_fits_106 : decode cX6_fits 106 = .ok (.lload_n 2, 1) := by decide +kernel
theorem dX6_fits_107 : decode cX6_fits 107 = .ok (.lload 6, 2) := by decide +kernel
theorem dX6_fits_109 : decode cX6_fits 109 = .ok (.lmul, 1) := by decide +kernel
theorem dX6_fits_110 : decode cX6_fits 110 = .ok (.lload 4, 2) := by decide +kernel
theorem dX6_fits_112 : decode cX6_fits 112 = .ok (.lload 4, 2) := by decide +kernel
theorem dX6_fits_114 : decode cX6_fits 114 = .ok (.lmul, 1) := by decide +kernel
theorem dX6_fits_115 : decode cX6_fits 115 = .ok (.lsub, 1) := by decide +kernel
theorem dX6_fits_116 : decode cX6_fits 116 = .ok (.putfield 195, 3) := by decide +kernel
theorem dX6_fits_119 : decode cX6_fits 119 = .ok (.aload_n 0, 1) := by decide +kernel
theorem dX6_fits_120 : decode cX6_fits 120 = .ok (.lload 8, 2) := by decide +kernel
theorem dX6_fits_122 : decode cX6_fits 122 = .ok (.aload_n 0, 1) := by decide +kernel
theorem dX6_fits_123 : decode cX6_fits 123 = .ok (.getfield 195, 3) := by decide +kernel
theorem dX6_fits_126 : decode cX6_fits 126 = .ok (.lmul, 1) := by decide +kernel
theorem dX6_fits_127 : decode cX6_fits 127 = .ok (.aload_n 0, 1) := by decide +kernel
theorem dX6_fits_128 : decode cX6_fits 128 = .ok (.getfield 191, 3) := by decide +kernel
theorem dX6_fits_131 : decode cX6_fits 131 = .ok (.lload 4, 2) := by decide +kernel
theorem dX6_fits_133 : decode cX6_fits 133 = .ok (.lmul, 1) := by decide +kernel
theorem dX6_fits_134 : decode cX6_fits 134 = .ok (.lsub, 1) := by decide +kernel
theorem dX6_fits_135 : decode cX6_fits 135 = .ok (.putfield 198, 3) := by decide +kernel
theorem dX6_fits_138 : decode cX6_fits 138 = .ok (.aload_n 0, 1) := by decide +kernel
theorem dX6_fits_139 : decode cX6_fits 139 = .ok (.lload_n 2, 1) := by decide +kernel
theorem dX6_fits_140 : decode cX6_fits 140 = .ok (.aload_n 0, 1) := by decide +kernel
theorem dX6_fits_141 : decode cX6_fits 141 = .ok (.getfield 195, 3) := by decide +kernel
theorem dX6_fits_144 : decode cX6_fits 144 = .ok (.lmul, 1) := by decide +kernel
theorem dX6_fits_145 : decode cX6_fits 145 = .ok (.putfield 201, 3) := by decide +kernel
theorem dX6_fits_148 : decode cX6_fits 148 = .ok (.return_, 1) := by decide +kernel
theorem dX6_lineValue_0 : decode cX6_lineValue 0 = .ok (.aload_n 0, 1) := by decide +kernel
theorem dX6_lineValue_1 : decode cX6_lineValue 1 = .ok (.iload_n 1, 1) := by decide +kernel
theorem dX6_lineValue_2 : decode cX6_lineValue 2 = .ok (.invokevirtual 204, 3) := by decide +kernel
theorem dX6_lineValue_5 : decode cX6_lineValue 5 = .ok (.aload_n 0, 1) := by decide +kernel
theorem dX6_lineValue_6 : decode cX6_lineValue 6 = .ok (.iload_n 1, 1) := by decide +kernel
theorem dX6_lineValue_7 : decode cX6_lineValue 7 = .ok (.iconst 2, 1) := by decide +kernel
theorem dX6_lineValue_8 : decode cX6_lineValue 8 = .ok (.invokevirtual 96, 3) := by decide +kernel
theorem dX6_lineValue_11 : decode cX6_lineValue 11 = .ok (.istore_n 3, 1) := by decide +kernel
theorem dX6_lineValue_12 : decode cX6_lineValue 12 = .ok (.iload_n 2, 1) := by decide +kernel
theorem dX6_lineValue_13 : decode cX6_lineValue 13 = .ok (.iconst 1, 1) := by decide +kernel
theorem dX6_lineValue_14 : decode cX6_lineValue 14 = .ok (.if_icmp .ne 20, 3) := by decide +kernel
theorem dX6_lineValue_17 : decode cX6_lineValue 17 = .ok (.aload_n 0, 1) := by decide +kernel
theorem dX6_lineValue_18 : decode cX6_lineValue 18 = .ok (.getfield 191, 3) := by decide +kernel
theorem dX6_lineValue_21 : decode cX6_lineValue 21 = .ok (.iload_n 3, 1) := by decide +kernel
theorem dX6_lineValue_22 : decode cX6_lineValue 22 = .ok (.iconst 1, 1) := by decide +kernel
theorem dX6_lineValue_23 : decode cX6_lineValue 23 = .ok (.isub, 1) := by decide +kernel
theorem dX6_lineValue_24 : decode cX6_lineValue 24 = .ok (.i2l, 1) := by decide +kernel
theorem dX6_lineValue_25 : decode cX6_lineValue 25 = .ok (.lmul, 1) := by decide +kernel
theorem dX6_lineValue_26 : decode cX6_lineValue 26 = .ok (.aload_n 0, 1) := by decide +kernel
theorem dX6_lineValue_27 : decode cX6_lineValue 27 = .ok (.getfield 195, 3) := by decide +kernel
theorem dX6_lineValue_30 : decode cX6_lineValue 30 = .ok (.invokestatic 145, 3) := by decide +kernel
theorem dX6_lineValue_33 : decode cX6_lineValue 33 = .ok (.ireturn, 1) := by decide +kernel
theorem dX6_lineValue_34 : decode cX6_lineValue 34 = .ok (.lconst 0, 1) := by decide +kernel
theorem dX6_lineValue_35 : decode cX6_lineValue 35 = .ok (.lstore 4, 2) := by decide +kernel
theorem dX6_lineValue_37 : decode cX6_lineValue 37 = .ok (.lconst 0, 1) := by decide +kernel
theorem dX6_lineValue_38 : decode cX6_lineValue 38 = .ok (.lstore 6, 2) := by decide +kernel
theorem dX6_lineValue_40 : decode cX6_lineValue 40 = .ok (.iconst 0, 1) := by decide +kernel
theorem dX6_lineValue_41 : decode cX6_lineValue 41 = .ok (.istore 8, 2) := by decide +kernel
theorem dX6_lineValue_43 : decode cX6_lineValue 43 = .ok (.iload 8, 2) := by decide +kernel
theorem dX6_lineValue_45 : decode cX6_lineValue 45 = .ok (.iload_n 3, 1) := by decide +kernel
theorem dX6_lineValue_46 : decode cX6_lineValue 46 = .ok (.if_icmp .ge 104, 3) := by decide +kernel
theorem dX6_lineValue_49 : decode cX6_lineValue 49 = .ok (.iload_n 2, 1) := by decide +kernel
theorem dX6_lineValue_50 : decode cX6_lineValue 50 = .ok (.ifCond .ne 16, 3) := by decide +kernel
theorem dX6_lineValue_53 : decode cX6_lineValue 53 = .ok (.aload_n 0, 1) := by decide +kernel
theorem dX6_lineValue_54 : decode cX6_lineValue 54 = .ok (.iload_n 1, 1) := by decide +kernel
theorem dX6_lineValue_55 : decode cX6_lineValue 55 = .ok (.iconst 3, 1) := by decide +kernel
theorem dX6_lineValue_56 : decode cX6_lineValue 56 = .ok (.iload 8, 2) := by decide +kernel
theorem dX6_lineValue_58 : decode cX6_lineValue 58 = .ok (.iadd, 1) := by decide +kernel
theorem dX6_lineValue_59 : decode cX6_lineValue 59 = .ok (.invokevirtual 96, 3) := by decide +kernel
theorem dX6_lineValue_62 : decode cX6_lineValue 62 = .ok (.i2l, 1) := by decide +kernel
theorem dX6_lineValue_63 : decode cX6_lineValue 63 = .ok (.goto 35, 3) := by decide +kernel
theorem dX6_lineValue_66 : decode cX6_lineValue 66 = .ok (.aload_n 0, 1) := by decide +kernel
theorem dX6_lineValue_67 : decode cX6_lineValue 67 = .ok (.getfield 201, 3) := by decide +kernel
theorem dX6_lineValue_70 : decode cX6_lineValue 70 = .ok (.aload_n 0, 1) := by decide +kernel
theorem dX6_lineValue_71 : decode cX6_lineValue 71 = .ok (.iload_n 1, 1) := by decide +kernel
theorem dX6_lineValue_72 : decode cX6_lineValue 72 = .ok (.iconst 3, 1) := by decide +kernel
theorem dX6_lineValue_73 : decode cX6_lineValue 73 = .ok (.iload 8, 2) := by decide +kernel
theorem dX6_lineValue_75 : decode cX6_lineValue 75 = .ok (.iadd, 1) := by decide +kernel
theorem dX6_lineValue_76 : decode cX6_lineValue 76 = .ok (.invokevirtual 96, 3) := by decide +kernel
theorem dX6_lineValue_79 : decode cX6_lineValue 79 = .ok (.i2l, 1) := by decide +kernel
theorem dX6_lineValue_80 : decode cX6_lineValue 80 = .ok (.lmul, 1) := by decide +kernel
theorem dX6_lineValue_81 : decode cX6_lineValue 81 = .ok (.aload_n 0, 1) := by decide +kernel
theorem dX6_lineValue_82 : decode cX6_lineValue 82 = .ok (.getfield 198, 3) := by decide +kernel
theorem dX6_lineValue_85 : decode cX6_lineValue 85 = .ok (.lsub, 1) := by decide +kernel
theorem dX6_lineValue_86 : decode cX6_lineValue 86 = .ok (.iload_n 3, 1) := by decide +kernel
theorem dX6_lineValue_87 : decode cX6_lineValue 87 = .ok (.i2l, 1) := by decide +kernel
theorem dX6_lineValue_88 : decode cX6_lineValue 88 = .ok (.aload_n 0, 1) := by decide +kernel
theorem dX6_lineValue_89 : decode cX6_lineValue 89 = .ok (.getfield 191, 3) := by decide +kernel
theorem dX6_lineValue_92 : decode cX6_lineValue 92 = .ok (.lmul, 1) := by decide +kernel
theorem dX6_lineValue_93 : decode cX6_lineValue 93 = .ok (.iload 8, 2) := by decide +kernel
theorem dX6_lineValue_95 : decode cX6_lineValue 95 = .ok (.i2l, 1) := by decide +kernel
theorem dX6_lineValue_96 : decode cX6_lineValue 96 = .ok (.lmul, 1) := by decide +kernel
theorem dX6_lineValue_97 : decode cX6_lineValue 97 = .ok (.lsub, 1) := by decide +kernel
theorem dX6_lineValue_98 : decode cX6_lineValue 98 = .ok (.lstore 9, 2) := by decide +kernel
theorem dX6_lineValue_100 : decode cX6_lineValue 100 = .ok (.iload 8, 2) := by decide +kernel
theorem dX6_lineValue_102 : decode cX6_lineValue 102 = .ok (.ifCond .eq 11, 3) := by decide +kernel
theorem dX6_lineValue_105 : decode cX6_lineValue 105 = .ok (.lload 9, 2) := by decide +kernel
theorem dX6_lineValue_107 : decode cX6_lineValue 107 = .ok (.lload 4, 2) := by decide +kernel
theorem dX6_lineValue_109 : decode cX6_lineValue 109 = .ok (.lcmp, 1) := by decide +kernel
theorem dX6_lineValue_110 : decode cX6_lineValue 110 = .ok (.ifCond .le 8, 3) := by decide +kernel
theorem dX6_lineValue_113 : decode cX6_lineValue 113 = .ok (.lload 9, 2) := by decide +kernel
theorem dX6_lineValue_115 : decode cX6_lineValue 115 = .ok (.goto 5, 3) := by decide +kernel
theorem dX6_lineValue_118 : decode cX6_lineValue 118 = .ok (.lload 4, 2) := by decide +kernel
theorem dX6_lineValue_120 : decode cX6_lineValue 120 = .ok (.lstore 4, 2) := by decide +kernel
theorem dX6_lineValue_122 : decode cX6_lineValue 122 = .ok (.iload 8, 2) := by decide +kernel
theorem dX6_lineValue_124 : decode cX6_lineValue 124 = .ok (.ifCond .eq 11, 3) := by decide +kernel
theorem dX6_lineValue_127 : decode cX6_lineValue 127 = .ok (.lload 9, 2) := by decide +kernel
theorem dX6_lineValue_129 : decode cX6_lineValue 129 = .ok (.lload 6, 2) := by decide +kernel
theorem dX6_lineValue_131 : decode cX6_lineValue 131 = .ok (.lcmp, 1) := by decide +kernel
theorem dX6_lineValue_132 : decode cX6_lineValue 132 = .ok (.ifCond .ge 8, 3) := by decide +kernel
theorem dX6_lineValue_135 : decode cX6_lineValue 135 = .ok (.lload 9, 2) := by decide +kernel
theorem dX6_lineValue_137 : decode cX6_lineValue 137 = .ok (.goto 5, 3) := by decide +kernel
theorem dX6_lineValue_140 : decode cX6_lineValue 140 = .ok (.lload 6, 2) := by decide +kernel
theorem dX6_lineValue_142 : decode cX6_lineValue 142 = .ok (.lstore 6, 2) := by decide +kernel
theorem dX6_lineValue_144 : decode cX6_lineValue 144 = .ok (.iinc 8 1, 3) := by decide +kernel
theorem dX6_lineValue_147 : decode cX6_lineValue 147 = .ok (.goto (-104), 3) := by decide +kernel
theorem dX6_lineValue_150 : decode cX6_lineValue 150 = .ok (.iload_n 2, 1) := by decide +kernel
theorem dX6_lineValue_151 : decode cX6_lineValue 151 = .ok (.ifCond .ne 12, 3) := by decide +kernel
theorem dX6_lineValue_154 : decode cX6_lineValue 154 = .ok (.lload 4, 2) := by decide +kernel
theorem dX6_lineValue_156 : decode cX6_lineValue 156 = .ok (.lload 6, 2) := by decide +kernel
theorem dX6_lineValue_158 : decode cX6_lineValue 158 = .ok (.lsub, 1) := by decide +kernel
theorem dX6_lineValue_159 : decode cX6_lineValue 159 = .ok (.l2i, 1) := by decide +kernel
theorem dX6_lineValue_160 : decode cX6_lineValue 160 = .ok (.goto 15, 3) := by decide +kernel
theorem dX6_lineValue_163 : decode cX6_lineValue 163 = .ok (.lload 4, 2) := by decide +kernel
theorem dX6_lineValue_165 : decode cX6_lineValue 165 = .ok (.lload 6, 2) := by decide +kernel
theorem dX6_lineValue_167 : decode cX6_lineValue 167 = .ok (.lsub, 1) := by decide +kernel
theorem dX6_lineValue_168 : decode cX6_lineValue 168 = .ok (.aload_n 0, 1) := by decide +kernel
theorem dX6_lineValue_169 : decode cX6_lineValue 169 = .ok (.getfield 201, 3) := by decide +kernel
theorem dX6_lineValue_172 : decode cX6_lineValue 172 = .ok (.invokestatic 145, 3) := by decide +kernel
theorem dX6_lineValue_175 : decode cX6_lineValue 175 = .ok (.ireturn, 1) := by decide +kernel
theorem dX6_putsLine_0 : decode cX6_putsLine 0 = .ok (.sipush 572, 3) := by decide +kernel
theorem dX6_putsLine_3 : decode cX6_putsLine 3 = .ok (.bipush 15, 2) := by decide +kernel
theorem dX6_putsLine_5 : decode cX6_putsLine 5 = .ok (.aload_n 0, 1) := by decide +kernel
theorem dX6_putsLine_6 : decode cX6_putsLine 6 = .ok (.getfield 7, 3) := by decide +kernel
theorem dX6_putsLine_9 : decode cX6_putsLine 9 = .ok (.sipush 571, 3) := by decide +kernel
theorem dX6_putsLine_12 : decode cX6_putsLine 12 = .ok (.iaload, 1) := by decide +kernel
theorem dX6_putsLine_13 : decode cX6_putsLine 13 = .ok (.imul, 1) := by decide +kernel
theorem dX6_putsLine_14 : decode cX6_putsLine 14 = .ok (.iadd, 1) := by decide +kernel
theorem dX6_putsLine_15 : decode cX6_putsLine 15 = .ok (.istore_n 3, 1) := by decide +kernel
theorem dX6_putsLine_16 : decode cX6_putsLine 16 = .ok (.aload_n 0, 1) := by decide +kernel
theorem dX6_putsLine_17 : decode cX6_putsLine 17 = .ok (.getfield 7, 3) := by decide +kernel
theorem dX6_putsLine_20 : decode cX6_putsLine 20 = .ok (.iload_n 3, 1) := by decide +kernel
theorem dX6_putsLine_21 : decode cX6_putsLine 21 = .ok (.iload_n 1, 1) := by decide +kernel
theorem dX6_putsLine_22 : decode cX6_putsLine 22 = .ok (.iastore, 1) := by decide +kernel
theorem dX6_putsLine_23 : decode cX6_putsLine 23 = .ok (.aload_n 0, 1) := by decide +kernel
theorem dX6_putsLine_24 : decode cX6_putsLine 24 = .ok (.getfield 7, 3) := by decide +kernel
theorem dX6_putsLine_27 : decode cX6_putsLine 27 = .ok (.iload_n 3, 1) := by decide +kernel
theorem dX6_putsLine_28 : decode cX6_putsLine 28 = .ok (.iconst 1, 1) := by decide +kernel
theorem dX6_putsLine_29 : decode cX6_putsLine 29 = .ok (.iadd, 1) := by decide +kernel
theorem dX6_putsLine_30 : decode cX6_putsLine 30 = .ok (.iload_n 2, 1) := by decide +kernel
theorem dX6_putsLine_31 : decode cX6_putsLine 31 = .ok (.iastore, 1) := by decide +kernel
theorem dX6_putsLine_32 : decode cX6_putsLine 32 = .ok (.aload_n 0, 1) := by decide +kernel
theorem dX6_putsLine_33 : decode cX6_putsLine 33 = .ok (.getfield 7, 3) := by decide +kernel
theorem dX6_putsLine_36 : decode cX6_putsLine 36 = .ok (.iload_n 3, 1) := by decide +kernel
theorem dX6_putsLine_37 : decode cX6_putsLine 37 = .ok (.iconst 2, 1) := by decide +kernel
theorem dX6_putsLine_38 : decode cX6_putsLine 38 = .ok (.iadd, 1) := by decide +kernel
theorem dX6_putsLine_39 : decode cX6_putsLine 39 = .ok (.iconst 0, 1) := by decide +kernel
theorem dX6_putsLine_40 : decode cX6_putsLine 40 = .ok (.iastore, 1) := by decide +kernel
theorem dX6_putsLine_41 : decode cX6_putsLine 41 = .ok (.aload_n 0, 1) := by decide +kernel
theorem dX6_putsLine_42 : decode cX6_putsLine 42 = .ok (.getfield 7, 3) := by decide +kernel
theorem dX6_putsLine_45 : decode cX6_putsLine 45 = .ok (.sipush 571, 3) := by decide +kernel
theorem dX6_putsLine_48 : decode cX6_putsLine 48 = .ok (.dup2, 1) := by decide +kernel
theorem dX6_putsLine_49 : decode cX6_putsLine 49 = .ok (.iaload, 1) := by decide +kernel
theorem dX6_putsLine_50 : decode cX6_putsLine 50 = .ok (.iconst 1, 1) := by decide +kernel
theorem dX6_putsLine_51 : decode cX6_putsLine 51 = .ok (.iadd, 1) := by decide +kernel
theorem dX6_putsLine_52 : decode cX6_putsLine 52 = .ok (.iastore, 1) := by decide +kernel
theorem dX6_putsLine_53 : decode cX6_putsLine 53 = .ok (.return_, 1) := by decide +kernel
theorem dX6_putsPoint_0 : decode cX6_putsPoint 0 = .ok (.sipush 572, 3) := by decide +kernel
theorem dX6_putsPoint_3 : decode cX6_putsPoint 3 = .ok (.bipush 15, 2) := by decide +kernel
theorem dX6_putsPoint_5 : decode cX6_putsPoint 5 = .ok (.iload_n 1, 1) := by decide +kernel
theorem dX6_putsPoint_6 : decode cX6_putsPoint 6 = .ok (.imul, 1) := by decide +kernel
theorem dX6_putsPoint_7 : decode cX6_putsPoint 7 = .ok (.iadd, 1) := by decide +kernel
theorem dX6_putsPoint_8 : decode cX6_putsPoint 8 = .ok (.istore_n 3, 1) := by decide +kernel
theorem dX6_putsPoint_9 : decode cX6_putsPoint 9 = .ok (.aload_n 0, 1) := by decide +kernel
theorem dX6_putsPoint_10 : decode cX6_putsPoint 10 = .ok (.getfield 7, 3) := by decide +kernel
theorem dX6_putsPoint_13 : decode cX6_putsPoint 13 = .ok (.iload_n 3, 1) := by decide +kernel
theorem dX6_putsPoint_14 : decode cX6_putsPoint 14 = .ok (.iconst 3, 1) := by decide +kernel
theorem dX6_putsPoint_15 : decode cX6_putsPoint 15 = .ok (.iadd, 1) := by decide +kernel
theorem dX6_putsPoint_16 : decode cX6_putsPoint 16 = .ok (.aload_n 0, 1) := by decide +kernel
theorem dX6_putsPoint_17 : decode cX6_putsPoint 17 = .ok (.getfield 7, 3) := by decide +kernel
theorem dX6_putsPoint_20 : decode cX6_putsPoint 20 = .ok (.iload_n 3, 1) := by decide +kernel
theorem dX6_putsPoint_21 : decode cX6_putsPoint 21 = .ok (.iconst 2, 1) := by decide +kernel
theorem dX6_putsPoint_22 : decode cX6_putsPoint 22 = .ok (.iadd, 1) := by decide +kernel
theorem dX6_putsPoint_23 : decode cX6_putsPoint 23 = .ok (.iaload, 1) := by decide +kernel
theorem dX6_putsPoint_24 : decode cX6_putsPoint 24 = .ok (.iadd, 1) := by decide +kernel
theorem dX6_putsPoint_25 : decode cX6_putsPoint 25 = .ok (.iload_n 2, 1) := by decide +kernel
theorem dX6_putsPoint_26 : decode cX6_putsPoint 26 = .ok (.iastore, 1) := by decide +kernel
theorem dX6_putsPoint_27 : decode cX6_putsPoint 27 = .ok (.aload_n 0, 1) := by decide +kernel
theorem dX6_putsPoint_28 : decode cX6_putsPoint 28 = .ok (.getfield 7, 3) := by decide +kernel
theorem dX6_putsPoint_31 : decode cX6_putsPoint 31 = .ok (.iload_n 3, 1) := by decide +kernel
theorem dX6_putsPoint_32 : decode cX6_putsPoint 32 = .ok (.iconst 2, 1) := by decide +kernel
theorem dX6_putsPoint_33 : decode cX6_putsPoint 33 = .ok (.iadd, 1) := by decide +kernel
theorem dX6_putsPoint_34 : decode cX6_putsPoint 34 = .ok (.dup2, 1) := by decide +kernel
theorem dX6_putsPoint_35 : decode cX6_putsPoint 35 = .ok (.iaload, 1) := by decide +kernel
theorem dX6_putsPoint_36 : decode cX6_putsPoint 36 = .ok (.iconst 1, 1) := by decide +kernel
theorem dX6_putsPoint_37 : decode cX6_putsPoint 37 = .ok (.iadd, 1) := by decide +kernel
theorem dX6_putsPoint_38 : decode cX6_putsPoint 38 = .ok (.iastore, 1) := by decide +kernel
theorem dX6_putsPoint_39 : decode cX6_putsPoint 39 = .ok (.return_, 1) := by decide +kernel
theorem dX6_addLine_0 : decode cX6_addLine 0 = .ok (.aload_n 0, 1) := by decide +kernel
theorem dX6_addLine_1 : decode cX6_addLine 1 = .ok (.iload_n 1, 1) := by decide +kernel
theorem dX6_addLine_2 : decode cX6_addLine 2 = .ok (.invokevirtual 62, 3) := by decide +kernel
theorem dX6_addLine_5 : decode cX6_addLine 5 = .ok (.ifCond .ne 9, 3) := by decide +kernel
theorem dX6_addLine_8 : decode cX6_addLine 8 = .ok (.aload_n 0, 1) := by decide +kernel
theorem dX6_addLine_9 : decode cX6_addLine 9 = .ok (.iconst 1, 1) := by decide +kernel
theorem dX6_addLine_10 : decode cX6_addLine 10 = .ok (.invokevirtual 83, 3) := by decide +kernel
theorem dX6_addLine_13 : decode cX6_addLine 13 = .ok (.ireturn, 1) := by decide +kernel
theorem dX6_addLine_14 : decode cX6_addLine 14 = .ok (.iload_n 2, 1) := by decide +kernel
theorem dX6_addLine_15 : decode cX6_addLine 15 = .ok (.i2l, 1) := by decide +kernel
theorem dX6_addLine_16 : decode cX6_addLine 16 = .ok (.lconst 0, 1) := by decide +kernel
theorem dX6_addLine_17 : decode cX6_addLine 17 = .ok (.lconst 1, 1) := by decide +kernel
theorem dX6_addLine_18 : decode cX6_addLine 18 = .ok (.invokestatic 51, 3) := by decide +kernel
theorem dX6_addLine_21 : decode cX6_addLine 21 = .ok (.ifCond .ne 9, 3) := by decide +kernel
theorem dX6_addLine_24 : decode cX6_addLine 24 = .ok (.aload_n 0, 1) := by decide +kernel
theorem dX6_addLine_25 : decode cX6_addLine 25 = .ok (.iconst 2, 1) := by decide +kernel
theorem dX6_addLine_26 : decode cX6_addLine 26 = .ok (.invokevirtual 83, 3) := by decide +kernel
theorem dX6_addLine_29 : decode cX6_addLine 29 = .ok (.ireturn, 1) := by decide +kernel
theorem dX6_addLine_30 : decode cX6_addLine 30 = .ok (.aload_n 0, 1) := by decide +kernel
theorem dX6_addLine_31 : decode cX6_addLine 31 = .ok (.getfield 7, 3) := by decide +kernel
theorem dX6_addLine_34 : decode cX6_addLine 34 = .ok (.sipush 571, 3) := by decide +kernel
theorem dX6_addLine_37 : decode cX6_addLine 37 = .ok (.iaload, 1) := by decide +kernel
theorem dX6_addLine_38 : decode cX6_addLine 38 = .ok (.bipush 10, 2) := by decide +kernel
theorem dX6_addLine_40 : decode cX6_addLine 40 = .ok (.if_icmp .ne 9, 3) := by decide +kernel
theorem dX6_addLine_43 : decode cX6_addLine 43 = .ok (.aload_n 0, 1) := by decide +kernel
theorem dX6_addLine_44 : decode cX6_addLine 44 = .ok (.iconst 3, 1) := by decide +kernel
theorem dX6_addLine_45 : decode cX6_addLine 45 = .ok (.invokevirtual 83, 3) := by decide +kernel
theorem dX6_addLine_48 : decode cX6_addLine 48 = .ok (.ireturn, 1) := by decide +kernel
theorem dX6_addLine_49 : decode cX6_addLine 49 = .ok (.aload_n 0, 1) := by decide +kernel
theorem dX6_addLine_50 : decode cX6_addLine 50 = .ok (.invokevirtual 86, 3) := by decide +kernel
theorem dX6_addLine_53 : decode cX6_addLine 53 = .ok (.aload_n 0, 1) := by decide +kernel
theorem dX6_addLine_54 : decode cX6_addLine 54 = .ok (.iload_n 1, 1) := by decide +kernel
theorem dX6_addLine_55 : decode cX6_addLine 55 = .ok (.iload_n 2, 1) := by decide +kernel
theorem dX6_addLine_56 : decode cX6_addLine 56 = .ok (.invokevirtual 207, 3) := by decide +kernel
theorem dX6_addLine_59 : decode cX6_addLine 59 = .ok (.aload_n 0, 1) := by decide +kernel
theorem dX6_addLine_60 : decode cX6_addLine 60 = .ok (.aload_n 0, 1) := by decide +kernel
theorem dX6_addLine_61 : decode cX6_addLine 61 = .ok (.getfield 7, 3) := by decide +kernel
theorem dX6_addLine_64 : decode cX6_addLine 64 = .ok (.sipush 571, 3) := by decide +kernel
theorem dX6_addLine_67 : decode cX6_addLine 67 = .ok (.iaload, 1) := by decide +kernel
theorem dX6_addLine_68 : decode cX6_addLine 68 = .ok (.iconst 1, 1) := by decide +kernel
theorem dX6_addLine_69 : decode cX6_addLine 69 = .ok (.isub, 1) := by decide +kernel
theorem dX6_addLine_70 : decode cX6_addLine 70 = .ok (.invokevirtual 93, 3) := by decide +kernel
theorem dX6_addLine_73 : decode cX6_addLine 73 = .ok (.ireturn, 1) := by decide +kernel
theorem dX6_addPoint_0 : decode cX6_addPoint 0 = .ok (.aload_n 0, 1) := by decide +kernel
theorem dX6_addPoint_1 : decode cX6_addPoint 1 = .ok (.iload_n 1, 1) := by decide +kernel
theorem dX6_addPoint_2 : decode cX6_addPoint 2 = .ok (.invokevirtual 210, 3) := by decide +kernel
theorem dX6_addPoint_5 : decode cX6_addPoint 5 = .ok (.ifCond .ne 9, 3) := by decide +kernel
theorem dX6_addPoint_8 : decode cX6_addPoint 8 = .ok (.aload_n 0, 1) := by decide +kernel
theorem dX6_addPoint_9 : decode cX6_addPoint 9 = .ok (.iconst 1, 1) := by decide +kernel
theorem dX6_addPoint_10 : decode cX6_addPoint 10 = .ok (.invokevirtual 83, 3) := by decide +kernel
theorem dX6_addPoint_13 : decode cX6_addPoint 13 = .ok (.ireturn, 1) := by decide +kernel
theorem dX6_addPoint_14 : decode cX6_addPoint 14 = .ok (.iload_n 2, 1) := by decide +kernel
theorem dX6_addPoint_15 : decode cX6_addPoint 15 = .ok (.invokestatic 111, 3) := by decide +kernel
theorem dX6_addPoint_18 : decode cX6_addPoint 18 = .ok (.ifCond .ne 9, 3) := by decide +kernel
theorem dX6_addPoint_21 : decode cX6_addPoint 21 = .ok (.aload_n 0, 1) := by decide +kernel
theorem dX6_addPoint_22 : decode cX6_addPoint 22 = .ok (.iconst 2, 1) := by decide +kernel
theorem dX6_addPoint_23 : decode cX6_addPoint 23 = .ok (.invokevirtual 83, 3) := by decide +kernel
theorem dX6_addPoint_26 : decode cX6_addPoint 26 = .ok (.ireturn, 1) := by decide +kernel
theorem dX6_addPoint_27 : decode cX6_addPoint 27 = .ok (.aload_n 0, 1) := by decide +kernel
theorem dX6_addPoint_28 : decode cX6_addPoint 28 = .ok (.iload_n 1, 1) := by decide +kernel
theorem dX6_addPoint_29 : decode cX6_addPoint 29 = .ok (.iconst 2, 1) := by decide +kernel
theorem dX6_addPoint_30 : decode cX6_addPoint 30 = .ok (.invokevirtual 96, 3) := by decide +kernel
theorem dX6_addPoint_33 : decode cX6_addPoint 33 = .ok (.bipush 12, 2) := by decide +kernel
theorem dX6_addPoint_35 : decode cX6_addPoint 35 = .ok (.if_icmp .ne 9, 3) := by decide +kernel
theorem dX6_addPoint_38 : decode cX6_addPoint 38 = .ok (.aload_n 0, 1) := by decide +kernel
theorem dX6_addPoint_39 : decode cX6_addPoint 39 = .ok (.iconst 3, 1) := by decide +kernel
theorem dX6_addPoint_40 : decode cX6_addPoint 40 = .ok (.invokevirtual 83, 3) := by decide +kernel
theorem dX6_addPoint_43 : decode cX6_addPoint 43 = .ok (.ireturn, 1) := by decide +kernel
theorem dX6_addPoint_44 : decode cX6_addPoint 44 = .ok (.aload_n 0, 1) := by decide +kernel
theorem dX6_addPoint_45 : decode cX6_addPoint 45 = .ok (.invokevirtual 86, 3) := by decide +kernel
theorem dX6_addPoint_48 : decode cX6_addPoint 48 = .ok (.aload_n 0, 1) := by decide +kernel
theorem dX6_addPoint_49 : decode cX6_addPoint 49 = .ok (.iload_n 1, 1) := by decide +kernel
theorem dX6_addPoint_50 : decode cX6_addPoint 50 = .ok (.iload_n 2, 1) := by decide +kernel
theorem dX6_addPoint_51 : decode cX6_addPoint 51 = .ok (.invokevirtual 213, 3) := by decide +kernel
theorem dX6_addPoint_54 : decode cX6_addPoint 54 = .ok (.aload_n 0, 1) := by decide +kernel
theorem dX6_addPoint_55 : decode cX6_addPoint 55 = .ok (.aload_n 0, 1) := by decide +kernel
theorem dX6_addPoint_56 : decode cX6_addPoint 56 = .ok (.iload_n 1, 1) := by decide +kernel
theorem dX6_addPoint_57 : decode cX6_addPoint 57 = .ok (.iconst 2, 1) := by decide +kernel
theorem dX6_addPoint_58 : decode cX6_addPoint 58 = .ok (.invokevirtual 96, 3) := by decide +kernel
theorem dX6_addPoint_61 : decode cX6_addPoint 61 = .ok (.invokevirtual 93, 3) := by decide +kernel
theorem dX6_addPoint_64 : decode cX6_addPoint 64 = .ok (.ireturn, 1) := by decide +kernel
theorem dX6_removeLine_0 : decode cX6_removeLine 0 = .ok (.aload_n 0, 1) := by decide +kernel
theorem dX6_removeLine_1 : decode cX6_removeLine 1 = .ok (.iload_n 1, 1) := by decide +kernel
theorem dX6_removeLine_2 : decode cX6_removeLine 2 = .ok (.invokevirtual 210, 3) := by decide +kernel
theorem dX6_removeLine_5 : decode cX6_removeLine 5 = .ok (.ifCond .ne 9, 3) := by decide +kernel
theorem dX6_removeLine_8 : decode cX6_removeLine 8 = .ok (.aload_n 0, 1) := by decide +kernel
theorem dX6_removeLine_9 : decode cX6_removeLine 9 = .ok (.iconst 1, 1) := by decide +kernel
theorem dX6_removeLine_10 : decode cX6_removeLine 10 = .ok (.invokevirtual 83, 3) := by decide +kernel
theorem dX6_removeLine_13 : decode cX6_removeLine 13 = .ok (.ireturn, 1) := by decide +kernel
theorem dX6_removeLine_14 : decode cX6_removeLine 14 = .ok (.aload_n 0, 1) := by decide +kernel
theorem dX6_removeLine_15 : decode cX6_removeLine 15 = .ok (.invokevirtual 86, 3) := by decide +kernel
theorem dX6_removeLine_18 : decode cX6_removeLine 18 = .ok (.aload_n 0, 1) := by decide +kernel
theorem dX6_removeLine_19 : decode cX6_removeLine 19 = .ok (.iload_n 1, 1) := by decide +kernel
theorem dX6_removeLine_20 : decode cX6_removeLine 20 = .ok (.invokevirtual 99, 3) := by decide +kernel
theorem dX6_removeLine_23 : decode cX6_removeLine 23 = .ok (.aload_n 0, 1) := by decide +kernel
theorem dX6_removeLine_24 : decode cX6_removeLine 24 = .ok (.aload_n 0, 1) := by decide +kernel
theorem dX6_removeLine_25 : decode cX6_removeLine 25 = .ok (.getfield 7, 3) := by decide +kernel
theorem dX6_removeLine_28 : decode cX6_removeLine 28 = .ok (.sipush 571, 3) := by decide +kernel
theorem dX6_removeLine_31 : decode cX6_removeLine 31 = .ok (.iaload, 1) := by decide +kernel
theorem dX6_removeLine_32 : decode cX6_removeLine 32 = .ok (.invokevirtual 93, 3) := by decide +kernel
theorem dX6_removeLine_35 : decode cX6_removeLine 35 = .ok (.ireturn, 1) := by decide +kernel
theorem dX6_lines_0 : decode cX6_lines 0 = .ok (.aload_n 0, 1) := by decide +kernel
theorem dX6_lines_1 : decode cX6_lines 1 = .ok (.aload_n 0, 1) := by decide +kernel
theorem dX6_lines_2 : decode cX6_lines 2 = .ok (.getfield 7, 3) := by decide +kernel
theorem dX6_lines_5 : decode cX6_lines 5 = .ok (.sipush 571, 3) := by decide +kernel
theorem dX6_lines_8 : decode cX6_lines 8 = .ok (.iaload, 1) := by decide +kernel
theorem dX6_lines_9 : decode cX6_lines 9 = .ok (.invokevirtual 41, 3) := by decide +kernel
theorem dX6_lines_12 : decode cX6_lines 12 = .ok (.ireturn, 1) := by decide +kernel
theorem dX6_line_0 : decode cX6_line 0 = .ok (.aload_n 0, 1) := by decide +kernel
theorem dX6_line_1 : decode cX6_line 1 = .ok (.iload_n 1, 1) := by decide +kernel
theorem dX6_line_2 : decode cX6_line 2 = .ok (.invokevirtual 210, 3) := by decide +kernel
theorem dX6_line_5 : decode cX6_line 5 = .ok (.ifCond .ne 9, 3) := by decide +kernel
theorem dX6_line_8 : decode cX6_line 8 = .ok (.aload_n 0, 1) := by decide +kernel
theorem dX6_line_9 : decode cX6_line 9 = .ok (.iconst 1, 1) := by decide +kernel
theorem dX6_line_10 : decode cX6_line 10 = .ok (.invokevirtual 83, 3) := by decide +kernel
theorem dX6_line_13 : decode cX6_line 13 = .ok (.ireturn, 1) := by decide +kernel
theorem dX6_line_14 : decode cX6_line 14 = .ok (.iload_n 2, 1) := by decide +kernel
theorem dX6_line_15 : decode cX6_line 15 = .ok (.i2l, 1) := by decide +kernel
theorem dX6_line_16 : decode cX6_line 16 = .ok (.lconst 0, 1) := by decide +kernel
theorem dX6_line_17 : decode cX6_line 17 = .ok (.ldc2_w 45, 3) := by decide +kernel
theorem dX6_line_20 : decode cX6_line 20 = .ok (.invokestatic 51, 3) := by decide +kernel
theorem dX6_line_23 : decode cX6_line 23 = .ok (.ifCond .eq 16, 3) := by decide +kernel
theorem dX6_line_26 : decode cX6_line 26 = .ok (.aload_n 0, 1) := by decide +kernel
theorem dX6_line_27 : decode cX6_line 27 = .ok (.aload_n 0, 1) := by decide +kernel
theorem dX6_line_28 : decode cX6_line 28 = .ok (.iload_n 1, 1) := by decide +kernel
theorem dX6_line_29 : decode cX6_line 29 = .ok (.iload_n 2, 1) := by decide +kernel
theorem dX6_line_30 : decode cX6_line 30 = .ok (.invokevirtual 96, 3) := by decide +kernel
theorem dX6_line_33 : decode cX6_line 33 = .ok (.invokevirtual 41, 3) := by decide +kernel
theorem dX6_line_36 : decode cX6_line 36 = .ok (.goto 8, 3) := by decide +kernel
theorem dX6_line_39 : decode cX6_line 39 = .ok (.aload_n 0, 1) := by decide +kernel
theorem dX6_line_40 : decode cX6_line 40 = .ok (.iconst 2, 1) := by decide +kernel
theorem dX6_line_41 : decode cX6_line 41 = .ok (.invokevirtual 83, 3) := by decide +kernel
theorem dX6_line_44 : decode cX6_line 44 = .ok (.ireturn, 1) := by decide +kernel
theorem dX6_point_0 : decode cX6_point 0 = .ok (.aload_n 0, 1) := by decide +kernel
theorem dX6_point_1 : decode cX6_point 1 = .ok (.iload_n 1, 1) := by decide +kernel
theorem dX6_point_2 : decode cX6_point 2 = .ok (.invokevirtual 210, 3) := by decide +kernel
theorem dX6_point_5 : decode cX6_point 5 = .ok (.ifCond .eq 36, 3) := by decide +kernel
theorem dX6_point_8 : decode cX6_point 8 = .ok (.iload_n 2, 1) := by decide +kernel
theorem dX6_point_9 : decode cX6_point 9 = .ok (.i2l, 1) := by decide +kernel
theorem dX6_point_10 : decode cX6_point 10 = .ok (.lconst 0, 1) := by decide +kernel
theorem dX6_point_11 : decode cX6_point 11 = .ok (.aload_n 0, 1) := by decide +kernel
theorem dX6_point_12 : decode cX6_point 12 = .ok (.iload_n 1, 1) := by decide +kernel
theorem dX6_point_13 : decode cX6_point 13 = .ok (.iconst 2, 1) := by decide +kernel
theorem dX6_point_14 : decode cX6_point 14 = .ok (.invokevirtual 96, 3) := by decide +kernel
theorem dX6_point_17 : decode cX6_point 17 = .ok (.iconst 1, 1) := by decide +kernel
theorem dX6_point_18 : decode cX6_point 18 = .ok (.isub, 1) := by decide +kernel
theorem dX6_point_19 : decode cX6_point 19 = .ok (.i2l, 1) := by decide +kernel
theorem dX6_point_20 : decode cX6_point 20 = .ok (.invokestatic 51, 3) := by decide +kernel
theorem dX6_point_23 : decode cX6_point 23 = .ok (.ifCond .eq 18, 3) := by decide +kernel
theorem dX6_point_26 : decode cX6_point 26 = .ok (.aload_n 0, 1) := by decide +kernel
theorem dX6_point_27 : decode cX6_point 27 = .ok (.aload_n 0, 1) := by decide +kernel
theorem dX6_point_28 : decode cX6_point 28 = .ok (.iload_n 1, 1) := by decide +kernel
theorem dX6_point_29 : decode cX6_point 29 = .ok (.iconst 3, 1) := by decide +kernel
theorem dX6_point_30 : decode cX6_point 30 = .ok (.iload_n 2, 1) := by decide +kernel
theorem dX6_point_31 : decode cX6_point 31 = .ok (.iadd, 1) := by decide +kernel
theorem dX6_point_32 : decode cX6_point 32 = .ok (.invokevirtual 96, 3) := by decide +kernel
theorem dX6_point_35 : decode cX6_point 35 = .ok (.invokevirtual 41, 3) := by decide +kernel
theorem dX6_point_38 : decode cX6_point 38 = .ok (.goto 8, 3) := by decide +kernel
theorem dX6_point_41 : decode cX6_point 41 = .ok (.aload_n 0, 1) := by decide +kernel
theorem dX6_point_42 : decode cX6_point 42 = .ok (.iconst 1, 1) := by decide +kernel
theorem dX6_point_43 : decode cX6_point 43 = .ok (.invokevirtual 83, 3) := by decide +kernel
theorem dX6_point_46 : decode cX6_point 46 = .ok (.ireturn, 1) := by decide +kernel
theorem dX6_lineDeviation_0 : decode cX6_lineDeviation 0 = .ok (.aload_n 0, 1) := by decide +kernel
theorem dX6_lineDeviation_1 : decode cX6_lineDeviation 1 = .ok (.iload_n 1, 1) := by decide +kernel
theorem dX6_lineDeviation_2 : decode cX6_lineDeviation 2 = .ok (.invokevirtual 210, 3) := by decide +kernel
theorem dX6_lineDeviation_5 : decode cX6_lineDeviation 5 = .ok (.ifCond .ne 9, 3) := by decide +kernel
theorem dX6_lineDeviation_8 : decode cX6_lineDeviation 8 = .ok (.aload_n 0, 1) := by decide +kernel
theorem dX6_lineDeviation_9 : decode cX6_lineDeviation 9 = .ok (.iconst 1, 1) := by decide +kernel
theorem dX6_lineDeviation_10 : decode cX6_lineDeviation 10 = .ok (.invokevirtual 83, 3) := by decide +kernel
theorem dX6_lineDeviation_13 : decode cX6_lineDeviation 13 = .ok (.ireturn, 1) := by decide +kernel
theorem dX6_lineDeviation_14 : decode cX6_lineDeviation 14 = .ok (.iload_n 2, 1) := by decide +kernel
theorem dX6_lineDeviation_15 : decode cX6_lineDeviation 15 = .ok (.i2l, 1) := by decide +kernel
theorem dX6_lineDeviation_16 : decode cX6_lineDeviation 16 = .ok (.lconst 0, 1) := by decide +kernel
theorem dX6_lineDeviation_17 : decode cX6_lineDeviation 17 = .ok (.ldc2_w 45, 3) := by decide +kernel
theorem dX6_lineDeviation_20 : decode cX6_lineDeviation 20 = .ok (.invokestatic 51, 3) := by decide +kernel
theorem dX6_lineDeviation_23 : decode cX6_lineDeviation 23 = .ok (.ifCond .ne 9, 3) := by decide +kernel
theorem dX6_lineDeviation_26 : decode cX6_lineDeviation 26 = .ok (.aload_n 0, 1) := by decide +kernel
theorem dX6_lineDeviation_27 : decode cX6_lineDeviation 27 = .ok (.iconst 2, 1) := by decide +kernel
theorem dX6_lineDeviation_28 : decode cX6_lineDeviation 28 = .ok (.invokevirtual 83, 3) := by decide +kernel
theorem dX6_lineDeviation_31 : decode cX6_lineDeviation 31 = .ok (.ireturn, 1) := by decide +kernel
theorem dX6_lineDeviation_32 : decode cX6_lineDeviation 32 = .ok (.aload_n 0, 1) := by decide +kernel
theorem dX6_lineDeviation_33 : decode cX6_lineDeviation 33 = .ok (.iload_n 1, 1) := by decide +kernel
theorem dX6_lineDeviation_34 : decode cX6_lineDeviation 34 = .ok (.iconst 2, 1) := by decide +kernel
theorem dX6_lineDeviation_35 : decode cX6_lineDeviation 35 = .ok (.invokevirtual 96, 3) := by decide +kernel
theorem dX6_lineDeviation_38 : decode cX6_lineDeviation 38 = .ok (.iconst 3, 1) := by decide +kernel
theorem dX6_lineDeviation_39 : decode cX6_lineDeviation 39 = .ok (.if_icmp .ge 11, 3) := by decide +kernel
theorem dX6_lineDeviation_42 : decode cX6_lineDeviation 42 = .ok (.aload_n 0, 1) := by decide +kernel
theorem dX6_lineDeviation_43 : decode cX6_lineDeviation 43 = .ok (.iconst 3, 1) := by decide +kernel
theorem dX6_lineDeviation_44 : decode cX6_lineDeviation 44 = .ok (.invokevirtual 83, 3) := by decide +kernel
theorem dX6_lineDeviation_47 : decode cX6_lineDeviation 47 = .ok (.goto 13, 3) := by decide +kernel
theorem dX6_lineDeviation_50 : decode cX6_lineDeviation 50 = .ok (.aload_n 0, 1) := by decide +kernel
theorem dX6_lineDeviation_51 : decode cX6_lineDeviation 51 = .ok (.aload_n 0, 1) := by decide +kernel
theorem dX6_lineDeviation_52 : decode cX6_lineDeviation 52 = .ok (.iload_n 1, 1) := by decide +kernel
theorem dX6_lineDeviation_53 : decode cX6_lineDeviation 53 = .ok (.iload_n 2, 1) := by decide +kernel
theorem dX6_lineDeviation_54 : decode cX6_lineDeviation 54 = .ok (.invokevirtual 168, 3) := by decide +kernel
theorem dX6_lineDeviation_57 : decode cX6_lineDeviation 57 = .ok (.invokevirtual 41, 3) := by decide +kernel
theorem dX6_lineDeviation_60 : decode cX6_lineDeviation 60 = .ok (.ireturn, 1) := by decide +kernel
theorem dX6_divisor_0 : decode cX6_divisor 0 = .ok (.lload_n 0, 1) := by decide +kernel
theorem dX6_divisor_1 : decode cX6_divisor 1 = .ok (.lconst 0, 1) := by decide +kernel
theorem dX6_divisor_2 : decode cX6_divisor 2 = .ok (.lcmp, 1) := by decide +kernel
theorem dX6_divisor_3 : decode cX6_divisor 3 = .ok (.ifCond .ge 8, 3) := by decide +kernel
theorem dX6_divisor_6 : decode cX6_divisor 6 = .ok (.lload_n 0, 1) := by decide +kernel
theorem dX6_divisor_7 : decode cX6_divisor 7 = .ok (.lneg, 1) := by decide +kernel
theorem dX6_divisor_8 : decode cX6_divisor 8 = .ok (.goto 4, 3) := by decide +kernel
theorem dX6_divisor_11 : decode cX6_divisor 11 = .ok (.lload_n 0, 1) := by decide +kernel
theorem dX6_divisor_12 : decode cX6_divisor 12 = .ok (.lstore 4, 2) := by decide +kernel
theorem dX6_divisor_14 : decode cX6_divisor 14 = .ok (.lload_n 2, 1) := by decide +kernel
theorem dX6_divisor_15 : decode cX6_divisor 15 = .ok (.lstore 6, 2) := by decide +kernel
theorem dX6_divisor_17 : decode cX6_divisor 17 = .ok (.lload 6, 2) := by decide +kernel
theorem dX6_divisor_19 : decode cX6_divisor 19 = .ok (.lconst 0, 1) := by decide +kernel
theorem dX6_divisor_20 : decode cX6_divisor 20 = .ok (.lcmp, 1) := by decide +kernel
theorem dX6_divisor_21 : decode cX6_divisor 21 = .ok (.ifCond .eq 21, 3) := by decide +kernel
theorem dX6_divisor_24 : decode cX6_divisor 24 = .ok (.lload 4, 2) := by decide +kernel
theorem dX6_divisor_26 : decode cX6_divisor 26 = .ok (.lload 6, 2) := by decide +kernel
theorem dX6_divisor_28 : decode cX6_divisor 28 = .ok (.lrem, 1) := by decide +kernel
theorem dX6_divisor_29 : decode cX6_divisor 29 = .ok (.lstore 8, 2) := by decide +kernel
theorem dX6_divisor_31 : decode cX6_divisor 31 = .ok (.lload 6, 2) := by decide +kernel
theorem dX6_divisor_33 : decode cX6_divisor 33 = .ok (.lstore 4, 2) := by decide +kernel
theorem dX6_divisor_35 : decode cX6_divisor 35 = .ok (.lload 8, 2) := by decide +kernel
theorem dX6_divisor_37 : decode cX6_divisor 37 = .ok (.lstore 6, 2) := by decide +kernel
theorem dX6_divisor_39 : decode cX6_divisor 39 = .ok (.goto (-22), 3) := by decide +kernel
theorem dX6_divisor_42 : decode cX6_divisor 42 = .ok (.lload 4, 2) := by decide +kernel
theorem dX6_divisor_44 : decode cX6_divisor 44 = .ok (.lreturn, 1) := by decide +kernel
theorem dX6_best_0 : decode cX6_best 0 = .ok (.aload_n 0, 1) := by decide +kernel
theorem dX6_best_1 : decode cX6_best 1 = .ok (.iload_n 1, 1) := by decide +kernel
theorem dX6_best_2 : decode cX6_best 2 = .ok (.invokevirtual 210, 3) := by decide +kernel
theorem dX6_best_5 : decode cX6_best 5 = .ok (.ifCond .ne 10, 3) := by decide +kernel
theorem dX6_best_8 : decode cX6_best 8 = .ok (.aload_n 0, 1) := by decide +kernel
theorem dX6_best_9 : decode cX6_best 9 = .ok (.iconst 1, 1) := by decide +kernel
theorem dX6_best_10 : decode cX6_best 10 = .ok (.invokevirtual 83, 3) := by decide +kernel
theorem dX6_best_13 : decode cX6_best 13 = .ok (.i2l, 1) := by decide +kernel
theorem dX6_best_14 : decode cX6_best 14 = .ok (.lreturn, 1) := by decide +kernel
theorem dX6_best_15 : decode cX6_best 15 = .ok (.iload_n 3, 1) := by decide +kernel
theorem dX6_best_16 : decode cX6_best 16 = .ok (.i2l, 1) := by decide +kernel
theorem dX6_best_17 : decode cX6_best 17 = .ok (.lconst 0, 1) := by decide +kernel
theorem dX6_best_18 : decode cX6_best 18 = .ok (.lconst 1, 1) := by decide +kernel
theorem dX6_best_19 : decode cX6_best 19 = .ok (.invokestatic 51, 3) := by decide +kernel
theorem dX6_best_22 : decode cX6_best 22 = .ok (.ifCond .ne 10, 3) := by decide +kernel
theorem dX6_best_25 : decode cX6_best 25 = .ok (.aload_n 0, 1) := by decide +kernel
theorem dX6_best_26 : decode cX6_best 26 = .ok (.iconst 2, 1) := by decide +kernel
theorem dX6_best_27 : decode cX6_best 27 = .ok (.invokevirtual 83, 3) := by decide +kernel
theorem dX6_best_30 : decode cX6_best 30 = .ok (.i2l, 1) := by decide +kernel
theorem dX6_best_31 : decode cX6_best 31 = .ok (.lreturn, 1) := by decide +kernel
theorem dX6_best_32 : decode cX6_best 32 = .ok (.aload_n 0, 1) := by decide +kernel
theorem dX6_best_33 : decode cX6_best 33 = .ok (.iload_n 1, 1) := by decide +kernel
theorem dX6_best_34 : decode cX6_best 34 = .ok (.iconst 2, 1) := by decide +kernel
theorem dX6_best_35 : decode cX6_best 35 = .ok (.invokevirtual 96, 3) := by decide +kernel
theorem dX6_best_38 : decode cX6_best 38 = .ok (.iconst 3, 1) := by decide +kernel
theorem dX6_best_39 : decode cX6_best 39 = .ok (.if_icmp .ge 10, 3) := by decide +kernel
theorem dX6_best_42 : decode cX6_best 42 = .ok (.aload_n 0, 1) := by decide +kernel
theorem dX6_best_43 : decode cX6_best 43 = .ok (.iconst 3, 1) := by decide +kernel
theorem dX6_best_44 : decode cX6_best 44 = .ok (.invokevirtual 83, 3) := by decide +kernel
theorem dX6_best_47 : decode cX6_best 47 = .ok (.i2l, 1) := by decide +kernel
theorem dX6_best_48 : decode cX6_best 48 = .ok (.lreturn, 1) := by decide +kernel
theorem dX6_best_49 : decode cX6_best 49 = .ok (.aload_n 0, 1) := by decide +kernel
theorem dX6_best_50 : decode cX6_best 50 = .ok (.iconst 0, 1) := by decide +kernel
theorem dX6_best_51 : decode cX6_best 51 = .ok (.putfield 35, 3) := by decide +kernel
theorem dX6_best_54 : decode cX6_best 54 = .ok (.aload_n 0, 1) := by decide +kernel
theorem dX6_best_55 : decode cX6_best 55 = .ok (.iload_n 1, 1) := by decide +kernel
theorem dX6_best_56 : decode cX6_best 56 = .ok (.invokevirtual 204, 3) := by decide +kernel
theorem dX6_best_59 : decode cX6_best 59 = .ok (.iload_n 2, 1) := by decide +kernel
theorem dX6_best_60 : decode cX6_best 60 = .ok (.ifCond .eq 10, 3) := by decide +kernel
theorem dX6_best_63 : decode cX6_best 63 = .ok (.aload_n 0, 1) := by decide +kernel
theorem dX6_best_64 : decode cX6_best 64 = .ok (.getfield 191, 3) := by decide +kernel
theorem dX6_best_67 : decode cX6_best 67 = .ok (.goto 7, 3) := by decide +kernel
theorem dX6_best_70 : decode cX6_best 70 = .ok (.aload_n 0, 1) := by decide +kernel
theorem dX6_best_71 : decode cX6_best 71 = .ok (.getfield 198, 3) := by decide +kernel
theorem dX6_best_74 : decode cX6_best 74 = .ok (.lstore 4, 2) := by decide +kernel
theorem dX6_best_76 : decode cX6_best 76 = .ok (.iload_n 2, 1) := by decide +kernel
theorem dX6_best_77 : decode cX6_best 77 = .ok (.ifCond .eq 10, 3) := by decide +kernel
theorem dX6_best_80 : decode cX6_best 80 = .ok (.aload_n 0, 1) := by decide +kernel
theorem dX6_best_81 : decode cX6_best 81 = .ok (.getfield 195, 3) := by decide +kernel
theorem dX6_best_84 : decode cX6_best 84 = .ok (.goto 7, 3) := by decide +kernel
theorem dX6_best_87 : decode cX6_best 87 = .ok (.aload_n 0, 1) := by decide +kernel
theorem dX6_best_88 : decode cX6_best 88 = .ok (.getfield 201, 3) := by decide +kernel
theorem dX6_best_91 : decode cX6_best 91 = .ok (.lstore 6, 2) := by decide +kernel
theorem dX6_best_93 : decode cX6_best 93 = .ok (.lload 4, 2) := by decide +kernel
theorem dX6_best_95 : decode cX6_best 95 = .ok (.lload 6, 2) := by decide +kernel
theorem dX6_best_97 : decode cX6_best 97 = .ok (.invokestatic 216, 3) := by decide +kernel
theorem dX6_best_100 : decode cX6_best 100 = .ok (.lstore 8, 2) := by decide +kernel
theorem dX6_best_102 : decode cX6_best 102 = .ok (.iload_n 3, 1) := by decide +kernel
theorem dX6_best_103 : decode cX6_best 103 = .ok (.ifCond .ne 11, 3) := by decide +kernel
theorem dX6_best_106 : decode cX6_best 106 = .ok (.lload 4, 2) := by decide +kernel
theorem dX6_best_108 : decode cX6_best 108 = .ok (.lload 8, 2) := by decide +kernel
theorem dX6_best_110 : decode cX6_best 110 = .ok (.ldiv, 1) := by decide +kernel
theorem dX6_best_111 : decode cX6_best 111 = .ok (.goto 8, 3) := by decide +kernel
theorem dX6_best_114 : decode cX6_best 114 = .ok (.lload 6, 2) := by decide +kernel
theorem dX6_best_116 : decode cX6_best 116 = .ok (.lload 8, 2) := by decide +kernel
theorem dX6_best_118 : decode cX6_best 118 = .ok (.ldiv, 1) := by decide +kernel
theorem dX6_best_119 : decode cX6_best 119 = .ok (.lreturn, 1) := by decide +kernel
theorem dX6_root_0 : decode cX6_root 0 = .ok (.iconst 0, 1) := by decide +kernel
theorem dX6_root_1 : decode cX6_root 1 = .ok (.istore_n 1, 1) := by decide +kernel
theorem dX6_root_2 : decode cX6_root 2 = .ok (.iload_n 1, 1) := by decide +kernel
theorem dX6_root_3 : decode cX6_root 3 = .ok (.iconst 1, 1) := by decide +kernel
theorem dX6_root_4 : decode cX6_root 4 = .ok (.iadd, 1) := by decide +kernel
theorem dX6_root_5 : decode cX6_root 5 = .ok (.iload_n 1, 1) := by decide +kernel
theorem dX6_root_6 : decode cX6_root 6 = .ok (.iconst 1, 1) := by decide +kernel
theorem dX6_root_7 : decode cX6_root 7 = .ok (.iadd, 1) := by decide +kernel
theorem dX6_root_8 : decode cX6_root 8 = .ok (.imul, 1) := by decide +kernel
theorem dX6_root_9 : decode cX6_root 9 = .ok (.iload_n 0, 1) := by decide +kernel
theorem dX6_root_10 : decode cX6_root 10 = .ok (.if_icmp .gt 9, 3) := by decide +kernel
theorem dX6_root_13 : decode cX6_root 13 = .ok (.iinc 1 1, 3) := by decide +kernel
theorem dX6_root_16 : decode cX6_root 16 = .ok (.goto (-14), 3) := by decide +kernel
theorem dX6_root_19 : decode cX6_root 19 = .ok (.iload_n 1, 1) := by decide +kernel
theorem dX6_root_20 : decode cX6_root 20 = .ok (.ireturn, 1) := by decide +kernel
theorem dX6_toleranceOfFive_0 : decode cX6_toleranceOfFive 0 = .ok (.aload_n 0, 1) := by decide +kernel
theorem dX6_toleranceOfFive_1 : decode cX6_toleranceOfFive 1 = .ok (.iload_n 1, 1) := by decide +kernel
theorem dX6_toleranceOfFive_2 : decode cX6_toleranceOfFive 2 = .ok (.invokevirtual 133, 3) := by decide +kernel
theorem dX6_toleranceOfFive_5 : decode cX6_toleranceOfFive 5 = .ok (.istore_n 3, 1) := by decide +kernel
theorem dX6_toleranceOfFive_6 : decode cX6_toleranceOfFive 6 = .ok (.iload_n 3, 1) := by decide +kernel
theorem dX6_toleranceOfFive_7 : decode cX6_toleranceOfFive 7 = .ok (.aload_n 0, 1) := by decide +kernel
theorem dX6_toleranceOfFive_8 : decode cX6_toleranceOfFive 8 = .ok (.iload_n 1, 1) := by decide +kernel
theorem dX6_toleranceOfFive_9 : decode cX6_toleranceOfFive 9 = .ok (.invokevirtual 59, 3) := by decide +kernel
theorem dX6_toleranceOfFive_12 : decode cX6_toleranceOfFive 12 = .ok (.imul, 1) := by decide +kernel
theorem dX6_toleranceOfFive_13 : decode cX6_toleranceOfFive 13 = .ok (.invokestatic 219, 3) := by decide +kernel
theorem dX6_toleranceOfFive_16 : decode cX6_toleranceOfFive 16 = .ok (.istore 4, 2) := by decide +kernel
theorem dX6_toleranceOfFive_18 : decode cX6_toleranceOfFive 18 = .ok (.iload_n 2, 1) := by decide +kernel
theorem dX6_toleranceOfFive_19 : decode cX6_toleranceOfFive 19 = .ok (.tableswitch 136 0 6 #[41, 51, 64, 83, 94, 111, 128], 41) := by decide +kernel
theorem dX6_toleranceOfFive_60 : decode cX6_toleranceOfFive 60 = .ok (.bipush 30, 2) := by decide +kernel
theorem dX6_toleranceOfFive_62 : decode cX6_toleranceOfFive 62 = .ok (.iconst 3, 1) := by decide +kernel
theorem dX6_toleranceOfFive_63 : decode cX6_toleranceOfFive 63 = .ok (.iload_n 3, 1) := by decide +kernel
theorem dX6_toleranceOfFive_64 : decode cX6_toleranceOfFive 64 = .ok (.imul, 1) := by decide +kernel
theorem dX6_toleranceOfFive_65 : decode cX6_toleranceOfFive 65 = .ok (.iadd, 1) := by decide +kernel
theorem dX6_toleranceOfFive_66 : decode cX6_toleranceOfFive 66 = .ok (.iload 4, 2) := by decide +kernel
theorem dX6_toleranceOfFive_68 : decode cX6_toleranceOfFive 68 = .ok (.iadd, 1) := by decide +kernel
theorem dX6_toleranceOfFive_69 : decode cX6_toleranceOfFive 69 = .ok (.ireturn, 1) := by decide +kernel
theorem dX6_toleranceOfFive_70 : decode cX6_toleranceOfFive 70 = .ok (.bipush 70, 2) := by decide +kernel
theorem dX6_toleranceOfFive_72 : decode cX6_toleranceOfFive 72 = .ok (.iconst 3, 1) := by decide +kernel
theorem dX6_toleranceOfFive_73 : decode cX6_toleranceOfFive 73 = .ok (.iload_n 3, 1) := by decide +kernel
theorem dX6_toleranceOfFive_74 : decode cX6_toleranceOfFive 74 = .ok (.imul, 1) := by decide +kernel
theorem dX6_toleranceOfFive_75 : decode cX6_toleranceOfFive 75 = .ok (.iadd, 1) := by decide +kernel
theorem dX6_toleranceOfFive_76 : decode cX6_toleranceOfFive 76 = .ok (.bipush 11, 2) := by decide +kernel
theorem dX6_toleranceOfFive_78 : decode cX6_toleranceOfFive 78 = .ok (.iload 4, 2) := by decide +kernel
theorem dX6_toleranceOfFive_80 : decode cX6_toleranceOfFive 80 = .ok (.imul, 1) := by decide +kernel
theorem dX6_toleranceOfFive_81 : decode cX6_toleranceOfFive 81 = .ok (.iadd, 1) := by decide +kernel
theorem dX6_toleranceOfFive_82 : decode cX6_toleranceOfFive 82 = .ok (.ireturn, 1) := by decide +kernel
theorem dX6_toleranceOfFive_83 : decode cX6_toleranceOfFive 83 = .ok (.bipush 8, 2) := by decide +kernel
theorem dX6_toleranceOfFive_85 : decode cX6_toleranceOfFive 85 = .ok (.bipush 70, 2) := by decide +kernel
theorem dX6_toleranceOfFive_87 : decode cX6_toleranceOfFive 87 = .ok (.iconst 3, 1) := by decide +kernel
theorem dX6_toleranceOfFive_88 : decode cX6_toleranceOfFive 88 = .ok (.iload_n 3, 1) := by decide +kernel
theorem dX6_toleranceOfFive_89 : decode cX6_toleranceOfFive 89 = .ok (.imul, 1) := by decide +kernel
theorem dX6_toleranceOfFive_90 : decode cX6_toleranceOfFive 90 = .ok (.iadd, 1) := by decide +kernel
theorem dX6_toleranceOfFive_91 : decode cX6_toleranceOfFive 91 = .ok (.bipush 11, 2) := by decide +kernel
theorem dX6_toleranceOfFive_93 : decode cX6_toleranceOfFive 93 = .ok (.iload 4, 2) := by decide +kernel
theorem dX6_toleranceOfFive_95 : decode cX6_toleranceOfFive 95 = .ok (.imul, 1) := by decide +kernel
theorem dX6_toleranceOfFive_96 : decode cX6_toleranceOfFive 96 = .ok (.iadd, 1) := by decide +kernel
theorem dX6_toleranceOfFive_97 : decode cX6_toleranceOfFive 97 = .ok (.imul, 1) := by decide +kernel
theorem dX6_toleranceOfFive_98 : decode cX6_toleranceOfFive 98 = .ok (.bipush 10, 2) := by decide +kernel
theorem dX6_toleranceOfFive_100 : decode cX6_toleranceOfFive 100 = .ok (.idiv, 1) := by decide +kernel
theorem dX6_toleranceOfFive_101 : decode cX6_toleranceOfFive 101 = .ok (.ireturn, 1) := by decide +kernel
theorem dX6_toleranceOfFive_102 : decode cX6_toleranceOfFive 102 = .ok (.bipush 40, 2) := by decide +kernel
theorem dX6_toleranceOfFive_104 : decode cX6_toleranceOfFive 104 = .ok (.bipush 10, 2) := by decide +kernel
theorem dX6_toleranceOfFive_106 : decode cX6_toleranceOfFive 106 = .ok (.iload_n 3, 1) := by decide +kernel
theorem dX6_toleranceOfFive_107 : decode cX6_toleranceOfFive 107 = .ok (.imul, 1) := by decide +kernel
theorem dX6_toleranceOfFive_108 : decode cX6_toleranceOfFive 108 = .ok (.iadd, 1) := by decide +kernel
theorem dX6_toleranceOfFive_109 : decode cX6_toleranceOfFive 109 = .ok (.iload 4, 2) := by decide +kernel
theorem dX6_toleranceOfFive_111 : decode cX6_toleranceOfFive 111 = .ok (.iadd, 1) := by decide +kernel
theorem dX6_toleranceOfFive_112 : decode cX6_toleranceOfFive 112 = .ok (.ireturn, 1) := by decide +kernel
theorem dX6_toleranceOfFive_113 : decode cX6_toleranceOfFive 113 = .ok (.bipush 7, 2) := by decide +kernel
theorem dX6_toleranceOfFive_115 : decode cX6_toleranceOfFive 115 = .ok (.bipush 40, 2) := by decide +kernel
theorem dX6_toleranceOfFive_117 : decode cX6_toleranceOfFive 117 = .ok (.bipush 10, 2) := by decide +kernel
theorem dX6_toleranceOfFive_119 : decode cX6_toleranceOfFive 119 = .ok (.iload_n 3, 1) := by decide +kernel
theorem dX6_toleranceOfFive_120 : decode cX6_toleranceOfFive 120 = .ok (.imul, 1) := by decide +kernel
theorem dX6_toleranceOfFive_121 : decode cX6_toleranceOfFive 121 = .ok (.iadd, 1) := by decide +kernel
theorem dX6_toleranceOfFive_122 : decode cX6_toleranceOfFive 122 = .ok (.iload 4, 2) := by decide +kernel
theorem dX6_toleranceOfFive_124 : decode cX6_toleranceOfFive 124 = .ok (.iadd, 1) := by decide +kernel
theorem dX6_toleranceOfFive_125 : decode cX6_toleranceOfFive 125 = .ok (.imul, 1) := by decide +kernel
theorem dX6_toleranceOfFive_126 : decode cX6_toleranceOfFive 126 = .ok (.bipush 10, 2) := by decide +kernel
theorem dX6_toleranceOfFive_128 : decode cX6_toleranceOfFive 128 = .ok (.idiv, 1) := by decide +kernel
theorem dX6_toleranceOfFive_129 : decode cX6_toleranceOfFive 129 = .ok (.ireturn, 1) := by decide +kernel
theorem dX6_toleranceOfFive_130 : decode cX6_toleranceOfFive 130 = .ok (.bipush 8, 2) := by decide +kernel
theorem dX6_toleranceOfFive_132 : decode cX6_toleranceOfFive 132 = .ok (.bipush 40, 2) := by decide +kernel
theorem dX6_toleranceOfFive_134 : decode cX6_toleranceOfFive 134 = .ok (.bipush 10, 2) := by decide +kernel
theorem dX6_toleranceOfFive_136 : decode cX6_toleranceOfFive 136 = .ok (.iload_n 3, 1) := by decide +kernel
theorem dX6_toleranceOfFive_137 : decode cX6_toleranceOfFive 137 = .ok (.imul, 1) := by decide +kernel
theorem dX6_toleranceOfFive_138 : decode cX6_toleranceOfFive 138 = .ok (.iadd, 1) := by decide +kernel
theorem dX6_toleranceOfFive_139 : decode cX6_toleranceOfFive 139 = .ok (.iload 4, 2) := by decide +kernel
theorem dX6_toleranceOfFive_141 : decode cX6_toleranceOfFive 141 = .ok (.iadd, 1) := by decide +kernel
theorem dX6_toleranceOfFive_142 : decode cX6_toleranceOfFive 142 = .ok (.imul, 1) := by decide +kernel
theorem dX6_toleranceOfFive_143 : decode cX6_toleranceOfFive 143 = .ok (.bipush 10, 2) := by decide +kernel
theorem dX6_toleranceOfFive_145 : decode cX6_toleranceOfFive 145 = .ok (.idiv, 1) := by decide +kernel
theorem dX6_toleranceOfFive_146 : decode cX6_toleranceOfFive 146 = .ok (.ireturn, 1) := by decide +kernel
theorem dX6_toleranceOfFive_147 : decode cX6_toleranceOfFive 147 = .ok (.bipush 60, 2) := by decide +kernel
theorem dX6_toleranceOfFive_149 : decode cX6_toleranceOfFive 149 = .ok (.iconst 2, 1) := by decide +kernel
theorem dX6_toleranceOfFive_150 : decode cX6_toleranceOfFive 150 = .ok (.iload 4, 2) := by decide +kernel
theorem dX6_toleranceOfFive_152 : decode cX6_toleranceOfFive 152 = .ok (.imul, 1) := by decide +kernel
theorem dX6_toleranceOfFive_153 : decode cX6_toleranceOfFive 153 = .ok (.iadd, 1) := by decide +kernel
theorem dX6_toleranceOfFive_154 : decode cX6_toleranceOfFive 154 = .ok (.ireturn, 1) := by decide +kernel
theorem dX6_toleranceOfFive_155 : decode cX6_toleranceOfFive 155 = .ok (.bipush 6, 2) := by decide +kernel
theorem dX6_toleranceOfFive_157 : decode cX6_toleranceOfFive 157 = .ok (.bipush 60, 2) := by decide +kernel
theorem dX6_toleranceOfFive_159 : decode cX6_toleranceOfFive 159 = .ok (.iconst 2, 1) := by decide +kernel
theorem dX6_toleranceOfFive_160 : decode cX6_toleranceOfFive 160 = .ok (.iload 4, 2) := by decide +kernel
theorem dX6_toleranceOfFive_162 : decode cX6_toleranceOfFive 162 = .ok (.imul, 1) := by decide +kernel
theorem dX6_toleranceOfFive_163 : decode cX6_toleranceOfFive 163 = .ok (.iadd, 1) := by decide +kernel
theorem dX6_toleranceOfFive_164 : decode cX6_toleranceOfFive 164 = .ok (.imul, 1) := by decide +kernel
theorem dX6_toleranceOfFive_165 : decode cX6_toleranceOfFive 165 = .ok (.bipush 10, 2) := by decide +kernel
theorem dX6_toleranceOfFive_167 : decode cX6_toleranceOfFive 167 = .ok (.idiv, 1) := by decide +kernel
theorem dX6_toleranceOfFive_168 : decode cX6_toleranceOfFive 168 = .ok (.ireturn, 1) := by decide +kernel
theorem dX6_toleranceOf_0 : decode cX6_toleranceOf 0 = .ok (.aload_n 0, 1) := by decide +kernel
theorem dX6_toleranceOf_1 : decode cX6_toleranceOf 1 = .ok (.iload_n 1, 1) := by decide +kernel
theorem dX6_toleranceOf_2 : decode cX6_toleranceOf 2 = .ok (.iload_n 2, 1) := by decide +kernel
theorem dX6_toleranceOf_3 : decode cX6_toleranceOf 3 = .ok (.invokevirtual 222, 3) := by decide +kernel
theorem dX6_toleranceOf_6 : decode cX6_toleranceOf 6 = .ok (.istore 4, 2) := by decide +kernel
theorem dX6_toleranceOf_8 : decode cX6_toleranceOf 8 = .ok (.iconst 5, 1) := by decide +kernel
theorem dX6_toleranceOf_9 : decode cX6_toleranceOf 9 = .ok (.istore 5, 2) := by decide +kernel
theorem dX6_toleranceOf_11 : decode cX6_toleranceOf 11 = .ok (.iload 5, 2) := by decide +kernel
theorem dX6_toleranceOf_13 : decode cX6_toleranceOf 13 = .ok (.iload_n 3, 1) := by decide +kernel
theorem dX6_toleranceOf_14 : decode cX6_toleranceOf 14 = .ok (.if_icmp .ge 21, 3) := by decide +kernel
theorem dX6_toleranceOf_17 : decode cX6_toleranceOf 17 = .ok (.iload 4, 2) := by decide +kernel
theorem dX6_toleranceOf_19 : decode cX6_toleranceOf 19 = .ok (.sipush 1414, 3) := by decide +kernel
theorem dX6_toleranceOf_22 : decode cX6_toleranceOf 22 = .ok (.imul, 1) := by decide +kernel
theorem dX6_toleranceOf_23 : decode cX6_toleranceOf 23 = .ok (.sipush 1000, 3) := by decide +kernel
theorem dX6_toleranceOf_26 : decode cX6_toleranceOf 26 = .ok (.idiv, 1) := by decide +kernel
theorem dX6_toleranceOf_27 : decode cX6_toleranceOf 27 = .ok (.istore 4, 2) := by decide +kernel
theorem dX6_toleranceOf_29 : decode cX6_toleranceOf 29 = .ok (.iinc 5 1, 3) := by decide +kernel
theorem dX6_toleranceOf_32 : decode cX6_toleranceOf 32 = .ok (.goto (-21), 3) := by decide +kernel
theorem dX6_toleranceOf_35 : decode cX6_toleranceOf 35 = .ok (.iconst 5, 1) := by decide +kernel
theorem dX6_toleranceOf_36 : decode cX6_toleranceOf 36 = .ok (.istore 5, 2) := by decide +kernel
theorem dX6_toleranceOf_38 : decode cX6_toleranceOf 38 = .ok (.iload 5, 2) := by decide +kernel
theorem dX6_toleranceOf_40 : decode cX6_toleranceOf 40 = .ok (.iload_n 3, 1) := by decide +kernel
theorem dX6_toleranceOf_41 : decode cX6_toleranceOf 41 = .ok (.if_icmp .le 21, 3) := by decide +kernel
theorem dX6_toleranceOf_44 : decode cX6_toleranceOf 44 = .ok (.iload 4, 2) := by decide +kernel
theorem dX6_toleranceOf_46 : decode cX6_toleranceOf 46 = .ok (.sipush 1000, 3) := by decide +kernel
theorem dX6_toleranceOf_49 : decode cX6_toleranceOf 49 = .ok (.imul, 1) := by decide +kernel
theorem dX6_toleranceOf_50 : decode cX6_toleranceOf 50 = .ok (.sipush 1414, 3) := by decide +kernel
theorem dX6_toleranceOf_53 : decode cX6_toleranceOf 53 = .ok (.idiv, 1) := by decide +kernel
theorem dX6_toleranceOf_54 : decode cX6_toleranceOf 54 = .ok (.istore 4, 2) := by decide +kernel
theorem dX6_toleranceOf_56 : decode cX6_toleranceOf 56 = .ok (.iinc 5 (-1), 3) := by decide +kernel
theorem dX6_toleranceOf_59 : decode cX6_toleranceOf 59 = .ok (.goto (-21), 3) := by decide +kernel
theorem dX6_toleranceOf_62 : decode cX6_toleranceOf 62 = .ok (.iload 4, 2) := by decide +kernel
theorem dX6_toleranceOf_64 : decode cX6_toleranceOf 64 = .ok (.ireturn, 1) := by decide +kernel
theorem dX6_classOf_0 : decode cX6_classOf 0 = .ok (.iconst 1, 1) := by decide +kernel
theorem dX6_classOf_1 : decode cX6_classOf 1 = .ok (.istore_n 3, 1) := by decide +kernel
theorem dX6_classOf_2 : decode cX6_classOf 2 = .ok (.iconst 0, 1) := by decide +kernel
theorem dX6_classOf_3 : decode cX6_classOf 3 = .ok (.istore 4, 2) := by decide +kernel
theorem dX6_classOf_5 : decode cX6_classOf 5 = .ok (.iload 4, 2) := by decide +kernel
theorem dX6_classOf_7 : decode cX6_classOf 7 = .ok (.bipush 9, 2) := by decide +kernel
theorem dX6_classOf_9 : decode cX6_classOf 9 = .ok (.if_icmp .ge 72, 3) := by decide +kernel
theorem dX6_classOf_12 : decode cX6_classOf 12 = .ok (.iload_n 2, 1) := by decide +kernel
theorem dX6_classOf_13 : decode cX6_classOf 13 = .ok (.iconst (-1), 1) := by decide +kernel
theorem dX6_classOf_14 : decode cX6_classOf 14 = .ok (.if_icmp .eq 9, 3) := by decide +kernel
theorem dX6_classOf_17 : decode cX6_classOf 17 = .ok (.iload 4, 2) := by decide +kernel
theorem dX6_classOf_19 : decode cX6_classOf 19 = .ok (.iload_n 2, 1) := by decide +kernel
theorem dX6_classOf_20 : decode cX6_classOf 20 = .ok (.if_icmp .ne 55, 3) := by decide +kernel
theorem dX6_classOf_23 : decode cX6_classOf 23 = .ok (.aload_n 0, 1) := by decide +kernel
theorem dX6_classOf_24 : decode cX6_classOf 24 = .ok (.iload_n 1, 1) := by decide +kernel
theorem dX6_classOf_25 : decode cX6_classOf 25 = .ok (.iload 4, 2) := by decide +kernel
theorem dX6_classOf_27 : decode cX6_classOf 27 = .ok (.invokevirtual 188, 3) := by decide +kernel
theorem dX6_classOf_30 : decode cX6_classOf 30 = .ok (.istore 5, 2) := by decide +kernel
theorem dX6_classOf_32 : decode cX6_classOf 32 = .ok (.iconst 1, 1) := by decide +kernel
theorem dX6_classOf_33 : decode cX6_classOf 33 = .ok (.istore 6, 2) := by decide +kernel
theorem dX6_classOf_35 : decode cX6_classOf 35 = .ok (.iload 6, 2) := by decide +kernel
theorem dX6_classOf_37 : decode cX6_classOf 37 = .ok (.bipush 13, 2) := by decide +kernel
theorem dX6_classOf_39 : decode cX6_classOf 39 = .ok (.if_icmp .ge 23, 3) := by decide +kernel
theorem dX6_classOf_42 : decode cX6_classOf 42 = .ok (.aload_n 0, 1) := by decide +kernel
theorem dX6_classOf_43 : decode cX6_classOf 43 = .ok (.iload_n 1, 1) := by decide +kernel
theorem dX6_classOf_44 : decode cX6_classOf 44 = .ok (.iload 4, 2) := by decide +kernel
theorem dX6_classOf_46 : decode cX6_classOf 46 = .ok (.iload 6, 2) := by decide +kernel
theorem dX6_classOf_48 : decode cX6_classOf 48 = .ok (.invokevirtual 225, 3) := by decide +kernel
theorem dX6_classOf_51 : decode cX6_classOf 51 = .ok (.iload 5, 2) := by decide +kernel
theorem dX6_classOf_53 : decode cX6_classOf 53 = .ok (.if_icmp .ge 9, 3) := by decide +kernel
theorem dX6_classOf_56 : decode cX6_classOf 56 = .ok (.iinc 6 1, 3) := by decide +kernel
theorem dX6_classOf_59 : decode cX6_classOf 59 = .ok (.goto (-24), 3) := by decide +kernel
theorem dX6_classOf_62 : decode cX6_classOf 62 = .ok (.iload 6, 2) := by decide +kernel
theorem dX6_classOf_64 : decode cX6_classOf 64 = .ok (.iload_n 3, 1) := by decide +kernel
theorem dX6_classOf_65 : decode cX6_classOf 65 = .ok (.if_icmp .le 8, 3) := by decide +kernel
theorem dX6_classOf_68 : decode cX6_classOf 68 = .ok (.iload 6, 2) := by decide +kernel
theorem dX6_classOf_70 : decode cX6_classOf 70 = .ok (.goto 4, 3) := by decide +kernel
theorem dX6_classOf_73 : decode cX6_classOf 73 = .ok (.iload_n 3, 1) := by decide +kernel
theorem dX6_classOf_74 : decode cX6_classOf 74 = .ok (.istore_n 3, 1) := by decide +kernel
theorem dX6_classOf_75 : decode cX6_classOf 75 = .ok (.iinc 4 1, 3) := by decide +kernel
theorem dX6_classOf_78 : decode cX6_classOf 78 = .ok (.goto (-73), 3) := by decide +kernel
theorem dX6_classOf_81 : decode cX6_classOf 81 = .ok (.iload_n 3, 1) := by decide +kernel
theorem dX6_classOf_82 : decode cX6_classOf 82 = .ok (.ireturn, 1) := by decide +kernel
theorem dX6_tolerance_0 : decode cX6_tolerance 0 = .ok (.aload_n 0, 1) := by decide +kernel
theorem dX6_tolerance_1 : decode cX6_tolerance 1 = .ok (.iload_n 1, 1) := by decide +kernel
theorem dX6_tolerance_2 : decode cX6_tolerance 2 = .ok (.invokevirtual 62, 3) := by decide +kernel
theorem dX6_tolerance_5 : decode cX6_tolerance 5 = .ok (.ifCond .ne 9, 3) := by decide +kernel
theorem dX6_tolerance_8 : decode cX6_tolerance 8 = .ok (.aload_n 0, 1) := by decide +kernel
theorem dX6_tolerance_9 : decode cX6_tolerance 9 = .ok (.iconst 1, 1) := by decide +kernel
theorem dX6_tolerance_10 : decode cX6_tolerance 10 = .ok (.invokevirtual 83, 3) := by decide +kernel
theorem dX6_tolerance_13 : decode cX6_tolerance 13 = .ok (.ireturn, 1) := by decide +kernel
theorem dX6_tolerance_14 : decode cX6_tolerance 14 = .ok (.iload_n 2, 1) := by decide +kernel
theorem dX6_tolerance_15 : decode cX6_tolerance 15 = .ok (.invokestatic 185, 3) := by decide +kernel
theorem dX6_tolerance_18 : decode cX6_tolerance 18 = .ok (.ifCond .eq 29, 3) := by decide +kernel
theorem dX6_tolerance_21 : decode cX6_tolerance 21 = .ok (.iload_n 3, 1) := by decide +kernel
theorem dX6_tolerance_22 : decode cX6_tolerance 22 = .ok (.i2l, 1) := by decide +kernel
theorem dX6_tolerance_23 : decode cX6_tolerance 23 = .ok (.lconst 1, 1) := by decide +kernel
theorem dX6_tolerance_24 : decode cX6_tolerance 24 = .ok (.ldc2_w 228, 3) := by decide +kernel
theorem dX6_tolerance_27 : decode cX6_tolerance 27 = .ok (.invokestatic 51, 3) := by decide +kernel
theorem dX6_tolerance_30 : decode cX6_tolerance 30 = .ok (.ifCond .eq 17, 3) := by decide +kernel
theorem dX6_tolerance_33 : decode cX6_tolerance 33 = .ok (.aload_n 0, 1) := by decide +kernel
theorem dX6_tolerance_34 : decode cX6_tolerance 34 = .ok (.aload_n 0, 1) := by decide +kernel
theorem dX6_tolerance_35 : decode cX6_tolerance 35 = .ok (.iload_n 1, 1) := by decide +kernel
theorem dX6_tolerance_36 : decode cX6_tolerance 36 = .ok (.iload_n 2, 1) := by decide +kernel
theorem dX6_tolerance_37 : decode cX6_tolerance 37 = .ok (.iload_n 3, 1) := by decide +kernel
theorem dX6_tolerance_38 : decode cX6_tolerance 38 = .ok (.invokevirtual 225, 3) := by decide +kernel
theorem dX6_tolerance_41 : decode cX6_tolerance 41 = .ok (.invokevirtual 41, 3) := by decide +kernel
theorem dX6_tolerance_44 : decode cX6_tolerance 44 = .ok (.goto 8, 3) := by decide +kernel
theorem dX6_tolerance_47 : decode cX6_tolerance 47 = .ok (.aload_n 0, 1) := by decide +kernel
theorem dX6_tolerance_48 : decode cX6_tolerance 48 = .ok (.iconst 2, 1) := by decide +kernel
theorem dX6_tolerance_49 : decode cX6_tolerance 49 = .ok (.invokevirtual 83, 3) := by decide +kernel
theorem dX6_tolerance_52 : decode cX6_tolerance 52 = .ok (.ireturn, 1) := by decide +kernel
theorem dX6_quality_0 : decode cX6_quality 0 = .ok (.aload_n 0, 1) := by decide +kernel
theorem dX6_quality_1 : decode cX6_quality 1 = .ok (.iload_n 1, 1) := by decide +kernel
theorem dX6_quality_2 : decode cX6_quality 2 = .ok (.invokevirtual 62, 3) := by decide +kernel
theorem dX6_quality_5 : decode cX6_quality 5 = .ok (.ifCond .ne 9, 3) := by decide +kernel
theorem dX6_quality_8 : decode cX6_quality 8 = .ok (.aload_n 0, 1) := by decide +kernel
theorem dX6_quality_9 : decode cX6_quality 9 = .ok (.iconst 1, 1) := by decide +kernel
theorem dX6_quality_10 : decode cX6_quality 10 = .ok (.invokevirtual 83, 3) := by decide +kernel
theorem dX6_quality_13 : decode cX6_quality 13 = .ok (.ireturn, 1) := by decide +kernel
theorem dX6_quality_14 : decode cX6_quality 14 = .ok (.iload_n 2, 1) := by decide +kernel
theorem dX6_quality_15 : decode cX6_quality 15 = .ok (.i2l, 1) := by decide +kernel
theorem dX6_quality_16 : decode cX6_quality 16 = .ok (.ldc2_w 161, 3) := by decide +kernel
theorem dX6_quality_19 : decode cX6_quality 19 = .ok (.ldc2_w 183, 3) := by decide +kernel
theorem dX6_quality_22 : decode cX6_quality 22 = .ok (.invokestatic 51, 3) := by decide +kernel
theorem dX6_quality_25 : decode cX6_quality 25 = .ok (.ifCond .eq 16, 3) := by decide +kernel
theorem dX6_quality_28 : decode cX6_quality 28 = .ok (.aload_n 0, 1) := by decide +kernel
theorem dX6_quality_29 : decode cX6_quality 29 = .ok (.aload_n 0, 1) := by decide +kernel
theorem dX6_quality_30 : decode cX6_quality 30 = .ok (.iload_n 1, 1) := by decide +kernel
theorem dX6_quality_31 : decode cX6_quality 31 = .ok (.iload_n 2, 1) := by decide +kernel
theorem dX6_quality_32 : decode cX6_quality 32 = .ok (.invokevirtual 139, 3) := by decide +kernel
theorem dX6_quality_35 : decode cX6_quality 35 = .ok (.invokevirtual 41, 3) := by decide +kernel
theorem dX6_quality_38 : decode cX6_quality 38 = .ok (.goto 8, 3) := by decide +kernel
theorem dX6_quality_41 : decode cX6_quality 41 = .ok (.aload_n 0, 1) := by decide +kernel
theorem dX6_quality_42 : decode cX6_quality 42 = .ok (.iconst 2, 1) := by decide +kernel
theorem dX6_quality_43 : decode cX6_quality 43 = .ok (.invokevirtual 83, 3) := by decide +kernel
theorem dX6_quality_46 : decode cX6_quality 46 = .ok (.ireturn, 1) := by decide +kernel
theorem dX6_decide_0 : decode cX6_decide 0 = .ok (.aload_n 0, 1) := by decide +kernel
theorem dX6_decide_1 : decode cX6_decide 1 = .ok (.iload_n 1, 1) := by decide +kernel
theorem dX6_decide_2 : decode cX6_decide 2 = .ok (.invokevirtual 62, 3) := by decide +kernel
theorem dX6_decide_5 : decode cX6_decide 5 = .ok (.ifCond .ne 9, 3) := by decide +kernel
theorem dX6_decide_8 : decode cX6_decide 8 = .ok (.aload_n 0, 1) := by decide +kernel
theorem dX6_decide_9 : decode cX6_decide 9 = .ok (.iconst 1, 1) := by decide +kernel
theorem dX6_decide_10 : decode cX6_decide 10 = .ok (.invokevirtual 83, 3) := by decide +kernel
theorem dX6_decide_13 : decode cX6_decide 13 = .ok (.ireturn, 1) := by decide +kernel
theorem dX6_decide_14 : decode cX6_decide 14 = .ok (.iload_n 2, 1) := by decide +kernel
theorem dX6_decide_15 : decode cX6_decide 15 = .ok (.i2l, 1) := by decide +kernel
theorem dX6_decide_16 : decode cX6_decide 16 = .ok (.lconst 1, 1) := by decide +kernel
theorem dX6_decide_17 : decode cX6_decide 17 = .ok (.ldc2_w 228, 3) := by decide +kernel
theorem dX6_decide_20 : decode cX6_decide 20 = .ok (.invokestatic 51, 3) := by decide +kernel
theorem dX6_decide_23 : decode cX6_decide 23 = .ok (.ifCond .eq 15, 3) := by decide +kernel
theorem dX6_decide_26 : decode cX6_decide 26 = .ok (.iload_n 3, 1) := by decide +kernel
theorem dX6_decide_27 : decode cX6_decide 27 = .ok (.i2l, 1) := by decide +kernel
theorem dX6_decide_28 : decode cX6_decide 28 = .ok (.lconst 0, 1) := by decide +kernel
theorem dX6_decide_29 : decode cX6_decide 29 = .ok (.ldc2_w 230, 3) := by decide +kernel
theorem dX6_decide_32 : decode cX6_decide 32 = .ok (.invokestatic 51, 3) := by decide +kernel
theorem dX6_decide_35 : decode cX6_decide 35 = .ok (.ifCond .ne 9, 3) := by decide +kernel
theorem dX6_decide_38 : decode cX6_decide 38 = .ok (.aload_n 0, 1) := by decide +kernel
theorem dX6_decide_39 : decode cX6_decide 39 = .ok (.iconst 2, 1) := by decide +kernel
theorem dX6_decide_40 : decode cX6_decide 40 = .ok (.invokevirtual 83, 3) := by decide +kernel
theorem dX6_decide_43 : decode cX6_decide 43 = .ok (.ireturn, 1) := by decide +kernel
theorem dX6_decide_44 : decode cX6_decide 44 = .ok (.iconst 0, 1) := by decide +kernel
theorem dX6_decide_45 : decode cX6_decide 45 = .ok (.istore 4, 2) := by decide +kernel
theorem dX6_decide_47 : decode cX6_decide 47 = .ok (.iconst 0, 1) := by decide +kernel
theorem dX6_decide_48 : decode cX6_decide 48 = .ok (.istore 5, 2) := by decide +kernel
theorem dX6_decide_50 : decode cX6_decide 50 = .ok (.iload 5, 2) := by decide +kernel
theorem dX6_decide_52 : decode cX6_decide 52 = .ok (.bipush 9, 2) := by decide +kernel
theorem dX6_decide_54 : decode cX6_decide 54 = .ok (.if_icmp .ge 73, 3) := by decide +kernel
theorem dX6_decide_57 : decode cX6_decide 57 = .ok (.aload_n 0, 1) := by decide +kernel
theorem dX6_decide_58 : decode cX6_decide 58 = .ok (.iload_n 1, 1) := by decide +kernel
theorem dX6_decide_59 : decode cX6_decide 59 = .ok (.iload 5, 2) := by decide +kernel
theorem dX6_decide_61 : decode cX6_decide 61 = .ok (.invokevirtual 188, 3) := by decide +kernel
theorem dX6_decide_64 : decode cX6_decide 64 = .ok (.istore 6, 2) := by decide +kernel
theorem dX6_decide_66 : decode cX6_decide 66 = .ok (.aload_n 0, 1) := by decide +kernel
theorem dX6_decide_67 : decode cX6_decide 67 = .ok (.iload_n 1, 1) := by decide +kernel
theorem dX6_decide_68 : decode cX6_decide 68 = .ok (.iload 5, 2) := by decide +kernel
theorem dX6_decide_70 : decode cX6_decide 70 = .ok (.iload_n 2, 1) := by decide +kernel
theorem dX6_decide_71 : decode cX6_decide 71 = .ok (.invokevirtual 225, 3) := by decide +kernel
theorem dX6_decide_74 : decode cX6_decide 74 = .ok (.istore 7, 2) := by decide +kernel
theorem dX6_decide_76 : decode cX6_decide 76 = .ok (.iload 6, 2) := by decide +kernel
theorem dX6_decide_78 : decode cX6_decide 78 = .ok (.iload_n 3, 1) := by decide +kernel
theorem dX6_decide_79 : decode cX6_decide 79 = .ok (.iadd, 1) := by decide +kernel
theorem dX6_decide_80 : decode cX6_decide 80 = .ok (.iload 7, 2) := by decide +kernel
theorem dX6_decide_82 : decode cX6_decide 82 = .ok (.if_icmp .gt 7, 3) := by decide +kernel
theorem dX6_decide_85 : decode cX6_decide 85 = .ok (.iconst 0, 1) := by decide +kernel
theorem dX6_decide_86 : decode cX6_decide 86 = .ok (.goto 17, 3) := by decide +kernel
theorem dX6_decide_89 : decode cX6_decide 89 = .ok (.iload 6, 2) := by decide +kernel
theorem dX6_decide_91 : decode cX6_decide 91 = .ok (.iload_n 3, 1) := by decide +kernel
theorem dX6_decide_92 : decode cX6_decide 92 = .ok (.isub, 1) := by decide +kernel
theorem dX6_decide_93 : decode cX6_decide 93 = .ok (.iload 7, 2) := by decide +kernel
theorem dX6_decide_95 : decode cX6_decide 95 = .ok (.if_icmp .le 7, 3) := by decide +kernel
theorem dX6_decide_98 : decode cX6_decide 98 = .ok (.iconst 2, 1) := by decide +kernel
theorem dX6_decide_99 : decode cX6_decide 99 = .ok (.goto 4, 3) := by decide +kernel
theorem dX6_decide_102 : decode cX6_decide 102 = .ok (.iconst 1, 1) := by decide +kernel
theorem dX6_decide_103 : decode cX6_decide 103 = .ok (.istore 8, 2) := by decide +kernel
theorem dX6_decide_105 : decode cX6_decide 105 = .ok (.iload 8, 2) := by decide +kernel
theorem dX6_decide_107 : decode cX6_decide 107 = .ok (.iload 4, 2) := by decide +kernel
theorem dX6_decide_109 : decode cX6_decide 109 = .ok (.if_icmp .le 8, 3) := by decide +kernel
theorem dX6_decide_112 : decode cX6_decide 112 = .ok (.iload 8, 2) := by decide +kernel
theorem dX6_decide_114 : decode cX6_decide 114 = .ok (.goto 5, 3) := by decide +kernel
theorem dX6_decide_117 : decode cX6_decide 117 = .ok (.iload 4, 2) := by decide +kernel
theorem dX6_decide_119 : decode cX6_decide 119 = .ok (.istore 4, 2) := by decide +kernel
theorem dX6_decide_121 : decode cX6_decide 121 = .ok (.iinc 5 1, 3) := by decide +kernel
theorem dX6_decide_124 : decode cX6_decide 124 = .ok (.goto (-74), 3) := by decide +kernel
theorem dX6_decide_127 : decode cX6_decide 127 = .ok (.aload_n 0, 1) := by decide +kernel
theorem dX6_decide_128 : decode cX6_decide 128 = .ok (.iload 4, 2) := by decide +kernel
theorem dX6_decide_130 : decode cX6_decide 130 = .ok (.invokevirtual 41, 3) := by decide +kernel
theorem dX6_decide_133 : decode cX6_decide 133 = .ok (.ireturn, 1) := by decide +kernel
theorem dX6_common_0 : decode cX6_common 0 = .ok (.iload_n 0, 1) := by decide +kernel
theorem dX6_common_1 : decode cX6_common 1 = .ok (.iload_n 0, 1) := by decide +kernel
theorem dX6_common_2 : decode cX6_common 2 = .ok (.i2l, 1) := by decide +kernel
theorem dX6_common_3 : decode cX6_common 3 = .ok (.iload_n 1, 1) := by decide +kernel
theorem dX6_common_4 : decode cX6_common 4 = .ok (.i2l, 1) := by decide +kernel
theorem dX6_common_5 : decode cX6_common 5 = .ok (.invokestatic 216, 3) := by decide +kernel
theorem dX6_common_8 : decode cX6_common 8 = .ok (.l2i, 1) := by decide +kernel
theorem dX6_common_9 : decode cX6_common 9 = .ok (.idiv, 1) := by decide +kernel
theorem dX6_common_10 : decode cX6_common 10 = .ok (.iload_n 1, 1) := by decide +kernel
theorem dX6_common_11 : decode cX6_common 11 = .ok (.imul, 1) := by decide +kernel
theorem dX6_common_12 : decode cX6_common 12 = .ok (.ireturn, 1) := by decide +kernel
theorem dX6_lays_0 : decode cX6_lays 0 = .ok (.iconst 0, 1) := by decide +kernel
theorem dX6_lays_1 : decode cX6_lays 1 = .ok (.istore 4, 2) := by decide +kernel
theorem dX6_lays_3 : decode cX6_lays 3 = .ok (.iload 4, 2) := by decide +kernel
theorem dX6_lays_5 : decode cX6_lays 5 = .ok (.aload_n 0, 1) := by decide +kernel
theorem dX6_lays_6 : decode cX6_lays 6 = .ok (.iload_n 1, 1) := by decide +kernel
theorem dX6_lays_7 : decode cX6_lays 7 = .ok (.invokevirtual 59, 3) := by decide +kernel
theorem dX6_lays_10 : decode cX6_lays 10 = .ok (.if_icmp .ge 24, 3) := by decide +kernel
theorem dX6_lays_13 : decode cX6_lays 13 = .ok (.aload_n 0, 1) := by decide +kernel
theorem dX6_lays_14 : decode cX6_lays 14 = .ok (.getfield 22, 3) := by decide +kernel
theorem dX6_lays_17 : decode cX6_lays 17 = .ok (.iload 4, 2) := by decide +kernel
theorem dX6_lays_19 : decode cX6_lays 19 = .ok (.aload_n 0, 1) := by decide +kernel
theorem dX6_lays_20 : decode cX6_lays 20 = .ok (.iload_n 1, 1) := by decide +kernel
theorem dX6_lays_21 : decode cX6_lays 21 = .ok (.iload_n 3, 1) := by decide +kernel
theorem dX6_lays_22 : decode cX6_lays 22 = .ok (.iload 4, 2) := by decide +kernel
theorem dX6_lays_24 : decode cX6_lays 24 = .ok (.invokevirtual 149, 3) := by decide +kernel
theorem dX6_lays_27 : decode cX6_lays 27 = .ok (.iastore, 1) := by decide +kernel
theorem dX6_lays_28 : decode cX6_lays 28 = .ok (.iinc 4 1, 3) := by decide +kernel
theorem dX6_lays_31 : decode cX6_lays 31 = .ok (.goto (-28), 3) := by decide +kernel
theorem dX6_lays_34 : decode cX6_lays 34 = .ok (.iconst 0, 1) := by decide +kernel
theorem dX6_lays_35 : decode cX6_lays 35 = .ok (.istore 4, 2) := by decide +kernel
theorem dX6_lays_37 : decode cX6_lays 37 = .ok (.iload 4, 2) := by decide +kernel
theorem dX6_lays_39 : decode cX6_lays 39 = .ok (.aload_n 0, 1) := by decide +kernel
theorem dX6_lays_40 : decode cX6_lays 40 = .ok (.iload_n 2, 1) := by decide +kernel
theorem dX6_lays_41 : decode cX6_lays 41 = .ok (.invokevirtual 59, 3) := by decide +kernel
theorem dX6_lays_44 : decode cX6_lays 44 = .ok (.if_icmp .ge 24, 3) := by decide +kernel
theorem dX6_lays_47 : decode cX6_lays 47 = .ok (.aload_n 0, 1) := by decide +kernel
theorem dX6_lays_48 : decode cX6_lays 48 = .ok (.getfield 25, 3) := by decide +kernel
theorem dX6_lays_51 : decode cX6_lays 51 = .ok (.iload 4, 2) := by decide +kernel
theorem dX6_lays_53 : decode cX6_lays 53 = .ok (.aload_n 0, 1) := by decide +kernel
theorem dX6_lays_54 : decode cX6_lays 54 = .ok (.iload_n 2, 1) := by decide +kernel
theorem dX6_lays_55 : decode cX6_lays 55 = .ok (.iload_n 3, 1) := by decide +kernel
theorem dX6_lays_56 : decode cX6_lays 56 = .ok (.iload 4, 2) := by decide +kernel
theorem dX6_lays_58 : decode cX6_lays 58 = .ok (.invokevirtual 149, 3) := by decide +kernel
theorem dX6_lays_61 : decode cX6_lays 61 = .ok (.iastore, 1) := by decide +kernel
theorem dX6_lays_62 : decode cX6_lays 62 = .ok (.iinc 4 1, 3) := by decide +kernel
theorem dX6_lays_65 : decode cX6_lays 65 = .ok (.goto (-28), 3) := by decide +kernel
theorem dX6_lays_68 : decode cX6_lays 68 = .ok (.return_, 1) := by decide +kernel
theorem dX6_errorAt_0 : decode cX6_errorAt 0 = .ok (.iconst 0, 1) := by decide +kernel
theorem dX6_errorAt_1 : decode cX6_errorAt 1 = .ok (.istore 4, 2) := by decide +kernel
theorem dX6_errorAt_3 : decode cX6_errorAt 3 = .ok (.iconst 0, 1) := by decide +kernel
theorem dX6_errorAt_4 : decode cX6_errorAt 4 = .ok (.istore 5, 2) := by decide +kernel
theorem dX6_errorAt_6 : decode cX6_errorAt 6 = .ok (.aload_n 0, 1) := by decide +kernel
theorem dX6_errorAt_7 : decode cX6_errorAt 7 = .ok (.iload_n 1, 1) := by decide +kernel
theorem dX6_errorAt_8 : decode cX6_errorAt 8 = .ok (.invokevirtual 59, 3) := by decide +kernel
theorem dX6_errorAt_11 : decode cX6_errorAt 11 = .ok (.aload_n 0, 1) := by decide +kernel
theorem dX6_errorAt_12 : decode cX6_errorAt 12 = .ok (.iload_n 2, 1) := by decide +kernel
theorem dX6_errorAt_13 : decode cX6_errorAt 13 = .ok (.invokevirtual 59, 3) := by decide +kernel
theorem dX6_errorAt_16 : decode cX6_errorAt 16 = .ok (.invokestatic 232, 3) := by decide +kernel
theorem dX6_errorAt_19 : decode cX6_errorAt 19 = .ok (.istore 6, 2) := by decide +kernel
theorem dX6_errorAt_21 : decode cX6_errorAt 21 = .ok (.iconst 0, 1) := by decide +kernel
theorem dX6_errorAt_22 : decode cX6_errorAt 22 = .ok (.istore 7, 2) := by decide +kernel
theorem dX6_errorAt_24 : decode cX6_errorAt 24 = .ok (.iload 7, 2) := by decide +kernel
theorem dX6_errorAt_26 : decode cX6_errorAt 26 = .ok (.iload 6, 2) := by decide +kernel
theorem dX6_errorAt_28 : decode cX6_errorAt 28 = .ok (.if_icmp .ge 82, 3) := by decide +kernel
theorem dX6_errorAt_31 : decode cX6_errorAt 31 = .ok (.aload_n 0, 1) := by decide +kernel
theorem dX6_errorAt_32 : decode cX6_errorAt 32 = .ok (.getfield 22, 3) := by decide +kernel
theorem dX6_errorAt_35 : decode cX6_errorAt 35 = .ok (.iload 7, 2) := by decide +kernel
theorem dX6_errorAt_37 : decode cX6_errorAt 37 = .ok (.aload_n 0, 1) := by decide +kernel
theorem dX6_errorAt_38 : decode cX6_errorAt 38 = .ok (.iload_n 1, 1) := by decide +kernel
theorem dX6_errorAt_39 : decode cX6_errorAt 39 = .ok (.invokevirtual 59, 3) := by decide +kernel
theorem dX6_errorAt_42 : decode cX6_errorAt 42 = .ok (.irem, 1) := by decide +kernel
theorem dX6_errorAt_43 : decode cX6_errorAt 43 = .ok (.iaload, 1) := by decide +kernel
theorem dX6_errorAt_44 : decode cX6_errorAt 44 = .ok (.aload_n 0, 1) := by decide +kernel
theorem dX6_errorAt_45 : decode cX6_errorAt 45 = .ok (.getfield 25, 3) := by decide +kernel
theorem dX6_errorAt_48 : decode cX6_errorAt 48 = .ok (.iload 7, 2) := by decide +kernel
theorem dX6_errorAt_50 : decode cX6_errorAt 50 = .ok (.iload_n 3, 1) := by decide +kernel
theorem dX6_errorAt_51 : decode cX6_errorAt 51 = .ok (.iadd, 1) := by decide +kernel
theorem dX6_errorAt_52 : decode cX6_errorAt 52 = .ok (.aload_n 0, 1) := by decide +kernel
theorem dX6_errorAt_53 : decode cX6_errorAt 53 = .ok (.iload_n 2, 1) := by decide +kernel
theorem dX6_errorAt_54 : decode cX6_errorAt 54 = .ok (.invokevirtual 59, 3) := by decide +kernel
theorem dX6_errorAt_57 : decode cX6_errorAt 57 = .ok (.irem, 1) := by decide +kernel
theorem dX6_errorAt_58 : decode cX6_errorAt 58 = .ok (.iaload, 1) := by decide +kernel
theorem dX6_errorAt_59 : decode cX6_errorAt 59 = .ok (.iadd, 1) := by decide +kernel
theorem dX6_errorAt_60 : decode cX6_errorAt 60 = .ok (.istore 8, 2) := by decide +kernel
theorem dX6_errorAt_62 : decode cX6_errorAt 62 = .ok (.iload 7, 2) := by decide +kernel
theorem dX6_errorAt_64 : decode cX6_errorAt 64 = .ok (.ifCond .eq 10, 3) := by decide +kernel
theorem dX6_errorAt_67 : decode cX6_errorAt 67 = .ok (.iload 8, 2) := by decide +kernel
theorem dX6_errorAt_69 : decode cX6_errorAt 69 = .ok (.iload 4, 2) := by decide +kernel
theorem dX6_errorAt_71 : decode cX6_errorAt 71 = .ok (.if_icmp .le 8, 3) := by decide +kernel
theorem dX6_errorAt_74 : decode cX6_errorAt 74 = .ok (.iload 8, 2) := by decide +kernel
theorem dX6_errorAt_76 : decode cX6_errorAt 76 = .ok (.goto 5, 3) := by decide +kernel
theorem dX6_errorAt_79 : decode cX6_errorAt 79 = .ok (.iload 4, 2) := by decide +kernel
theorem dX6_errorAt_81 : decode cX6_errorAt 81 = .ok (.istore 4, 2) := by decide +kernel
theorem dX6_errorAt_83 : decode cX6_errorAt 83 = .ok (.iload 7, 2) := by decide +kernel
theorem dX6_errorAt_85 : decode cX6_errorAt 85 = .ok (.ifCond .eq 10, 3) := by decide +kernel
theorem dX6_errorAt_88 : decode cX6_errorAt 88 = .ok (.iload 8, 2) := by decide +kernel
theorem dX6_errorAt_90 : decode cX6_errorAt 90 = .ok (.iload 5, 2) := by decide +kernel
theorem dX6_errorAt_92 : decode cX6_errorAt 92 = .ok (.if_icmp .ge 8, 3) := by decide +kernel
theorem dX6_errorAt_95 : decode cX6_errorAt 95 = .ok (.iload 8, 2) := by decide +kernel
theorem dX6_errorAt_97 : decode cX6_errorAt 97 = .ok (.goto 5, 3) := by decide +kernel
theorem dX6_errorAt_100 : decode cX6_errorAt 100 = .ok (.iload 5, 2) := by decide +kernel
theorem dX6_errorAt_102 : decode cX6_errorAt 102 = .ok (.istore 5, 2) := by decide +kernel
theorem dX6_errorAt_104 : decode cX6_errorAt 104 = .ok (.iinc 7 1, 3) := by decide +kernel
theorem dX6_errorAt_107 : decode cX6_errorAt 107 = .ok (.goto (-83), 3) := by decide +kernel
theorem dX6_errorAt_110 : decode cX6_errorAt 110 = .ok (.iload 4, 2) := by decide +kernel
theorem dX6_errorAt_112 : decode cX6_errorAt 112 = .ok (.iload 5, 2) := by decide +kernel
theorem dX6_errorAt_114 : decode cX6_errorAt 114 = .ok (.isub, 1) := by decide +kernel
theorem dX6_errorAt_115 : decode cX6_errorAt 115 = .ok (.ireturn, 1) := by decide +kernel
theorem dX6_phaseOf_0 : decode cX6_phaseOf 0 = .ok (.aload_n 0, 1) := by decide +kernel
theorem dX6_phaseOf_1 : decode cX6_phaseOf 1 = .ok (.iload_n 1, 1) := by decide +kernel
theorem dX6_phaseOf_2 : decode cX6_phaseOf 2 = .ok (.iload_n 2, 1) := by decide +kernel
theorem dX6_phaseOf_3 : decode cX6_phaseOf 3 = .ok (.iload_n 3, 1) := by decide +kernel
theorem dX6_phaseOf_4 : decode cX6_phaseOf 4 = .ok (.invokevirtual 235, 3) := by decide +kernel
theorem dX6_phaseOf_7 : decode cX6_phaseOf 7 = .ok (.iconst 0, 1) := by decide +kernel
theorem dX6_phaseOf_8 : decode cX6_phaseOf 8 = .ok (.istore 4, 2) := by decide +kernel
theorem dX6_phaseOf_10 : decode cX6_phaseOf 10 = .ok (.iconst 1, 1) := by decide +kernel
theorem dX6_phaseOf_11 : decode cX6_phaseOf 11 = .ok (.istore 5, 2) := by decide +kernel
theorem dX6_phaseOf_13 : decode cX6_phaseOf 13 = .ok (.iload 5, 2) := by decide +kernel
theorem dX6_phaseOf_15 : decode cX6_phaseOf 15 = .ok (.aload_n 0, 1) := by decide +kernel
theorem dX6_phaseOf_16 : decode cX6_phaseOf 16 = .ok (.iload_n 2, 1) := by decide +kernel
theorem dX6_phaseOf_17 : decode cX6_phaseOf 17 = .ok (.invokevirtual 59, 3) := by decide +kernel
theorem dX6_phaseOf_20 : decode cX6_phaseOf 20 = .ok (.if_icmp .ge 37, 3) := by decide +kernel
theorem dX6_phaseOf_23 : decode cX6_phaseOf 23 = .ok (.aload_n 0, 1) := by decide +kernel
theorem dX6_phaseOf_24 : decode cX6_phaseOf 24 = .ok (.iload_n 1, 1) := by decide +kernel
theorem dX6_phaseOf_25 : decode cX6_phaseOf 25 = .ok (.iload_n 2, 1) := by decide +kernel
theorem dX6_phaseOf_26 : decode cX6_phaseOf 26 = .ok (.iload 5, 2) := by decide +kernel
theorem dX6_phaseOf_28 : decode cX6_phaseOf 28 = .ok (.invokevirtual 239, 3) := by decide +kernel
theorem dX6_phaseOf_31 : decode cX6_phaseOf 31 = .ok (.aload_n 0, 1) := by decide +kernel
theorem dX6_phaseOf_32 : decode cX6_phaseOf 32 = .ok (.iload_n 1, 1) := by decide +kernel
theorem dX6_phaseOf_33 : decode cX6_phaseOf 33 = .ok (.iload_n 2, 1) := by decide +kernel
theorem dX6_phaseOf_34 : decode cX6_phaseOf 34 = .ok (.iload 4, 2) := by decide +kernel
theorem dX6_phaseOf_36 : decode cX6_phaseOf 36 = .ok (.invokevirtual 239, 3) := by decide +kernel
theorem dX6_phaseOf_39 : decode cX6_phaseOf 39 = .ok (.if_icmp .ge 8, 3) := by decide +kernel
theorem dX6_phaseOf_42 : decode cX6_phaseOf 42 = .ok (.iload 5, 2) := by decide +kernel
theorem dX6_phaseOf_44 : decode cX6_phaseOf 44 = .ok (.goto 5, 3) := by decide +kernel
theorem dX6_phaseOf_47 : decode cX6_phaseOf 47 = .ok (.iload 4, 2) := by decide +kernel
theorem dX6_phaseOf_49 : decode cX6_phaseOf 49 = .ok (.istore 4, 2) := by decide +kernel
theorem dX6_phaseOf_51 : decode cX6_phaseOf 51 = .ok (.iinc 5 1, 3) := by decide +kernel
theorem dX6_phaseOf_54 : decode cX6_phaseOf 54 = .ok (.goto (-41), 3) := by decide +kernel
theorem dX6_phaseOf_57 : decode cX6_phaseOf 57 = .ok (.iload 4, 2) := by decide +kernel
theorem dX6_phaseOf_59 : decode cX6_phaseOf 59 = .ok (.ireturn, 1) := by decide +kernel
theorem dX6_mesh_0 : decode cX6_mesh 0 = .ok (.aload_n 0, 1) := by decide +kernel
theorem dX6_mesh_1 : decode cX6_mesh 1 = .ok (.iload_n 1, 1) := by decide +kernel
theorem dX6_mesh_2 : decode cX6_mesh 2 = .ok (.iload_n 3, 1) := by decide +kernel
theorem dX6_mesh_3 : decode cX6_mesh 3 = .ok (.invokevirtual 152, 3) := by decide +kernel
theorem dX6_mesh_6 : decode cX6_mesh 6 = .ok (.ifCond .eq 11, 3) := by decide +kernel
theorem dX6_mesh_9 : decode cX6_mesh 9 = .ok (.aload_n 0, 1) := by decide +kernel
theorem dX6_mesh_10 : decode cX6_mesh 10 = .ok (.iload_n 2, 1) := by decide +kernel
theorem dX6_mesh_11 : decode cX6_mesh 11 = .ok (.invokevirtual 62, 3) := by decide +kernel
theorem dX6_mesh_14 : decode cX6_mesh 14 = .ok (.ifCond .ne 9, 3) := by decide +kernel
theorem dX6_mesh_17 : decode cX6_mesh 17 = .ok (.aload_n 0, 1) := by decide +kernel
theorem dX6_mesh_18 : decode cX6_mesh 18 = .ok (.iconst 1, 1) := by decide +kernel
theorem dX6_mesh_19 : decode cX6_mesh 19 = .ok (.invokevirtual 83, 3) := by decide +kernel
theorem dX6_mesh_22 : decode cX6_mesh 22 = .ok (.ireturn, 1) := by decide +kernel
theorem dX6_mesh_23 : decode cX6_mesh 23 = .ok (.iload 4, 2) := by decide +kernel
theorem dX6_mesh_25 : decode cX6_mesh 25 = .ok (.i2l, 1) := by decide +kernel
theorem dX6_mesh_26 : decode cX6_mesh 26 = .ok (.lconst 0, 1) := by decide +kernel
theorem dX6_mesh_27 : decode cX6_mesh 27 = .ok (.aload_n 0, 1) := by decide +kernel
theorem dX6_mesh_28 : decode cX6_mesh 28 = .ok (.iload_n 2, 1) := by decide +kernel
theorem dX6_mesh_29 : decode cX6_mesh 29 = .ok (.invokevirtual 59, 3) := by decide +kernel
theorem dX6_mesh_32 : decode cX6_mesh 32 = .ok (.iconst 1, 1) := by decide +kernel
theorem dX6_mesh_33 : decode cX6_mesh 33 = .ok (.isub, 1) := by decide +kernel
theorem dX6_mesh_34 : decode cX6_mesh 34 = .ok (.i2l, 1) := by decide +kernel
theorem dX6_mesh_35 : decode cX6_mesh 35 = .ok (.invokestatic 51, 3) := by decide +kernel
theorem dX6_mesh_38 : decode cX6_mesh 38 = .ok (.ifCond .ne 9, 3) := by decide +kernel
theorem dX6_mesh_41 : decode cX6_mesh 41 = .ok (.aload_n 0, 1) := by decide +kernel
theorem dX6_mesh_42 : decode cX6_mesh 42 = .ok (.iconst 2, 1) := by decide +kernel
theorem dX6_mesh_43 : decode cX6_mesh 43 = .ok (.invokevirtual 83, 3) := by decide +kernel
theorem dX6_mesh_46 : decode cX6_mesh 46 = .ok (.ireturn, 1) := by decide +kernel
theorem dX6_mesh_47 : decode cX6_mesh 47 = .ok (.aload_n 0, 1) := by decide +kernel
theorem dX6_mesh_48 : decode cX6_mesh 48 = .ok (.iload_n 1, 1) := by decide +kernel
theorem dX6_mesh_49 : decode cX6_mesh 49 = .ok (.iload_n 2, 1) := by decide +kernel
theorem dX6_mesh_50 : decode cX6_mesh 50 = .ok (.iload_n 3, 1) := by decide +kernel
theorem dX6_mesh_51 : decode cX6_mesh 51 = .ok (.invokevirtual 235, 3) := by decide +kernel
theorem dX6_mesh_54 : decode cX6_mesh 54 = .ok (.aload_n 0, 1) := by decide +kernel
theorem dX6_mesh_55 : decode cX6_mesh 55 = .ok (.aload_n 0, 1) := by decide +kernel
theorem dX6_mesh_56 : decode cX6_mesh 56 = .ok (.iload_n 1, 1) := by decide +kernel
theorem dX6_mesh_57 : decode cX6_mesh 57 = .ok (.iload_n 2, 1) := by decide +kernel
theorem dX6_mesh_58 : decode cX6_mesh 58 = .ok (.iload 4, 2) := by decide +kernel
theorem dX6_mesh_60 : decode cX6_mesh 60 = .ok (.invokevirtual 239, 3) := by decide +kernel
theorem dX6_mesh_63 : decode cX6_mesh 63 = .ok (.invokevirtual 41, 3) := by decide +kernel
theorem dX6_mesh_66 : decode cX6_mesh 66 = .ok (.ireturn, 1) := by decide +kernel
theorem dX6_bestPhase_0 : decode cX6_bestPhase 0 = .ok (.aload_n 0, 1) := by decide +kernel
theorem dX6_bestPhase_1 : decode cX6_bestPhase 1 = .ok (.iload_n 1, 1) := by decide +kernel
theorem dX6_bestPhase_2 : decode cX6_bestPhase 2 = .ok (.iload_n 3, 1) := by decide +kernel
theorem dX6_bestPhase_3 : decode cX6_bestPhase 3 = .ok (.invokevirtual 152, 3) := by decide +kernel
theorem dX6_bestPhase_6 : decode cX6_bestPhase 6 = .ok (.ifCond .eq 25, 3) := by decide +kernel
theorem dX6_bestPhase_9 : decode cX6_bestPhase 9 = .ok (.aload_n 0, 1) := by decide +kernel
theorem dX6_bestPhase_10 : decode cX6_bestPhase 10 = .ok (.iload_n 2, 1) := by decide +kernel
theorem dX6_bestPhase_11 : decode cX6_bestPhase 11 = .ok (.invokevirtual 62, 3) := by decide +kernel
theorem dX6_bestPhase_14 : decode cX6_bestPhase 14 = .ok (.ifCond .eq 17, 3) := by decide +kernel
theorem dX6_bestPhase_17 : decode cX6_bestPhase 17 = .ok (.aload_n 0, 1) := by decide +kernel
theorem dX6_bestPhase_18 : decode cX6_bestPhase 18 = .ok (.aload_n 0, 1) := by decide +kernel
theorem dX6_bestPhase_19 : decode cX6_bestPhase 19 = .ok (.iload_n 1, 1) := by decide +kernel
theorem dX6_bestPhase_20 : decode cX6_bestPhase 20 = .ok (.iload_n 2, 1) := by decide +kernel
theorem dX6_bestPhase_21 : decode cX6_bestPhase 21 = .ok (.iload_n 3, 1) := by decide +kernel
theorem dX6_bestPhase_22 : decode cX6_bestPhase 22 = .ok (.invokevirtual 242, 3) := by decide +kernel
theorem dX6_bestPhase_25 : decode cX6_bestPhase 25 = .ok (.invokevirtual 41, 3) := by decide +kernel
theorem dX6_bestPhase_28 : decode cX6_bestPhase 28 = .ok (.goto 8, 3) := by decide +kernel
theorem dX6_bestPhase_31 : decode cX6_bestPhase 31 = .ok (.aload_n 0, 1) := by decide +kernel
theorem dX6_bestPhase_32 : decode cX6_bestPhase 32 = .ok (.iconst 1, 1) := by decide +kernel
theorem dX6_bestPhase_33 : decode cX6_bestPhase 33 = .ok (.invokevirtual 83, 3) := by decide +kernel
theorem dX6_bestPhase_36 : decode cX6_bestPhase 36 = .ok (.ireturn, 1) := by decide +kernel
theorem dX6_partner_0 : decode cX6_partner 0 = .ok (.aload_n 0, 1) := by decide +kernel
theorem dX6_partner_1 : decode cX6_partner 1 = .ok (.iload_n 1, 1) := by decide +kernel
theorem dX6_partner_2 : decode cX6_partner 2 = .ok (.iload_n 2, 1) := by decide +kernel
theorem dX6_partner_3 : decode cX6_partner 3 = .ok (.invokevirtual 152, 3) := by decide +kernel
theorem dX6_partner_6 : decode cX6_partner 6 = .ok (.ifCond .ne 9, 3) := by decide +kernel
theorem dX6_partner_9 : decode cX6_partner 9 = .ok (.aload_n 0, 1) := by decide +kernel
theorem dX6_partner_10 : decode cX6_partner 10 = .ok (.iconst 1, 1) := by decide +kernel
theorem dX6_partner_11 : decode cX6_partner 11 = .ok (.invokevirtual 83, 3) := by decide +kernel
theorem dX6_partner_14 : decode cX6_partner 14 = .ok (.ireturn, 1) := by decide +kernel
theorem dX6_partner_15 : decode cX6_partner 15 = .ok (.iconst (-1), 1) := by decide +kernel
theorem dX6_partner_16 : decode cX6_partner 16 = .ok (.istore_n 3, 1) := by decide +kernel
theorem dX6_partner_17 : decode cX6_partner 17 = .ok (.iconst 0, 1) := by decide +kernel
theorem dX6_partner_18 : decode cX6_partner 18 = .ok (.istore 4, 2) := by decide +kernel
theorem dX6_partner_20 : decode cX6_partner 20 = .ok (.iconst 0, 1) := by decide +kernel
theorem dX6_partner_21 : decode cX6_partner 21 = .ok (.istore 5, 2) := by decide +kernel
theorem dX6_partner_23 : decode cX6_partner 23 = .ok (.iload 5, 2) := by decide +kernel
theorem dX6_partner_25 : decode cX6_partner 25 = .ok (.aload_n 0, 1) := by decide +kernel
theorem dX6_partner_26 : decode cX6_partner 26 = .ok (.getfield 7, 3) := by decide +kernel
theorem dX6_partner_29 : decode cX6_partner 29 = .ok (.iconst 0, 1) := by decide +kernel
theorem dX6_partner_30 : decode cX6_partner 30 = .ok (.iaload, 1) := by decide +kernel
theorem dX6_partner_31 : decode cX6_partner 31 = .ok (.if_icmp .ge 55, 3) := by decide +kernel
theorem dX6_partner_34 : decode cX6_partner 34 = .ok (.iload 5, 2) := by decide +kernel
theorem dX6_partner_36 : decode cX6_partner 36 = .ok (.iload_n 1, 1) := by decide +kernel
theorem dX6_partner_37 : decode cX6_partner 37 = .ok (.if_icmp .eq 43, 3) := by decide +kernel
theorem dX6_partner_40 : decode cX6_partner 40 = .ok (.aload_n 0, 1) := by decide +kernel
theorem dX6_partner_41 : decode cX6_partner 41 = .ok (.iload_n 1, 1) := by decide +kernel
theorem dX6_partner_42 : decode cX6_partner 42 = .ok (.iload 5, 2) := by decide +kernel
theorem dX6_partner_44 : decode cX6_partner 44 = .ok (.iload_n 2, 1) := by decide +kernel
theorem dX6_partner_45 : decode cX6_partner 45 = .ok (.invokevirtual 242, 3) := by decide +kernel
theorem dX6_partner_48 : decode cX6_partner 48 = .ok (.istore 6, 2) := by decide +kernel
theorem dX6_partner_50 : decode cX6_partner 50 = .ok (.aload_n 0, 1) := by decide +kernel
theorem dX6_partner_51 : decode cX6_partner 51 = .ok (.iload_n 1, 1) := by decide +kernel
theorem dX6_partner_52 : decode cX6_partner 52 = .ok (.iload 5, 2) := by decide +kernel
theorem dX6_partner_54 : decode cX6_partner 54 = .ok (.iload 6, 2) := by decide +kernel
theorem dX6_partner_56 : decode cX6_partner 56 = .ok (.invokevirtual 239, 3) := by decide +kernel
theorem dX6_partner_59 : decode cX6_partner 59 = .ok (.istore 7, 2) := by decide +kernel
theorem dX6_partner_61 : decode cX6_partner 61 = .ok (.iload_n 3, 1) := by decide +kernel
theorem dX6_partner_62 : decode cX6_partner 62 = .ok (.iconst (-1), 1) := by decide +kernel
theorem dX6_partner_63 : decode cX6_partner 63 = .ok (.if_icmp .eq 10, 3) := by decide +kernel
theorem dX6_partner_66 : decode cX6_partner 66 = .ok (.iload 7, 2) := by decide +kernel
theorem dX6_partner_68 : decode cX6_partner 68 = .ok (.iload 4, 2) := by decide +kernel
theorem dX6_partner_70 : decode cX6_partner 70 = .ok (.if_icmp .ge 10, 3) := by decide +kernel
theorem dX6_partner_73 : decode cX6_partner 73 = .ok (.iload 5, 2) := by decide +kernel
theorem dX6_partner_75 : decode cX6_partner 75 = .ok (.istore_n 3, 1) := by decide +kernel
theorem dX6_partner_76 : decode cX6_partner 76 = .ok (.iload 7, 2) := by decide +kernel
theorem dX6_partner_78 : decode cX6_partner 78 = .ok (.istore 4, 2) := by decide +kernel
theorem dX6_partner_80 : decode cX6_partner 80 = .ok (.iinc 5 1, 3) := by decide +kernel
theorem dX6_partner_83 : decode cX6_partner 83 = .ok (.goto (-60), 3) := by decide +kernel
theorem dX6_partner_86 : decode cX6_partner 86 = .ok (.aload_n 0, 1) := by decide +kernel
theorem dX6_partner_87 : decode cX6_partner 87 = .ok (.iload_n 3, 1) := by decide +kernel
theorem dX6_partner_88 : decode cX6_partner 88 = .ok (.invokevirtual 41, 3) := by decide +kernel
theorem dX6_partner_91 : decode cX6_partner 91 = .ok (.ireturn, 1) := by decide +kernel
theorem dX6_mean_0 : decode cX6_mean 0 = .ok (.iload_n 1, 1) := by decide +kernel
theorem dX6_mean_1 : decode cX6_mean 1 = .ok (.invokestatic 185, 3) := by decide +kernel
theorem dX6_mean_4 : decode cX6_mean 4 = .ok (.ifCond .ne 10, 3) := by decide +kernel
theorem dX6_mean_7 : decode cX6_mean 7 = .ok (.aload_n 0, 1) := by decide +kernel
theorem dX6_mean_8 : decode cX6_mean 8 = .ok (.iconst 1, 1) := by decide +kernel
theorem dX6_mean_9 : decode cX6_mean 9 = .ok (.invokevirtual 83, 3) := by decide +kernel
theorem dX6_mean_12 : decode cX6_mean 12 = .ok (.i2d, 1) := by decide +kernel
theorem dX6_mean_13 : decode cX6_mean 13 = .ok (.dreturn, 1) := by decide +kernel
theorem dX6_mean_14 : decode cX6_mean 14 = .ok (.iconst 0, 1) := by decide +kernel
theorem dX6_mean_15 : decode cX6_mean 15 = .ok (.istore_n 2, 1) := by decide +kernel
theorem dX6_mean_16 : decode cX6_mean 16 = .ok (.iconst 0, 1) := by decide +kernel
theorem dX6_mean_17 : decode cX6_mean 17 = .ok (.istore_n 3, 1) := by decide +kernel
theorem dX6_mean_18 : decode cX6_mean 18 = .ok (.iload_n 3, 1) := by decide +kernel
theorem dX6_mean_19 : decode cX6_mean 19 = .ok (.aload_n 0, 1) := by decide +kernel
theorem dX6_mean_20 : decode cX6_mean 20 = .ok (.getfield 7, 3) := by decide +kernel
theorem dX6_mean_23 : decode cX6_mean 23 = .ok (.iconst 0, 1) := by decide +kernel
theorem dX6_mean_24 : decode cX6_mean 24 = .ok (.iaload, 1) := by decide +kernel
theorem dX6_mean_25 : decode cX6_mean 25 = .ok (.if_icmp .ge 18, 3) := by decide +kernel
theorem dX6_mean_28 : decode cX6_mean 28 = .ok (.iload_n 2, 1) := by decide +kernel
theorem dX6_mean_29 : decode cX6_mean 29 = .ok (.aload_n 0, 1) := by decide +kernel
theorem dX6_mean_30 : decode cX6_mean 30 = .ok (.iload_n 3, 1) := by decide +kernel
theorem dX6_mean_31 : decode cX6_mean 31 = .ok (.iload_n 1, 1) := by decide +kernel
theorem dX6_mean_32 : decode cX6_mean 32 = .ok (.invokevirtual 188, 3) := by decide +kernel
theorem dX6_mean_35 : decode cX6_mean 35 = .ok (.iadd, 1) := by decide +kernel
theorem dX6_mean_36 : decode cX6_mean 36 = .ok (.istore_n 2, 1) := by decide +kernel
theorem dX6_mean_37 : decode cX6_mean 37 = .ok (.iinc 3 1, 3) := by decide +kernel
theorem dX6_mean_40 : decode cX6_mean 40 = .ok (.goto (-22), 3) := by decide +kernel
theorem dX6_mean_43 : decode cX6_mean 43 = .ok (.aload_n 0, 1) := by decide +kernel
theorem dX6_mean_44 : decode cX6_mean 44 = .ok (.iconst 0, 1) := by decide +kernel
theorem dX6_mean_45 : decode cX6_mean 45 = .ok (.putfield 35, 3) := by decide +kernel
theorem dX6_mean_48 : decode cX6_mean 48 = .ok (.aload_n 0, 1) := by decide +kernel
theorem dX6_mean_49 : decode cX6_mean 49 = .ok (.getfield 7, 3) := by decide +kernel
theorem dX6_mean_52 : decode cX6_mean 52 = .ok (.iconst 0, 1) := by decide +kernel
theorem dX6_mean_53 : decode cX6_mean 53 = .ok (.iaload, 1) := by decide +kernel
theorem dX6_mean_54 : decode cX6_mean 54 = .ok (.ifCond .ne 7, 3) := by decide +kernel
theorem dX6_mean_57 : decode cX6_mean 57 = .ok (.dconst 0, 1) := by decide +kernel
theorem dX6_mean_58 : decode cX6_mean 58 = .ok (.goto 13, 3) := by decide +kernel
theorem dX6_mean_61 : decode cX6_mean 61 = .ok (.iload_n 2, 1) := by decide +kernel
theorem dX6_mean_62 : decode cX6_mean 62 = .ok (.i2d, 1) := by decide +kernel
theorem dX6_mean_63 : decode cX6_mean 63 = .ok (.aload_n 0, 1) := by decide +kernel
theorem dX6_mean_64 : decode cX6_mean 64 = .ok (.getfield 7, 3) := by decide +kernel
theorem dX6_mean_67 : decode cX6_mean 67 = .ok (.iconst 0, 1) := by decide +kernel
theorem dX6_mean_68 : decode cX6_mean 68 = .ok (.iaload, 1) := by decide +kernel
theorem dX6_mean_69 : decode cX6_mean 69 = .ok (.i2d, 1) := by decide +kernel
theorem dX6_mean_70 : decode cX6_mean 70 = .ok (.ddiv, 1) := by decide +kernel
theorem dX6_mean_71 : decode cX6_mean 71 = .ok (.dreturn, 1) := by decide +kernel
theorem dX6_isAhead_0 : decode cX6_isAhead 0 = .ok (.aload_n 0, 1) := by decide +kernel
theorem dX6_isAhead_1 : decode cX6_isAhead 1 = .ok (.iload_n 1, 1) := by decide +kernel
theorem dX6_isAhead_2 : decode cX6_isAhead 2 = .ok (.iconst (-1), 1) := by decide +kernel
theorem dX6_isAhead_3 : decode cX6_isAhead 3 = .ok (.invokevirtual 139, 3) := by decide +kernel
theorem dX6_isAhead_6 : decode cX6_isAhead 6 = .ok (.istore_n 3, 1) := by decide +kernel
theorem dX6_isAhead_7 : decode cX6_isAhead 7 = .ok (.aload_n 0, 1) := by decide +kernel
theorem dX6_isAhead_8 : decode cX6_isAhead 8 = .ok (.iload_n 2, 1) := by decide +kernel
theorem dX6_isAhead_9 : decode cX6_isAhead 9 = .ok (.iconst (-1), 1) := by decide +kernel
theorem dX6_isAhead_10 : decode cX6_isAhead 10 = .ok (.invokevirtual 139, 3) := by decide +kernel
theorem dX6_isAhead_13 : decode cX6_isAhead 13 = .ok (.istore 4, 2) := by decide +kernel
theorem dX6_isAhead_15 : decode cX6_isAhead 15 = .ok (.aload_n 0, 1) := by decide +kernel
theorem dX6_isAhead_16 : decode cX6_isAhead 16 = .ok (.iload_n 1, 1) := by decide +kernel
theorem dX6_isAhead_17 : decode cX6_isAhead 17 = .ok (.iconst 1, 1) := by decide +kernel
theorem dX6_isAhead_18 : decode cX6_isAhead 18 = .ok (.invokevirtual 188, 3) := by decide +kernel
theorem dX6_isAhead_21 : decode cX6_isAhead 21 = .ok (.istore 5, 2) := by decide +kernel
theorem dX6_isAhead_23 : decode cX6_isAhead 23 = .ok (.aload_n 0, 1) := by decide +kernel
theorem dX6_isAhead_24 : decode cX6_isAhead 24 = .ok (.iload_n 2, 1) := by decide +kernel
theorem dX6_isAhead_25 : decode cX6_isAhead 25 = .ok (.iconst 1, 1) := by decide +kernel
theorem dX6_isAhead_26 : decode cX6_isAhead 26 = .ok (.invokevirtual 188, 3) := by decide +kernel
theorem dX6_isAhead_29 : decode cX6_isAhead 29 = .ok (.istore 6, 2) := by decide +kernel
theorem dX6_isAhead_31 : decode cX6_isAhead 31 = .ok (.iload_n 3, 1) := by decide +kernel
theorem dX6_isAhead_32 : decode cX6_isAhead 32 = .ok (.iload 4, 2) := by decide +kernel
theorem dX6_isAhead_34 : decode cX6_isAhead 34 = .ok (.if_icmp .lt 28, 3) := by decide +kernel
theorem dX6_isAhead_37 : decode cX6_isAhead 37 = .ok (.iload_n 3, 1) := by decide +kernel
theorem dX6_isAhead_38 : decode cX6_isAhead 38 = .ok (.iload 4, 2) := by decide +kernel
theorem dX6_isAhead_40 : decode cX6_isAhead 40 = .ok (.if_icmp .ne 26, 3) := by decide +kernel
theorem dX6_isAhead_43 : decode cX6_isAhead 43 = .ok (.iload 5, 2) := by decide +kernel
theorem dX6_isAhead_45 : decode cX6_isAhead 45 = .ok (.iload 6, 2) := by decide +kernel
theorem dX6_isAhead_47 : decode cX6_isAhead 47 = .ok (.if_icmp .lt 15, 3) := by decide +kernel
theorem dX6_isAhead_50 : decode cX6_isAhead 50 = .ok (.iload 5, 2) := by decide +kernel
theorem dX6_isAhead_52 : decode cX6_isAhead 52 = .ok (.iload 6, 2) := by decide +kernel
theorem dX6_isAhead_54 : decode cX6_isAhead 54 = .ok (.if_icmp .ne 12, 3) := by decide +kernel
theorem dX6_isAhead_57 : decode cX6_isAhead 57 = .ok (.iload_n 1, 1) := by decide +kernel
theorem dX6_isAhead_58 : decode cX6_isAhead 58 = .ok (.iload_n 2, 1) := by decide +kernel
theorem dX6_isAhead_59 : decode cX6_isAhead 59 = .ok (.if_icmp .ge 7, 3) := by decide +kernel
theorem dX6_isAhead_62 : decode cX6_isAhead 62 = .ok (.iconst 1, 1) := by decide +kernel
theorem dX6_isAhead_63 : decode cX6_isAhead 63 = .ok (.goto 4, 3) := by decide +kernel
theorem dX6_isAhead_66 : decode cX6_isAhead 66 = .ok (.iconst 0, 1) := by decide +kernel
theorem dX6_isAhead_67 : decode cX6_isAhead 67 = .ok (.ireturn, 1) := by decide +kernel
theorem dX6_ranked_0 : decode cX6_ranked 0 = .ok (.aload_n 0, 1) := by decide +kernel
theorem dX6_ranked_1 : decode cX6_ranked 1 = .ok (.iload_n 1, 1) := by decide +kernel
theorem dX6_ranked_2 : decode cX6_ranked 2 = .ok (.invokevirtual 62, 3) := by decide +kernel
theorem dX6_ranked_5 : decode cX6_ranked 5 = .ok (.ifCond .ne 9, 3) := by decide +kernel
theorem dX6_ranked_8 : decode cX6_ranked 8 = .ok (.aload_n 0, 1) := by decide +kernel
theorem dX6_ranked_9 : decode cX6_ranked 9 = .ok (.iconst 1, 1) := by decide +kernel
theorem dX6_ranked_10 : decode cX6_ranked 10 = .ok (.invokevirtual 83, 3) := by decide +kernel
theorem dX6_ranked_13 : decode cX6_ranked 13 = .ok (.ireturn, 1) := by decide +kernel
theorem dX6_ranked_14 : decode cX6_ranked 14 = .ok (.iconst (-1), 1) := by decide +kernel
theorem dX6_ranked_15 : decode cX6_ranked 15 = .ok (.istore_n 2, 1) := by decide +kernel
theorem dX6_ranked_16 : decode cX6_ranked 16 = .ok (.iconst 0, 1) := by decide +kernel
theorem dX6_ranked_17 : decode cX6_ranked 17 = .ok (.istore_n 3, 1) := by decide +kernel
theorem dX6_ranked_18 : decode cX6_ranked 18 = .ok (.iload_n 3, 1) := by decide +kernel
theorem dX6_ranked_19 : decode cX6_ranked 19 = .ok (.aload_n 0, 1) := by decide +kernel
theorem dX6_ranked_20 : decode cX6_ranked 20 = .ok (.getfield 7, 3) := by decide +kernel
theorem dX6_ranked_23 : decode cX6_ranked 23 = .ok (.iconst 0, 1) := by decide +kernel
theorem dX6_ranked_24 : decode cX6_ranked 24 = .ok (.iaload, 1) := by decide +kernel
theorem dX6_ranked_25 : decode cX6_ranked 25 = .ok (.if_icmp .ge 70, 3) := by decide +kernel
theorem dX6_ranked_28 : decode cX6_ranked 28 = .ok (.iconst 0, 1) := by decide +kernel
theorem dX6_ranked_29 : decode cX6_ranked 29 = .ok (.istore 4, 2) := by decide +kernel
theorem dX6_ranked_31 : decode cX6_ranked 31 = .ok (.iconst 0, 1) := by decide +kernel
theorem dX6_ranked_32 : decode cX6_ranked 32 = .ok (.istore 5, 2) := by decide +kernel
theorem dX6_ranked_34 : decode cX6_ranked 34 = .ok (.iload 5, 2) := by decide +kernel
theorem dX6_ranked_36 : decode cX6_ranked 36 = .ok (.aload_n 0, 1) := by decide +kernel
theorem dX6_ranked_37 : decode cX6_ranked 37 = .ok (.getfield 7, 3) := by decide +kernel
theorem dX6_ranked_40 : decode cX6_ranked 40 = .ok (.iconst 0, 1) := by decide +kernel
theorem dX6_ranked_41 : decode cX6_ranked 41 = .ok (.iaload, 1) := by decide +kernel
theorem dX6_ranked_42 : decode cX6_ranked 42 = .ok (.if_icmp .ge 35, 3) := by decide +kernel
theorem dX6_ranked_45 : decode cX6_ranked 45 = .ok (.iload 4, 2) := by decide +kernel
theorem dX6_ranked_47 : decode cX6_ranked 47 = .ok (.iload 5, 2) := by decide +kernel
theorem dX6_ranked_49 : decode cX6_ranked 49 = .ok (.iload_n 3, 1) := by decide +kernel
theorem dX6_ranked_50 : decode cX6_ranked 50 = .ok (.if_icmp .eq 17, 3) := by decide +kernel
theorem dX6_ranked_53 : decode cX6_ranked 53 = .ok (.aload_n 0, 1) := by decide +kernel
theorem dX6_ranked_54 : decode cX6_ranked 54 = .ok (.iload 5, 2) := by decide +kernel
theorem dX6_ranked_56 : decode cX6_ranked 56 = .ok (.iload_n 3, 1) := by decide +kernel
theorem dX6_ranked_57 : decode cX6_ranked 57 = .ok (.invokevirtual 245, 3) := by decide +kernel
theorem dX6_ranked_60 : decode cX6_ranked 60 = .ok (.ifCond .eq 7, 3) := by decide +kernel
theorem dX6_ranked_63 : decode cX6_ranked 63 = .ok (.iconst 1, 1) := by decide +kernel
theorem dX6_ranked_64 : decode cX6_ranked 64 = .ok (.goto 4, 3) := by decide +kernel
theorem dX6_ranked_67 : decode cX6_ranked 67 = .ok (.iconst 0, 1) := by decide +kernel
theorem dX6_ranked_68 : decode cX6_ranked 68 = .ok (.iadd, 1) := by decide +kernel
theorem dX6_ranked_69 : decode cX6_ranked 69 = .ok (.istore 4, 2) := by decide +kernel
theorem dX6_ranked_71 : decode cX6_ranked 71 = .ok (.iinc 5 1, 3) := by decide +kernel
theorem dX6_ranked_74 : decode cX6_ranked 74 = .ok (.goto (-40), 3) := by decide +kernel
theorem dX6_ranked_77 : decode cX6_ranked 77 = .ok (.iload 4, 2) := by decide +kernel
theorem dX6_ranked_79 : decode cX6_ranked 79 = .ok (.iload_n 1, 1) := by decide +kernel
theorem dX6_ranked_80 : decode cX6_ranked 80 = .ok (.if_icmp .ne 7, 3) := by decide +kernel
theorem dX6_ranked_83 : decode cX6_ranked 83 = .ok (.iload_n 3, 1) := by decide +kernel
theorem dX6_ranked_84 : decode cX6_ranked 84 = .ok (.goto 4, 3) := by decide +kernel
theorem dX6_ranked_87 : decode cX6_ranked 87 = .ok (.iload_n 2, 1) := by decide +kernel
theorem dX6_ranked_88 : decode cX6_ranked 88 = .ok (.istore_n 2, 1) := by decide +kernel
theorem dX6_ranked_89 : decode cX6_ranked 89 = .ok (.iinc 3 1, 3) := by decide +kernel
theorem dX6_ranked_92 : decode cX6_ranked 92 = .ok (.goto (-74), 3) := by decide +kernel
theorem dX6_ranked_95 : decode cX6_ranked 95 = .ok (.aload_n 0, 1) := by decide +kernel
theorem dX6_ranked_96 : decode cX6_ranked 96 = .ok (.iload_n 2, 1) := by decide +kernel
theorem dX6_ranked_97 : decode cX6_ranked 97 = .ok (.invokevirtual 41, 3) := by decide +kernel
theorem dX6_ranked_100 : decode cX6_ranked 100 = .ok (.ireturn, 1) := by decide +kernel
theorem dX6_append_0 : decode cX6_append 0 = .ok (.iload_n 1, 1) := by decide +kernel
theorem dX6_append_1 : decode cX6_append 1 = .ok (.i2l, 1) := by decide +kernel
theorem dX6_append_2 : decode cX6_append 2 = .ok (.lconst 0, 1) := by decide +kernel
theorem dX6_append_3 : decode cX6_append 3 = .ok (.ldc2_w 248, 3) := by decide +kernel
theorem dX6_append_6 : decode cX6_append 6 = .ok (.invokestatic 51, 3) := by decide +kernel
theorem dX6_append_9 : decode cX6_append 9 = .ok (.ifCond .ne 9, 3) := by decide +kernel
theorem dX6_append_12 : decode cX6_append 12 = .ok (.aload_n 0, 1) := by decide +kernel
theorem dX6_append_13 : decode cX6_append 13 = .ok (.iconst 1, 1) := by decide +kernel
theorem dX6_append_14 : decode cX6_append 14 = .ok (.invokevirtual 83, 3) := by decide +kernel
theorem dX6_append_17 : decode cX6_append 17 = .ok (.ireturn, 1) := by decide +kernel
theorem dX6_append_18 : decode cX6_append 18 = .ok (.aload_n 0, 1) := by decide +kernel
theorem dX6_append_19 : decode cX6_append 19 = .ok (.getfield 31, 3) := by decide +kernel
theorem dX6_append_22 : decode cX6_append 22 = .ok (.sipush 160, 3) := by decide +kernel
theorem dX6_append_25 : decode cX6_append 25 = .ok (.if_icmp .ne 9, 3) := by decide +kernel
theorem dX6_append_28 : decode cX6_append 28 = .ok (.aload_n 0, 1) := by decide +kernel
theorem dX6_append_29 : decode cX6_append 29 = .ok (.iconst 2, 1) := by decide +kernel
theorem dX6_append_30 : decode cX6_append 30 = .ok (.invokevirtual 83, 3) := by decide +kernel
theorem dX6_append_33 : decode cX6_append 33 = .ok (.ireturn, 1) := by decide +kernel
theorem dX6_append_34 : decode cX6_append 34 = .ok (.aload_n 0, 1) := by decide +kernel
theorem dX6_append_35 : decode cX6_append 35 = .ok (.getfield 19, 3) := by decide +kernel
theorem dX6_append_38 : decode cX6_append 38 = .ok (.aload_n 0, 1) := by decide +kernel
theorem dX6_append_39 : decode cX6_append 39 = .ok (.getfield 31, 3) := by decide +kernel
theorem dX6_append_42 : decode cX6_append 42 = .ok (.iload_n 1, 1) := by decide +kernel
theorem dX6_append_43 : decode cX6_append 43 = .ok (.iastore, 1) := by decide +kernel
theorem dX6_append_44 : decode cX6_append 44 = .ok (.aload_n 0, 1) := by decide +kernel
theorem dX6_append_45 : decode cX6_append 45 = .ok (.dup, 1) := by decide +kernel
theorem dX6_append_46 : decode cX6_append 46 = .ok (.getfield 31, 3) := by decide +kernel
theorem dX6_append_49 : decode cX6_append 49 = .ok (.iconst 1, 1) := by decide +kernel
theorem dX6_append_50 : decode cX6_append 50 = .ok (.iadd, 1) := by decide +kernel
theorem dX6_append_51 : decode cX6_append 51 = .ok (.putfield 31, 3) := by decide +kernel
theorem dX6_append_54 : decode cX6_append 54 = .ok (.aload_n 0, 1) := by decide +kernel
theorem dX6_append_55 : decode cX6_append 55 = .ok (.aload_n 0, 1) := by decide +kernel
theorem dX6_append_56 : decode cX6_append 56 = .ok (.getfield 31, 3) := by decide +kernel
theorem dX6_append_59 : decode cX6_append 59 = .ok (.invokevirtual 41, 3) := by decide +kernel
theorem dX6_append_62 : decode cX6_append 62 = .ok (.ireturn, 1) := by decide +kernel
theorem dX6_clearText_0 : decode cX6_clearText 0 = .ok (.aload_n 0, 1) := by decide +kernel
theorem dX6_clearText_1 : decode cX6_clearText 1 = .ok (.getfield 31, 3) := by decide +kernel
theorem dX6_clearText_4 : decode cX6_clearText 4 = .ok (.istore_n 1, 1) := by decide +kernel
theorem dX6_clearText_5 : decode cX6_clearText 5 = .ok (.aload_n 0, 1) := by decide +kernel
theorem dX6_clearText_6 : decode cX6_clearText 6 = .ok (.iconst 0, 1) := by decide +kernel
theorem dX6_clearText_7 : decode cX6_clearText 7 = .ok (.putfield 31, 3) := by decide +kernel
theorem dX6_clearText_10 : decode cX6_clearText 10 = .ok (.aload_n 0, 1) := by decide +kernel
theorem dX6_clearText_11 : decode cX6_clearText 11 = .ok (.iload_n 1, 1) := by decide +kernel
theorem dX6_clearText_12 : decode cX6_clearText 12 = .ok (.invokevirtual 41, 3) := by decide +kernel
theorem dX6_clearText_15 : decode cX6_clearText 15 = .ok (.ireturn, 1) := by decide +kernel
theorem dX6_here_0 : decode cX6_here 0 = .ok (.aload_n 0, 1) := by decide +kernel
theorem dX6_here_1 : decode cX6_here 1 = .ok (.getfield 250, 3) := by decide +kernel
theorem dX6_here_4 : decode cX6_here 4 = .ok (.aload_n 0, 1) := by decide +kernel
theorem dX6_here_5 : decode cX6_here 5 = .ok (.getfield 31, 3) := by decide +kernel
theorem dX6_here_8 : decode cX6_here 8 = .ok (.if_icmp .ge 15, 3) := by decide +kernel
theorem dX6_here_11 : decode cX6_here 11 = .ok (.aload_n 0, 1) := by decide +kernel
theorem dX6_here_12 : decode cX6_here 12 = .ok (.getfield 19, 3) := by decide +kernel
theorem dX6_here_15 : decode cX6_here 15 = .ok (.aload_n 0, 1) := by decide +kernel
theorem dX6_here_16 : decode cX6_here 16 = .ok (.getfield 250, 3) := by decide +kernel
theorem dX6_here_19 : decode cX6_here 19 = .ok (.iaload, 1) := by decide +kernel
theorem dX6_here_20 : decode cX6_here 20 = .ok (.goto 4, 3) := by decide +kernel
theorem dX6_here_23 : decode cX6_here 23 = .ok (.iconst (-1), 1) := by decide +kernel
theorem dX6_here_24 : decode cX6_here 24 = .ok (.ireturn, 1) := by decide +kernel
theorem dX6_fewest_0 : decode cX6_fewest 0 = .ok (.iload_n 0, 1) := by decide +kernel
theorem dX6_fewest_1 : decode cX6_fewest 1 = .ok (.bipush 103, 2) := by decide +kernel
theorem dX6_fewest_3 : decode cX6_fewest 3 = .ok (.if_icmp .ne 7, 3) := by decide +kernel
theorem dX6_fewest_6 : decode cX6_fewest 6 = .ok (.iconst 2, 1) := by decide +kernel
theorem dX6_fewest_7 : decode cX6_fewest 7 = .ok (.goto 20, 3) := by decide +kernel
theorem dX6_fewest_10 : decode cX6_fewest 10 = .ok (.iload_n 0, 1) := by decide +kernel
theorem dX6_fewest_11 : decode cX6_fewest 11 = .ok (.bipush 112, 2) := by decide +kernel
theorem dX6_fewest_13 : decode cX6_fewest 13 = .ok (.if_icmp .eq 9, 3) := by decide +kernel
theorem dX6_fewest_16 : decode cX6_fewest 16 = .ok (.iload_n 0, 1) := by decide +kernel
theorem dX6_fewest_17 : decode cX6_fewest 17 = .ok (.bipush 104, 2) := by decide +kernel
theorem dX6_fewest_19 : decode cX6_fewest 19 = .ok (.if_icmp .ne 7, 3) := by decide +kernel
theorem dX6_fewest_22 : decode cX6_fewest 22 = .ok (.iconst 3, 1) := by decide +kernel
theorem dX6_fewest_23 : decode cX6_fewest 23 = .ok (.goto 4, 3) := by decide +kernel
theorem dX6_fewest_26 : decode cX6_fewest 26 = .ok (.iconst 1, 1) := by decide +kernel
theorem dX6_fewest_27 : decode cX6_fewest 27 = .ok (.ireturn, 1) := by decide +kernel
theorem dX6_most_0 : decode cX6_most 0 = .ok (.iload_n 0, 1) := by decide +kernel
theorem dX6_most_1 : decode cX6_most 1 = .ok (.bipush 103, 2) := by decide +kernel
theorem dX6_most_3 : decode cX6_most 3 = .ok (.if_icmp .ne 7, 3) := by decide +kernel
theorem dX6_most_6 : decode cX6_most 6 = .ok (.iconst 2, 1) := by decide +kernel
theorem dX6_most_7 : decode cX6_most 7 = .ok (.goto 22, 3) := by decide +kernel
theorem dX6_most_10 : decode cX6_most 10 = .ok (.iload_n 0, 1) := by decide +kernel
theorem dX6_most_11 : decode cX6_most 11 = .ok (.bipush 112, 2) := by decide +kernel
theorem dX6_most_13 : decode cX6_most 13 = .ok (.if_icmp .eq 9, 3) := by decide +kernel
theorem dX6_most_16 : decode cX6_most 16 = .ok (.iload_n 0, 1) := by decide +kernel
theorem dX6_most_17 : decode cX6_most 17 = .ok (.bipush 104, 2) := by decide +kernel
theorem dX6_most_19 : decode cX6_most 19 = .ok (.if_icmp .ne 8, 3) := by decide +kernel
theorem dX6_most_22 : decode cX6_most 22 = .ok (.bipush 12, 2) := by decide +kernel
theorem dX6_most_24 : decode cX6_most 24 = .ok (.goto 5, 3) := by decide +kernel
theorem dX6_most_27 : decode cX6_most 27 = .ok (.bipush 80, 2) := by decide +kernel
theorem dX6_most_29 : decode cX6_most 29 = .ok (.ireturn, 1) := by decide +kernel
theorem dX6_isNumber_0 : decode cX6_isNumber 0 = .ok (.aload_n 0, 1) := by decide +kernel
theorem dX6_isNumber_1 : decode cX6_isNumber 1 = .ok (.invokevirtual 253, 3) := by decide +kernel
theorem dX6_isNumber_4 : decode cX6_isNumber 4 = .ok (.bipush 45, 2) := by decide +kernel
theorem dX6_isNumber_6 : decode cX6_isNumber 6 = .ok (.if_icmp .ne 7, 3) := by decide +kernel
theorem dX6_isNumber_9 : decode cX6_isNumber 9 = .ok (.iconst 1, 1) := by decide +kernel
theorem dX6_isNumber_10 : decode cX6_isNumber 10 = .ok (.goto 4, 3) := by decide +kernel
theorem dX6_isNumber_13 : decode cX6_isNumber 13 = .ok (.iconst 0, 1) := by decide +kernel
theorem dX6_isNumber_14 : decode cX6_isNumber 14 = .ok (.istore_n 1, 1) := by decide +kernel
theorem dX6_isNumber_15 : decode cX6_isNumber 15 = .ok (.aload_n 0, 1) := by decide +kernel
theorem dX6_isNumber_16 : decode cX6_isNumber 16 = .ok (.dup, 1) := by decide +kernel
theorem dX6_isNumber_17 : decode cX6_isNumber 17 = .ok (.getfield 250, 3) := by decide +kernel
theorem dX6_isNumber_20 : decode cX6_isNumber 20 = .ok (.iload_n 1, 1) := by decide +kernel
theorem dX6_isNumber_21 : decode cX6_isNumber 21 = .ok (.ifCond .eq 7, 3) := by decide +kernel
theorem dX6_isNumber_24 : decode cX6_isNumber 24 = .ok (.iconst 1, 1) := by decide +kernel
theorem dX6_isNumber_25 : decode cX6_isNumber 25 = .ok (.goto 4, 3) := by decide +kernel
theorem dX6_isNumber_28 : decode cX6_isNumber 28 = .ok (.iconst 0, 1) := by decide +kernel
theorem dX6_isNumber_29 : decode cX6_isNumber 29 = .ok (.iadd, 1) := by decide +kernel
theorem dX6_isNumber_30 : decode cX6_isNumber 30 = .ok (.putfield 250, 3) := by decide +kernel
theorem dX6_isNumber_33 : decode cX6_isNumber 33 = .ok (.iconst 0, 1) := by decide +kernel
theorem dX6_isNumber_34 : decode cX6_isNumber 34 = .ok (.istore_n 2, 1) := by decide +kernel
theorem dX6_isNumber_35 : decode cX6_isNumber 35 = .ok (.iconst 0, 1) := by decide +kernel
theorem dX6_isNumber_36 : decode cX6_isNumber 36 = .ok (.istore_n 3, 1) := by decide +kernel
theorem dX6_isNumber_37 : decode cX6_isNumber 37 = .ok (.iload_n 3, 1) := by decide +kernel
theorem dX6_isNumber_38 : decode cX6_isNumber 38 = .ok (.iconst 4, 1) := by decide +kernel
theorem dX6_isNumber_39 : decode cX6_isNumber 39 = .ok (.if_icmp .ge 49, 3) := by decide +kernel
theorem dX6_isNumber_42 : decode cX6_isNumber 42 = .ok (.aload_n 0, 1) := by decide +kernel
theorem dX6_isNumber_43 : decode cX6_isNumber 43 = .ok (.invokevirtual 253, 3) := by decide +kernel
theorem dX6_isNumber_46 : decode cX6_isNumber 46 = .ok (.i2l, 1) := by decide +kernel
theorem dX6_isNumber_47 : decode cX6_isNumber 47 = .ok (.ldc2_w 257, 3) := by decide +kernel
theorem dX6_isNumber_50 : decode cX6_isNumber 50 = .ok (.ldc2_w 259, 3) := by decide +kernel
theorem dX6_isNumber_53 : decode cX6_isNumber 53 = .ok (.invokestatic 51, 3) := by decide +kernel
theorem dX6_isNumber_56 : decode cX6_isNumber 56 = .ok (.ifCond .eq 32, 3) := by decide +kernel
theorem dX6_isNumber_59 : decode cX6_isNumber 59 = .ok (.bipush 10, 2) := by decide +kernel
theorem dX6_isNumber_61 : decode cX6_isNumber 61 = .ok (.iload_n 2, 1) := by decide +kernel
theorem dX6_isNumber_62 : decode cX6_isNumber 62 = .ok (.imul, 1) := by decide +kernel
theorem dX6_isNumber_63 : decode cX6_isNumber 63 = .ok (.aload_n 0, 1) := by decide +kernel
theorem dX6_isNumber_64 : decode cX6_isNumber 64 = .ok (.invokevirtual 253, 3) := by decide +kernel
theorem dX6_isNumber_67 : decode cX6_isNumber 67 = .ok (.iadd, 1) := by decide +kernel
theorem dX6_isNumber_68 : decode cX6_isNumber 68 = .ok (.bipush 48, 2) := by decide +kernel
theorem dX6_isNumber_70 : decode cX6_isNumber 70 = .ok (.isub, 1) := by decide +kernel
theorem dX6_isNumber_71 : decode cX6_isNumber 71 = .ok (.istore_n 2, 1) := by decide +kernel
theorem dX6_isNumber_72 : decode cX6_isNumber 72 = .ok (.iinc 3 1, 3) := by decide +kernel
theorem dX6_isNumber_75 : decode cX6_isNumber 75 = .ok (.aload_n 0, 1) := by decide +kernel
theorem dX6_isNumber_76 : decode cX6_isNumber 76 = .ok (.dup, 1) := by decide +kernel
theorem dX6_isNumber_77 : decode cX6_isNumber 77 = .ok (.getfield 250, 3) := by decide +kernel
theorem dX6_isNumber_80 : decode cX6_isNumber 80 = .ok (.iconst 1, 1) := by decide +kernel
theorem dX6_isNumber_81 : decode cX6_isNumber 81 = .ok (.iadd, 1) := by decide +kernel
theorem dX6_isNumber_82 : decode cX6_isNumber 82 = .ok (.putfield 250, 3) := by decide +kernel
theorem dX6_isNumber_85 : decode cX6_isNumber 85 = .ok (.goto (-48), 3) := by decide +kernel
theorem dX6_isNumber_88 : decode cX6_isNumber 88 = .ok (.aload_n 0, 1) := by decide +kernel
theorem dX6_isNumber_89 : decode cX6_isNumber 89 = .ok (.getfield 28, 3) := by decide +kernel
theorem dX6_isNumber_92 : decode cX6_isNumber 92 = .ok (.aload_n 0, 1) := by decide +kernel
theorem dX6_isNumber_93 : decode cX6_isNumber 93 = .ok (.getfield 261, 3) := by decide +kernel
theorem dX6_isNumber_96 : decode cX6_isNumber 96 = .ok (.iload_n 1, 1) := by decide +kernel
theorem dX6_isNumber_97 : decode cX6_isNumber 97 = .ok (.ifCond .eq 8, 3) := by decide +kernel
theorem dX6_isNumber_100 : decode cX6_isNumber 100 = .ok (.iload_n 2, 1) := by decide +kernel
theorem dX6_isNumber_101 : decode cX6_isNumber 101 = .ok (.ineg, 1) := by decide +kernel
theorem dX6_isNumber_102 : decode cX6_isNumber 102 = .ok (.goto 4, 3) := by decide +kernel
theorem dX6_isNumber_105 : decode cX6_isNumber 105 = .ok (.iload_n 2, 1) := by decide +kernel
theorem dX6_isNumber_106 : decode cX6_isNumber 106 = .ok (.iastore, 1) := by decide +kernel
theorem dX6_isNumber_107 : decode cX6_isNumber 107 = .ok (.aload_n 0, 1) := by decide +kernel
theorem dX6_isNumber_108 : decode cX6_isNumber 108 = .ok (.dup, 1) := by decide +kernel
theorem dX6_isNumber_109 : decode cX6_isNumber 109 = .ok (.getfield 261, 3) := by decide +kernel
theorem dX6_isNumber_112 : decode cX6_isNumber 112 = .ok (.iconst 1, 1) := by decide +kernel
theorem dX6_isNumber_113 : decode cX6_isNumber 113 = .ok (.iadd, 1) := by decide +kernel
theorem dX6_isNumber_114 : decode cX6_isNumber 114 = .ok (.putfield 261, 3) := by decide +kernel
theorem dX6_isNumber_117 : decode cX6_isNumber 117 = .ok (.iload_n 3, 1) := by decide +kernel
theorem dX6_isNumber_118 : decode cX6_isNumber 118 = .ok (.ifCond .le 7, 3) := by decide +kernel
theorem dX6_isNumber_121 : decode cX6_isNumber 121 = .ok (.iconst 1, 1) := by decide +kernel
theorem dX6_isNumber_122 : decode cX6_isNumber 122 = .ok (.goto 4, 3) := by decide +kernel
theorem dX6_isNumber_125 : decode cX6_isNumber 125 = .ok (.iconst 0, 1) := by decide +kernel
theorem dX6_isNumber_126 : decode cX6_isNumber 126 = .ok (.ireturn, 1) := by decide +kernel
theorem dX6_isCommand_0 : decode cX6_isCommand 0 = .ok (.aload_n 0, 1) := by decide +kernel
theorem dX6_isCommand_1 : decode cX6_isCommand 1 = .ok (.aload_n 0, 1) := by decide +kernel
theorem dX6_isCommand_2 : decode cX6_isCommand 2 = .ok (.invokevirtual 253, 3) := by decide +kernel
theorem dX6_isCommand_5 : decode cX6_isCommand 5 = .ok (.putfield 264, 3) := by decide +kernel
theorem dX6_isCommand_8 : decode cX6_isCommand 8 = .ok (.aload_n 0, 1) := by decide +kernel
theorem dX6_isCommand_9 : decode cX6_isCommand 9 = .ok (.getfield 264, 3) := by decide +kernel
theorem dX6_isCommand_12 : decode cX6_isCommand 12 = .ok (.bipush 103, 2) := by decide +kernel
theorem dX6_isCommand_14 : decode cX6_isCommand 14 = .ok (.if_icmp .eq 50, 3) := by decide +kernel
theorem dX6_isCommand_17 : decode cX6_isCommand 17 = .ok (.aload_n 0, 1) := by decide +kernel
theorem dX6_isCommand_18 : decode cX6_isCommand 18 = .ok (.getfield 264, 3) := by decide +kernel
theorem dX6_isCommand_21 : decode cX6_isCommand 21 = .ok (.bipush 108, 2) := by decide +kernel
theorem dX6_isCommand_23 : decode cX6_isCommand 23 = .ok (.if_icmp .eq 41, 3) := by decide +kernel
theorem dX6_isCommand_26 : decode cX6_isCommand 26 = .ok (.aload_n 0, 1) := by decide +kernel
theorem dX6_isCommand_27 : decode cX6_isCommand 27 = .ok (.getfield 264, 3) := by decide +kernel
theorem dX6_isCommand_30 : decode cX6_isCommand 30 = .ok (.bipush 114, 2) := by decide +kernel
theorem dX6_isCommand_32 : decode cX6_isCommand 32 = .ok (.if_icmp .eq 32, 3) := by decide +kernel
theorem dX6_isCommand_35 : decode cX6_isCommand 35 = .ok (.aload_n 0, 1) := by decide +kernel
theorem dX6_isCommand_36 : decode cX6_isCommand 36 = .ok (.getfield 264, 3) := by decide +kernel
theorem dX6_isCommand_39 : decode cX6_isCommand 39 = .ok (.bipush 102, 2) := by decide +kernel
theorem dX6_isCommand_41 : decode cX6_isCommand 41 = .ok (.if_icmp .eq 23, 3) := by decide +kernel
theorem dX6_isCommand_44 : decode cX6_isCommand 44 = .ok (.aload_n 0, 1) := by decide +kernel
theorem dX6_isCommand_45 : decode cX6_isCommand 45 = .ok (.getfield 264, 3) := by decide +kernel
theorem dX6_isCommand_48 : decode cX6_isCommand 48 = .ok (.bipush 112, 2) := by decide +kernel
theorem dX6_isCommand_50 : decode cX6_isCommand 50 = .ok (.if_icmp .eq 14, 3) := by decide +kernel
theorem dX6_isCommand_53 : decode cX6_isCommand 53 = .ok (.aload_n 0, 1) := by decide +kernel
theorem dX6_isCommand_54 : decode cX6_isCommand 54 = .ok (.getfield 264, 3) := by decide +kernel
theorem dX6_isCommand_57 : decode cX6_isCommand 57 = .ok (.bipush 104, 2) := by decide +kernel
theorem dX6_isCommand_59 : decode cX6_isCommand 59 = .ok (.if_icmp .eq 5, 3) := by decide +kernel
theorem dX6_isCommand_62 : decode cX6_isCommand 62 = .ok (.iconst 0, 1) := by decide +kernel
theorem dX6_isCommand_63 : decode cX6_isCommand 63 = .ok (.ireturn, 1) := by decide +kernel
theorem dX6_isCommand_64 : decode cX6_isCommand 64 = .ok (.aload_n 0, 1) := by decide +kernel
theorem dX6_isCommand_65 : decode cX6_isCommand 65 = .ok (.dup, 1) := by decide +kernel
theorem dX6_isCommand_66 : decode cX6_isCommand 66 = .ok (.getfield 250, 3) := by decide +kernel
theorem dX6_isCommand_69 : decode cX6_isCommand 69 = .ok (.iconst 1, 1) := by decide +kernel
theorem dX6_isCommand_70 : decode cX6_isCommand 70 = .ok (.iadd, 1) := by decide +kernel
theorem dX6_isCommand_71 : decode cX6_isCommand 71 = .ok (.putfield 250, 3) := by decide +kernel
theorem dX6_isCommand_74 : decode cX6_isCommand 74 = .ok (.aload_n 0, 1) := by decide +kernel
theorem dX6_isCommand_75 : decode cX6_isCommand 75 = .ok (.iconst 0, 1) := by decide +kernel
theorem dX6_isCommand_76 : decode cX6_isCommand 76 = .ok (.putfield 261, 3) := by decide +kernel
theorem dX6_isCommand_79 : decode cX6_isCommand 79 = .ok (.iconst 1, 1) := by decide +kernel
theorem dX6_isCommand_80 : decode cX6_isCommand 80 = .ok (.istore_n 1, 1) := by decide +kernel
theorem dX6_isCommand_81 : decode cX6_isCommand 81 = .ok (.iload_n 1, 1) := by decide +kernel
theorem dX6_isCommand_82 : decode cX6_isCommand 82 = .ok (.ifCond .eq 62, 3) := by decide +kernel
theorem dX6_isCommand_85 : decode cX6_isCommand 85 = .ok (.aload_n 0, 1) := by decide +kernel
theorem dX6_isCommand_86 : decode cX6_isCommand 86 = .ok (.invokevirtual 267, 3) := by decide +kernel
theorem dX6_isCommand_89 : decode cX6_isCommand 89 = .ok (.ifCond .ne 5, 3) := by decide +kernel
theorem dX6_isCommand_92 : decode cX6_isCommand 92 = .ok (.iconst 0, 1) := by decide +kernel
theorem dX6_isCommand_93 : decode cX6_isCommand 93 = .ok (.ireturn, 1) := by decide +kernel
theorem dX6_isCommand_94 : decode cX6_isCommand 94 = .ok (.aload_n 0, 1) := by decide +kernel
theorem dX6_isCommand_95 : decode cX6_isCommand 95 = .ok (.invokevirtual 253, 3) := by decide +kernel
theorem dX6_isCommand_98 : decode cX6_isCommand 98 = .ok (.bipush 44, 2) := by decide +kernel
theorem dX6_isCommand_100 : decode cX6_isCommand 100 = .ok (.if_icmp .ne 21, 3) := by decide +kernel
theorem dX6_isCommand_103 : decode cX6_isCommand 103 = .ok (.aload_n 0, 1) := by decide +kernel
theorem dX6_isCommand_104 : decode cX6_isCommand 104 = .ok (.getfield 261, 3) := by decide +kernel
theorem dX6_isCommand_107 : decode cX6_isCommand 107 = .ok (.aload_n 0, 1) := by decide +kernel
theorem dX6_isCommand_108 : decode cX6_isCommand 108 = .ok (.getfield 264, 3) := by decide +kernel
theorem dX6_isCommand_111 : decode cX6_isCommand 111 = .ok (.invokestatic 271, 3) := by decide +kernel
theorem dX6_isCommand_114 : decode cX6_isCommand 114 = .ok (.if_icmp .ge 7, 3) := by decide +kernel
theorem dX6_isCommand_117 : decode cX6_isCommand 117 = .ok (.iconst 1, 1) := by decide +kernel
theorem dX6_isCommand_118 : decode cX6_isCommand 118 = .ok (.goto 4, 3) := by decide +kernel
theorem dX6_isCommand_121 : decode cX6_isCommand 121 = .ok (.iconst 0, 1) := by decide +kernel
theorem dX6_isCommand_122 : decode cX6_isCommand 122 = .ok (.istore_n 1, 1) := by decide +kernel
theorem dX6_isCommand_123 : decode cX6_isCommand 123 = .ok (.aload_n 0, 1) := by decide +kernel
theorem dX6_isCommand_124 : decode cX6_isCommand 124 = .ok (.dup, 1) := by decide +kernel
theorem dX6_isCommand_125 : decode cX6_isCommand 125 = .ok (.getfield 250, 3) := by decide +kernel
theorem dX6_isCommand_128 : decode cX6_isCommand 128 = .ok (.iload_n 1, 1) := by decide +kernel
theorem dX6_isCommand_129 : decode cX6_isCommand 129 = .ok (.ifCond .eq 7, 3) := by decide +kernel
theorem dX6_isCommand_132 : decode cX6_isCommand 132 = .ok (.iconst 1, 1) := by decide +kernel
theorem dX6_isCommand_133 : decode cX6_isCommand 133 = .ok (.goto 4, 3) := by decide +kernel
theorem dX6_isCommand_136 : decode cX6_isCommand 136 = .ok (.iconst 0, 1) := by decide +kernel
theorem dX6_isCommand_137 : decode cX6_isCommand 137 = .ok (.iadd, 1) := by decide +kernel
theorem dX6_isCommand_138 : decode cX6_isCommand 138 = .ok (.putfield 250, 3) := by decide +kernel
theorem dX6_isCommand_141 : decode cX6_isCommand 141 = .ok (.goto (-60), 3) := by decide +kernel
theorem dX6_isCommand_144 : decode cX6_isCommand 144 = .ok (.aload_n 0, 1) := by decide +kernel
theorem dX6_isCommand_145 : decode cX6_isCommand 145 = .ok (.invokevirtual 253, 3) := by decide +kernel
theorem dX6_isCommand_148 : decode cX6_isCommand 148 = .ok (.bipush 59, 2) := by decide +kernel
theorem dX6_isCommand_150 : decode cX6_isCommand 150 = .ok (.if_icmp .ne 17, 3) := by decide +kernel
theorem dX6_isCommand_153 : decode cX6_isCommand 153 = .ok (.aload_n 0, 1) := by decide +kernel
theorem dX6_isCommand_154 : decode cX6_isCommand 154 = .ok (.getfield 261, 3) := by decide +kernel
theorem dX6_isCommand_157 : decode cX6_isCommand 157 = .ok (.aload_n 0, 1) := by decide +kernel
theorem dX6_isCommand_158 : decode cX6_isCommand 158 = .ok (.getfield 264, 3) := by decide +kernel
theorem dX6_isCommand_161 : decode cX6_isCommand 161 = .ok (.invokestatic 274, 3) := by decide +kernel
theorem dX6_isCommand_164 : decode cX6_isCommand 164 = .ok (.if_icmp .ge 5, 3) := by decide +kernel
theorem dX6_isCommand_167 : decode cX6_isCommand 167 = .ok (.iconst 0, 1) := by decide +kernel
theorem dX6_isCommand_168 : decode cX6_isCommand 168 = .ok (.ireturn, 1) := by decide +kernel
theorem dX6_isCommand_169 : decode cX6_isCommand 169 = .ok (.aload_n 0, 1) := by decide +kernel
theorem dX6_isCommand_170 : decode cX6_isCommand 170 = .ok (.dup, 1) := by decide +kernel
theorem dX6_isCommand_171 : decode cX6_isCommand 171 = .ok (.getfield 250, 3) := by decide +kernel
theorem dX6_isCommand_174 : decode cX6_isCommand 174 = .ok (.iconst 1, 1) := by decide +kernel
theorem dX6_isCommand_175 : decode cX6_isCommand 175 = .ok (.iadd, 1) := by decide +kernel
theorem dX6_isCommand_176 : decode cX6_isCommand 176 = .ok (.putfield 250, 3) := by decide +kernel
theorem dX6_isCommand_179 : decode cX6_isCommand 179 = .ok (.iconst 1, 1) := by decide +kernel
theorem dX6_isCommand_180 : decode cX6_isCommand 180 = .ok (.ireturn, 1) := by decide +kernel
theorem dX6_isDone_0 : decode cX6_isDone 0 = .ok (.aload_n 0, 1) := by decide +kernel
theorem dX6_isDone_1 : decode cX6_isDone 1 = .ok (.getfield 7, 3) := by decide +kernel
theorem dX6_isDone_4 : decode cX6_isDone 4 = .ok (.iconst 0, 1) := by decide +kernel
theorem dX6_isDone_5 : decode cX6_isDone 5 = .ok (.iaload, 1) := by decide +kernel
theorem dX6_isDone_6 : decode cX6_isDone 6 = .ok (.iconst 1, 1) := by decide +kernel
theorem dX6_isDone_7 : decode cX6_isDone 7 = .ok (.isub, 1) := by decide +kernel
theorem dX6_isDone_8 : decode cX6_isDone 8 = .ok (.istore_n 1, 1) := by decide +kernel
theorem dX6_isDone_9 : decode cX6_isDone 9 = .ok (.aload_n 0, 1) := by decide +kernel
theorem dX6_isDone_10 : decode cX6_isDone 10 = .ok (.getfield 264, 3) := by decide +kernel
theorem dX6_isDone_13 : decode cX6_isDone 13 = .ok (.bipush 103, 2) := by decide +kernel
theorem dX6_isDone_15 : decode cX6_isDone 15 = .ok (.if_icmp .ne 52, 3) := by decide +kernel
theorem dX6_isDone_18 : decode cX6_isDone 18 = .ok (.aload_n 0, 1) := by decide +kernel
theorem dX6_isDone_19 : decode cX6_isDone 19 = .ok (.getfield 28, 3) := by decide +kernel
theorem dX6_isDone_22 : decode cX6_isDone 22 = .ok (.iconst 0, 1) := by decide +kernel
theorem dX6_isDone_23 : decode cX6_isDone 23 = .ok (.iaload, 1) := by decide +kernel
theorem dX6_isDone_24 : decode cX6_isDone 24 = .ok (.aload_n 0, 1) := by decide +kernel
theorem dX6_isDone_25 : decode cX6_isDone 25 = .ok (.getfield 28, 3) := by decide +kernel
theorem dX6_isDone_28 : decode cX6_isDone 28 = .ok (.iconst 1, 1) := by decide +kernel
theorem dX6_isDone_29 : decode cX6_isDone 29 = .ok (.iaload, 1) := by decide +kernel
theorem dX6_isDone_30 : decode cX6_isDone 30 = .ok (.invokestatic 79, 3) := by decide +kernel
theorem dX6_isDone_33 : decode cX6_isDone 33 = .ok (.ifCond .eq 14, 3) := by decide +kernel
theorem dX6_isDone_36 : decode cX6_isDone 36 = .ok (.aload_n 0, 1) := by decide +kernel
theorem dX6_isDone_37 : decode cX6_isDone 37 = .ok (.getfield 7, 3) := by decide +kernel
theorem dX6_isDone_40 : decode cX6_isDone 40 = .ok (.iconst 0, 1) := by decide +kernel
theorem dX6_isDone_41 : decode cX6_isDone 41 = .ok (.iaload, 1) := by decide +kernel
theorem dX6_isDone_42 : decode cX6_isDone 42 = .ok (.bipush 6, 2) := by decide +kernel
theorem dX6_isDone_44 : decode cX6_isDone 44 = .ok (.if_icmp .ne 5, 3) := by decide +kernel
theorem dX6_isDone_47 : decode cX6_isDone 47 = .ok (.iconst 0, 1) := by decide +kernel
theorem dX6_isDone_48 : decode cX6_isDone 48 = .ok (.ireturn, 1) := by decide +kernel
theorem dX6_isDone_49 : decode cX6_isDone 49 = .ok (.aload_n 0, 1) := by decide +kernel
theorem dX6_isDone_50 : decode cX6_isDone 50 = .ok (.aload_n 0, 1) := by decide +kernel
theorem dX6_isDone_51 : decode cX6_isDone 51 = .ok (.getfield 28, 3) := by decide +kernel
theorem dX6_isDone_54 : decode cX6_isDone 54 = .ok (.iconst 0, 1) := by decide +kernel
theorem dX6_isDone_55 : decode cX6_isDone 55 = .ok (.iaload, 1) := by decide +kernel
theorem dX6_isDone_56 : decode cX6_isDone 56 = .ok (.aload_n 0, 1) := by decide +kernel
theorem dX6_isDone_57 : decode cX6_isDone 57 = .ok (.getfield 28, 3) := by decide +kernel
theorem dX6_isDone_60 : decode cX6_isDone 60 = .ok (.iconst 1, 1) := by decide +kernel
theorem dX6_isDone_61 : decode cX6_isDone 61 = .ok (.iaload, 1) := by decide +kernel
theorem dX6_isDone_62 : decode cX6_isDone 62 = .ok (.invokevirtual 89, 3) := by decide +kernel
theorem dX6_isDone_65 : decode cX6_isDone 65 = .ok (.iconst 1, 1) := by decide +kernel
theorem dX6_isDone_66 : decode cX6_isDone 66 = .ok (.ireturn, 1) := by decide +kernel
theorem dX6_isDone_67 : decode cX6_isDone 67 = .ok (.iload_n 1, 1) := by decide +kernel
theorem dX6_isDone_68 : decode cX6_isDone 68 = .ok (.ifCond .lt 7, 3) := by decide +kernel
theorem dX6_isDone_71 : decode cX6_isDone 71 = .ok (.iconst 1, 1) := by decide +kernel
theorem dX6_isDone_72 : decode cX6_isDone 72 = .ok (.goto 4, 3) := by decide +kernel
theorem dX6_isDone_75 : decode cX6_isDone 75 = .ok (.iconst 0, 1) := by decide +kernel
theorem dX6_isDone_76 : decode cX6_isDone 76 = .ok (.istore_n 2, 1) := by decide +kernel
theorem dX6_isDone_77 : decode cX6_isDone 77 = .ok (.iconst 0, 1) := by decide +kernel
theorem dX6_isDone_78 : decode cX6_isDone 78 = .ok (.istore_n 3, 1) := by decide +kernel
theorem dX6_isDone_79 : decode cX6_isDone 79 = .ok (.iload_n 3, 1) := by decide +kernel
theorem dX6_isDone_80 : decode cX6_isDone 80 = .ok (.aload_n 0, 1) := by decide +kernel
theorem dX6_isDone_81 : decode cX6_isDone 81 = .ok (.getfield 261, 3) := by decide +kernel
theorem dX6_isDone_84 : decode cX6_isDone 84 = .ok (.if_icmp .ge 31, 3) := by decide +kernel
theorem dX6_isDone_87 : decode cX6_isDone 87 = .ok (.iload_n 2, 1) := by decide +kernel
theorem dX6_isDone_88 : decode cX6_isDone 88 = .ok (.ifCond .eq 19, 3) := by decide +kernel
theorem dX6_isDone_91 : decode cX6_isDone 91 = .ok (.aload_n 0, 1) := by decide +kernel
theorem dX6_isDone_92 : decode cX6_isDone 92 = .ok (.getfield 28, 3) := by decide +kernel
theorem dX6_isDone_95 : decode cX6_isDone 95 = .ok (.iload_n 3, 1) := by decide +kernel
theorem dX6_isDone_96 : decode cX6_isDone 96 = .ok (.iaload, 1) := by decide +kernel
theorem dX6_isDone_97 : decode cX6_isDone 97 = .ok (.invokestatic 111, 3) := by decide +kernel
theorem dX6_isDone_100 : decode cX6_isDone 100 = .ok (.ifCond .eq 7, 3) := by decide +kernel
theorem dX6_isDone_103 : decode cX6_isDone 103 = .ok (.iconst 1, 1) := by decide +kernel
theorem dX6_isDone_104 : decode cX6_isDone 104 = .ok (.goto 4, 3) := by decide +kernel
theorem dX6_isDone_107 : decode cX6_isDone 107 = .ok (.iconst 0, 1) := by decide +kernel
theorem dX6_isDone_108 : decode cX6_isDone 108 = .ok (.istore_n 2, 1) := by decide +kernel
theorem dX6_isDone_109 : decode cX6_isDone 109 = .ok (.iinc 3 1, 3) := by decide +kernel
theorem dX6_isDone_112 : decode cX6_isDone 112 = .ok (.goto (-33), 3) := by decide +kernel
theorem dX6_isDone_115 : decode cX6_isDone 115 = .ok (.aload_n 0, 1) := by decide +kernel
theorem dX6_isDone_116 : decode cX6_isDone 116 = .ok (.getfield 264, 3) := by decide +kernel
theorem dX6_isDone_119 : decode cX6_isDone 119 = .ok (.bipush 112, 2) := by decide +kernel
theorem dX6_isDone_121 : decode cX6_isDone 121 = .ok (.if_icmp .eq 12, 3) := by decide +kernel
theorem dX6_isDone_124 : decode cX6_isDone 124 = .ok (.aload_n 0, 1) := by decide +kernel
theorem dX6_isDone_125 : decode cX6_isDone 125 = .ok (.getfield 264, 3) := by decide +kernel
theorem dX6_isDone_128 : decode cX6_isDone 128 = .ok (.bipush 104, 2) := by decide +kernel
theorem dX6_isDone_130 : decode cX6_isDone 130 = .ok (.if_icmp .ne 91, 3) := by decide +kernel
theorem dX6_isDone_133 : decode cX6_isDone 133 = .ok (.iload_n 2, 1) := by decide +kernel
theorem dX6_isDone_134 : decode cX6_isDone 134 = .ok (.ifCond .eq 20, 3) := by decide +kernel
theorem dX6_isDone_137 : decode cX6_isDone 137 = .ok (.aload_n 0, 1) := by decide +kernel
theorem dX6_isDone_138 : decode cX6_isDone 138 = .ok (.getfield 7, 3) := by decide +kernel
theorem dX6_isDone_141 : decode cX6_isDone 141 = .ok (.sipush 571, 3) := by decide +kernel
theorem dX6_isDone_144 : decode cX6_isDone 144 = .ok (.iaload, 1) := by decide +kernel
theorem dX6_isDone_145 : decode cX6_isDone 145 = .ok (.bipush 10, 2) := by decide +kernel
theorem dX6_isDone_147 : decode cX6_isDone 147 = .ok (.if_icmp .ge 7, 3) := by decide +kernel
theorem dX6_isDone_150 : decode cX6_isDone 150 = .ok (.iconst 1, 1) := by decide +kernel
theorem dX6_isDone_151 : decode cX6_isDone 151 = .ok (.goto 4, 3) := by decide +kernel
theorem dX6_isDone_154 : decode cX6_isDone 154 = .ok (.iconst 0, 1) := by decide +kernel
theorem dX6_isDone_155 : decode cX6_isDone 155 = .ok (.istore_n 2, 1) := by decide +kernel
theorem dX6_isDone_156 : decode cX6_isDone 156 = .ok (.iload_n 2, 1) := by decide +kernel
theorem dX6_isDone_157 : decode cX6_isDone 157 = .ok (.ifCond .eq 22, 3) := by decide +kernel
theorem dX6_isDone_160 : decode cX6_isDone 160 = .ok (.aload_n 0, 1) := by decide +kernel
theorem dX6_isDone_161 : decode cX6_isDone 161 = .ok (.iload_n 1, 1) := by decide +kernel
theorem dX6_isDone_162 : decode cX6_isDone 162 = .ok (.aload_n 0, 1) := by decide +kernel
theorem dX6_isDone_163 : decode cX6_isDone 163 = .ok (.getfield 264, 3) := by decide +kernel
theorem dX6_isDone_166 : decode cX6_isDone 166 = .ok (.bipush 112, 2) := by decide +kernel
theorem dX6_isDone_168 : decode cX6_isDone 168 = .ok (.if_icmp .ne 7, 3) := by decide +kernel
theorem dX6_isDone_171 : decode cX6_isDone 171 = .ok (.iconst 0, 1) := by decide +kernel
theorem dX6_isDone_172 : decode cX6_isDone 172 = .ok (.goto 4, 3) := by decide +kernel
theorem dX6_isDone_175 : decode cX6_isDone 175 = .ok (.iconst 1, 1) := by decide +kernel
theorem dX6_isDone_176 : decode cX6_isDone 176 = .ok (.invokevirtual 207, 3) := by decide +kernel
theorem dX6_isDone_179 : decode cX6_isDone 179 = .ok (.iconst 0, 1) := by decide +kernel
theorem dX6_isDone_180 : decode cX6_isDone 180 = .ok (.istore_n 3, 1) := by decide +kernel
theorem dX6_isDone_181 : decode cX6_isDone 181 = .ok (.iload_n 3, 1) := by decide +kernel
theorem dX6_isDone_182 : decode cX6_isDone 182 = .ok (.aload_n 0, 1) := by decide +kernel
theorem dX6_isDone_183 : decode cX6_isDone 183 = .ok (.getfield 261, 3) := by decide +kernel
theorem dX6_isDone_186 : decode cX6_isDone 186 = .ok (.if_icmp .ge 33, 3) := by decide +kernel
theorem dX6_isDone_189 : decode cX6_isDone 189 = .ok (.iload_n 2, 1) := by decide +kernel
theorem dX6_isDone_190 : decode cX6_isDone 190 = .ok (.ifCond .eq 29, 3) := by decide +kernel
theorem dX6_isDone_193 : decode cX6_isDone 193 = .ok (.aload_n 0, 1) := by decide +kernel
theorem dX6_isDone_194 : decode cX6_isDone 194 = .ok (.aload_n 0, 1) := by decide +kernel
theorem dX6_isDone_195 : decode cX6_isDone 195 = .ok (.getfield 7, 3) := by decide +kernel
theorem dX6_isDone_198 : decode cX6_isDone 198 = .ok (.sipush 571, 3) := by decide +kernel
theorem dX6_isDone_201 : decode cX6_isDone 201 = .ok (.iaload, 1) := by decide +kernel
theorem dX6_isDone_202 : decode cX6_isDone 202 = .ok (.iconst 1, 1) := by decide +kernel
theorem dX6_isDone_203 : decode cX6_isDone 203 = .ok (.isub, 1) := by decide +kernel
theorem dX6_isDone_204 : decode cX6_isDone 204 = .ok (.aload_n 0, 1) := by decide +kernel
theorem dX6_isDone_205 : decode cX6_isDone 205 = .ok (.getfield 28, 3) := by decide +kernel
theorem dX6_isDone_208 : decode cX6_isDone 208 = .ok (.iload_n 3, 1) := by decide +kernel
theorem dX6_isDone_209 : decode cX6_isDone 209 = .ok (.iaload, 1) := by decide +kernel
theorem dX6_isDone_210 : decode cX6_isDone 210 = .ok (.invokevirtual 213, 3) := by decide +kernel
theorem dX6_isDone_213 : decode cX6_isDone 213 = .ok (.iinc 3 1, 3) := by decide +kernel
theorem dX6_isDone_216 : decode cX6_isDone 216 = .ok (.goto (-35), 3) := by decide +kernel
theorem dX6_isDone_219 : decode cX6_isDone 219 = .ok (.iload_n 2, 1) := by decide +kernel
theorem dX6_isDone_220 : decode cX6_isDone 220 = .ok (.ireturn, 1) := by decide +kernel
theorem dX6_isDone_221 : decode cX6_isDone 221 = .ok (.aload_n 0, 1) := by decide +kernel
theorem dX6_isDone_222 : decode cX6_isDone 222 = .ok (.getfield 264, 3) := by decide +kernel
theorem dX6_isDone_225 : decode cX6_isDone 225 = .ok (.bipush 108, 2) := by decide +kernel
theorem dX6_isDone_227 : decode cX6_isDone 227 = .ok (.if_icmp .ne 7, 3) := by decide +kernel
theorem dX6_isDone_230 : decode cX6_isDone 230 = .ok (.iconst 0, 1) := by decide +kernel
theorem dX6_isDone_231 : decode cX6_isDone 231 = .ok (.goto 17, 3) := by decide +kernel
theorem dX6_isDone_234 : decode cX6_isDone 234 = .ok (.aload_n 0, 1) := by decide +kernel
theorem dX6_isDone_235 : decode cX6_isDone 235 = .ok (.getfield 264, 3) := by decide +kernel
theorem dX6_isDone_238 : decode cX6_isDone 238 = .ok (.bipush 114, 2) := by decide +kernel
theorem dX6_isDone_240 : decode cX6_isDone 240 = .ok (.if_icmp .ne 7, 3) := by decide +kernel
theorem dX6_isDone_243 : decode cX6_isDone 243 = .ok (.iconst 1, 1) := by decide +kernel
theorem dX6_isDone_244 : decode cX6_isDone 244 = .ok (.goto 4, 3) := by decide +kernel
theorem dX6_isDone_247 : decode cX6_isDone 247 = .ok (.iconst 2, 1) := by decide +kernel
theorem dX6_isDone_248 : decode cX6_isDone 248 = .ok (.istore_n 3, 1) := by decide +kernel
theorem dX6_isDone_249 : decode cX6_isDone 249 = .ok (.iload_n 2, 1) := by decide +kernel
theorem dX6_isDone_250 : decode cX6_isDone 250 = .ok (.ifCond .eq 20, 3) := by decide +kernel
theorem dX6_isDone_253 : decode cX6_isDone 253 = .ok (.aload_n 0, 1) := by decide +kernel
theorem dX6_isDone_254 : decode cX6_isDone 254 = .ok (.getfield 261, 3) := by decide +kernel
theorem dX6_isDone_257 : decode cX6_isDone 257 = .ok (.aload_n 0, 1) := by decide +kernel
theorem dX6_isDone_258 : decode cX6_isDone 258 = .ok (.iload_n 1, 1) := by decide +kernel
theorem dX6_isDone_259 : decode cX6_isDone 259 = .ok (.iload_n 3, 1) := by decide +kernel
theorem dX6_isDone_260 : decode cX6_isDone 260 = .ok (.invokevirtual 66, 3) := by decide +kernel
theorem dX6_isDone_263 : decode cX6_isDone 263 = .ok (.if_icmp .ne 7, 3) := by decide +kernel
theorem dX6_isDone_266 : decode cX6_isDone 266 = .ok (.iconst 1, 1) := by decide +kernel
theorem dX6_isDone_267 : decode cX6_isDone 267 = .ok (.goto 4, 3) := by decide +kernel
theorem dX6_isDone_270 : decode cX6_isDone 270 = .ok (.iconst 0, 1) := by decide +kernel
theorem dX6_isDone_271 : decode cX6_isDone 271 = .ok (.istore_n 2, 1) := by decide +kernel
theorem dX6_isDone_272 : decode cX6_isDone 272 = .ok (.iconst 0, 1) := by decide +kernel
theorem dX6_isDone_273 : decode cX6_isDone 273 = .ok (.istore 4, 2) := by decide +kernel
theorem dX6_isDone_275 : decode cX6_isDone 275 = .ok (.iload 4, 2) := by decide +kernel
theorem dX6_isDone_277 : decode cX6_isDone 277 = .ok (.aload_n 0, 1) := by decide +kernel
theorem dX6_isDone_278 : decode cX6_isDone 278 = .ok (.getfield 261, 3) := by decide +kernel
theorem dX6_isDone_281 : decode cX6_isDone 281 = .ok (.if_icmp .ge 32, 3) := by decide +kernel
theorem dX6_isDone_284 : decode cX6_isDone 284 = .ok (.iload_n 2, 1) := by decide +kernel
theorem dX6_isDone_285 : decode cX6_isDone 285 = .ok (.ifCond .eq 28, 3) := by decide +kernel
theorem dX6_isDone_288 : decode cX6_isDone 288 = .ok (.aload_n 0, 1) := by decide +kernel
theorem dX6_isDone_289 : decode cX6_isDone 289 = .ok (.getfield 7, 3) := by decide +kernel
theorem dX6_isDone_292 : decode cX6_isDone 292 = .ok (.iload_n 1, 1) := by decide +kernel
theorem dX6_isDone_293 : decode cX6_isDone 293 = .ok (.iload_n 3, 1) := by decide +kernel
theorem dX6_isDone_294 : decode cX6_isDone 294 = .ok (.iload 4, 2) := by decide +kernel
theorem dX6_isDone_296 : decode cX6_isDone 296 = .ok (.invokestatic 55, 3) := by decide +kernel
theorem dX6_isDone_299 : decode cX6_isDone 299 = .ok (.aload_n 0, 1) := by decide +kernel
theorem dX6_isDone_300 : decode cX6_isDone 300 = .ok (.getfield 28, 3) := by decide +kernel
theorem dX6_isDone_303 : decode cX6_isDone 303 = .ok (.iload 4, 2) := by decide +kernel
theorem dX6_isDone_305 : decode cX6_isDone 305 = .ok (.iaload, 1) := by decide +kernel
theorem dX6_isDone_306 : decode cX6_isDone 306 = .ok (.iastore, 1) := by decide +kernel
theorem dX6_isDone_307 : decode cX6_isDone 307 = .ok (.iinc 4 1, 3) := by decide +kernel
theorem dX6_isDone_310 : decode cX6_isDone 310 = .ok (.goto (-35), 3) := by decide +kernel
theorem dX6_isDone_313 : decode cX6_isDone 313 = .ok (.iload_n 2, 1) := by decide +kernel
theorem dX6_isDone_314 : decode cX6_isDone 314 = .ok (.ireturn, 1) := by decide +kernel
theorem dX6_parse_0 : decode cX6_parse 0 = .ok (.aload_n 0, 1) := by decide +kernel
theorem dX6_parse_1 : decode cX6_parse 1 = .ok (.iconst 0, 1) := by decide +kernel
theorem dX6_parse_2 : decode cX6_parse 2 = .ok (.putfield 35, 3) := by decide +kernel
theorem dX6_parse_5 : decode cX6_parse 5 = .ok (.aload_n 0, 1) := by decide +kernel
theorem dX6_parse_6 : decode cX6_parse 6 = .ok (.iconst 0, 1) := by decide +kernel
theorem dX6_parse_7 : decode cX6_parse 7 = .ok (.putfield 250, 3) := by decide +kernel
theorem dX6_parse_10 : decode cX6_parse 10 = .ok (.aload_n 0, 1) := by decide +kernel
theorem dX6_parse_11 : decode cX6_parse 11 = .ok (.getfield 250, 3) := by decide +kernel
theorem dX6_parse_14 : decode cX6_parse 14 = .ok (.aload_n 0, 1) := by decide +kernel
theorem dX6_parse_15 : decode cX6_parse 15 = .ok (.getfield 31, 3) := by decide +kernel
theorem dX6_parse_18 : decode cX6_parse 18 = .ok (.if_icmp .ge 18, 3) := by decide +kernel
theorem dX6_parse_21 : decode cX6_parse 21 = .ok (.aload_n 0, 1) := by decide +kernel
theorem dX6_parse_22 : decode cX6_parse 22 = .ok (.invokevirtual 277, 3) := by decide +kernel
theorem dX6_parse_25 : decode cX6_parse 25 = .ok (.ifCond .ne (-15), 3) := by decide +kernel
theorem dX6_parse_28 : decode cX6_parse 28 = .ok (.bipush (-10), 2) := by decide +kernel
theorem dX6_parse_30 : decode cX6_parse 30 = .ok (.aload_n 0, 1) := by decide +kernel
theorem dX6_parse_31 : decode cX6_parse 31 = .ok (.getfield 250, 3) := by decide +kernel
theorem dX6_parse_34 : decode cX6_parse 34 = .ok (.isub, 1) := by decide +kernel
theorem dX6_parse_35 : decode cX6_parse 35 = .ok (.ireturn, 1) := by decide +kernel
theorem dX6_parse_36 : decode cX6_parse 36 = .ok (.aload_n 0, 1) := by decide +kernel
theorem dX6_parse_37 : decode cX6_parse 37 = .ok (.invokevirtual 86, 3) := by decide +kernel
theorem dX6_parse_40 : decode cX6_parse 40 = .ok (.aload_n 0, 1) := by decide +kernel
theorem dX6_parse_41 : decode cX6_parse 41 = .ok (.iconst 0, 1) := by decide +kernel
theorem dX6_parse_42 : decode cX6_parse 42 = .ok (.putfield 250, 3) := by decide +kernel
theorem dX6_parse_45 : decode cX6_parse 45 = .ok (.iconst 0, 1) := by decide +kernel
theorem dX6_parse_46 : decode cX6_parse 46 = .ok (.istore_n 1, 1) := by decide +kernel
theorem dX6_parse_47 : decode cX6_parse 47 = .ok (.aload_n 0, 1) := by decide +kernel
theorem dX6_parse_48 : decode cX6_parse 48 = .ok (.getfield 250, 3) := by decide +kernel
theorem dX6_parse_51 : decode cX6_parse 51 = .ok (.aload_n 0, 1) := by decide +kernel
theorem dX6_parse_52 : decode cX6_parse 52 = .ok (.getfield 31, 3) := by decide +kernel
theorem dX6_parse_55 : decode cX6_parse 55 = .ok (.if_icmp .ge 31, 3) := by decide +kernel
theorem dX6_parse_58 : decode cX6_parse 58 = .ok (.aload_n 0, 1) := by decide +kernel
theorem dX6_parse_59 : decode cX6_parse 59 = .ok (.invokevirtual 277, 3) := by decide +kernel
theorem dX6_parse_62 : decode cX6_parse 62 = .ok (.istore_n 2, 1) := by decide +kernel
theorem dX6_parse_63 : decode cX6_parse 63 = .ok (.aload_n 0, 1) := by decide +kernel
theorem dX6_parse_64 : decode cX6_parse 64 = .ok (.invokevirtual 280, 3) := by decide +kernel
theorem dX6_parse_67 : decode cX6_parse 67 = .ok (.ifCond .ne 13, 3) := by decide +kernel
theorem dX6_parse_70 : decode cX6_parse 70 = .ok (.aload_n 0, 1) := by decide +kernel
theorem dX6_parse_71 : decode cX6_parse 71 = .ok (.invokevirtual 130, 3) := by decide +kernel
theorem dX6_parse_74 : decode cX6_parse 74 = .ok (.sipush (-1000), 3) := by decide +kernel
theorem dX6_parse_77 : decode cX6_parse 77 = .ok (.iload_n 1, 1) := by decide +kernel
theorem dX6_parse_78 : decode cX6_parse 78 = .ok (.isub, 1) := by decide +kernel
theorem dX6_parse_79 : decode cX6_parse 79 = .ok (.ireturn, 1) := by decide +kernel
theorem dX6_parse_80 : decode cX6_parse 80 = .ok (.iinc 1 1, 3) := by decide +kernel
theorem dX6_parse_83 : decode cX6_parse 83 = .ok (.goto (-36), 3) := by decide +kernel
theorem dX6_parse_86 : decode cX6_parse 86 = .ok (.aload_n 0, 1) := by decide +kernel
theorem dX6_parse_87 : decode cX6_parse 87 = .ok (.iload_n 1, 1) := by decide +kernel
theorem dX6_parse_88 : decode cX6_parse 88 = .ok (.invokevirtual 93, 3) := by decide +kernel
theorem dX6_parse_91 : decode cX6_parse 91 = .ok (.ireturn, 1) := by decide +kernel
theorem dX6_undo_0 : decode cX6_undo 0 = .ok (.aload_n 0, 1) := by decide +kernel
theorem dX6_undo_1 : decode cX6_undo 1 = .ok (.getfield 38, 3) := by decide +kernel
theorem dX6_undo_4 : decode cX6_undo 4 = .ok (.ifCond .ne 9, 3) := by decide +kernel
theorem dX6_undo_7 : decode cX6_undo 7 = .ok (.aload_n 0, 1) := by decide +kernel
theorem dX6_undo_8 : decode cX6_undo 8 = .ok (.iconst 1, 1) := by decide +kernel
theorem dX6_undo_9 : decode cX6_undo 9 = .ok (.invokevirtual 83, 3) := by decide +kernel
theorem dX6_undo_12 : decode cX6_undo 12 = .ok (.ireturn, 1) := by decide +kernel
theorem dX6_undo_13 : decode cX6_undo 13 = .ok (.aload_n 0, 1) := by decide +kernel
theorem dX6_undo_14 : decode cX6_undo 14 = .ok (.dup, 1) := by decide +kernel
theorem dX6_undo_15 : decode cX6_undo 15 = .ok (.getfield 38, 3) := by decide +kernel
theorem dX6_undo_18 : decode cX6_undo 18 = .ok (.iconst 1, 1) := by decide +kernel
theorem dX6_undo_19 : decode cX6_undo 19 = .ok (.isub, 1) := by decide +kernel
theorem dX6_undo_20 : decode cX6_undo 20 = .ok (.putfield 38, 3) := by decide +kernel
theorem dX6_undo_23 : decode cX6_undo 23 = .ok (.iconst 0, 1) := by decide +kernel
theorem dX6_undo_24 : decode cX6_undo 24 = .ok (.istore_n 1, 1) := by decide +kernel
theorem dX6_undo_25 : decode cX6_undo 25 = .ok (.iload_n 1, 1) := by decide +kernel
theorem dX6_undo_26 : decode cX6_undo 26 = .ok (.sipush 722, 3) := by decide +kernel
theorem dX6_undo_29 : decode cX6_undo 29 = .ok (.if_icmp .ge 30, 3) := by decide +kernel
theorem dX6_undo_32 : decode cX6_undo 32 = .ok (.aload_n 0, 1) := by decide +kernel
theorem dX6_undo_33 : decode cX6_undo 33 = .ok (.getfield 7, 3) := by decide +kernel
theorem dX6_undo_36 : decode cX6_undo 36 = .ok (.iload_n 1, 1) := by decide +kernel
theorem dX6_undo_37 : decode cX6_undo 37 = .ok (.aload_n 0, 1) := by decide +kernel
theorem dX6_undo_38 : decode cX6_undo 38 = .ok (.getfield 13, 3) := by decide +kernel
theorem dX6_undo_41 : decode cX6_undo 41 = .ok (.sipush 722, 3) := by decide +kernel
theorem dX6_undo_44 : decode cX6_undo 44 = .ok (.aload_n 0, 1) := by decide +kernel
theorem dX6_undo_45 : decode cX6_undo 45 = .ok (.getfield 38, 3) := by decide +kernel
theorem dX6_undo_48 : decode cX6_undo 48 = .ok (.imul, 1) := by decide +kernel
theorem dX6_undo_49 : decode cX6_undo 49 = .ok (.iload_n 1, 1) := by decide +kernel
theorem dX6_undo_50 : decode cX6_undo 50 = .ok (.iadd, 1) := by decide +kernel
theorem dX6_undo_51 : decode cX6_undo 51 = .ok (.iaload, 1) := by decide +kernel
theorem dX6_undo_52 : decode cX6_undo 52 = .ok (.iastore, 1) := by decide +kernel
theorem dX6_undo_53 : decode cX6_undo 53 = .ok (.iinc 1 1, 3) := by decide +kernel
theorem dX6_undo_56 : decode cX6_undo 56 = .ok (.goto (-31), 3) := by decide +kernel
theorem dX6_undo_59 : decode cX6_undo 59 = .ok (.aload_n 0, 1) := by decide +kernel
theorem dX6_undo_60 : decode cX6_undo 60 = .ok (.aload_n 0, 1) := by decide +kernel
theorem dX6_undo_61 : decode cX6_undo 61 = .ok (.getfield 38, 3) := by decide +kernel
theorem dX6_undo_64 : decode cX6_undo 64 = .ok (.invokevirtual 41, 3) := by decide +kernel
theorem dX6_undo_67 : decode cX6_undo 67 = .ok (.ireturn, 1) := by decide +kernel
theorem dX6_mix_0 : decode cX6_mix 0 = .ok (.aload_n 0, 1) := by decide +kernel
theorem dX6_mix_1 : decode cX6_mix 1 = .ok (.ldc2_w 283, 3) := by decide +kernel
theorem dX6_mix_4 : decode cX6_mix 4 = .ok (.aload_n 0, 1) := by decide +kernel
theorem dX6_mix_5 : decode cX6_mix 5 = .ok (.getfield 285, 3) := by decide +kernel
theorem dX6_mix_8 : decode cX6_mix 8 = .ok (.lmul, 1) := by decide +kernel
theorem dX6_mix_9 : decode cX6_mix 9 = .ok (.lload_n 1, 1) := by decide +kernel
theorem dX6_mix_10 : decode cX6_mix 10 = .ok (.ladd, 1) := by decide +kernel
theorem dX6_mix_11 : decode cX6_mix 11 = .ok (.putfield 285, 3) := by decide +kernel
theorem dX6_mix_14 : decode cX6_mix 14 = .ok (.return_, 1) := by decide +kernel
theorem dX6_mixGear_0 : decode cX6_mixGear 0 = .ok (.iconst 0, 1) := by decide +kernel
theorem dX6_mixGear_1 : decode cX6_mixGear 1 = .ok (.istore_n 2, 1) := by decide +kernel
theorem dX6_mixGear_2 : decode cX6_mixGear 2 = .ok (.iload_n 2, 1) := by decide +kernel
theorem dX6_mixGear_3 : decode cX6_mixGear 3 = .ok (.bipush 6, 2) := by decide +kernel
theorem dX6_mixGear_5 : decode cX6_mixGear 5 = .ok (.if_icmp .ge 20, 3) := by decide +kernel
theorem dX6_mixGear_8 : decode cX6_mixGear 8 = .ok (.aload_n 0, 1) := by decide +kernel
theorem dX6_mixGear_9 : decode cX6_mixGear 9 = .ok (.aload_n 0, 1) := by decide +kernel
theorem dX6_mixGear_10 : decode cX6_mixGear 10 = .ok (.iload_n 1, 1) := by decide +kernel
theorem dX6_mixGear_11 : decode cX6_mixGear 11 = .ok (.iload_n 2, 1) := by decide +kernel
theorem dX6_mixGear_12 : decode cX6_mixGear 12 = .ok (.invokevirtual 142, 3) := by decide +kernel
theorem dX6_mixGear_15 : decode cX6_mixGear 15 = .ok (.i2l, 1) := by decide +kernel
theorem dX6_mixGear_16 : decode cX6_mixGear 16 = .ok (.invokevirtual 288, 3) := by decide +kernel
theorem dX6_mixGear_19 : decode cX6_mixGear 19 = .ok (.iinc 2 1, 3) := by decide +kernel
theorem dX6_mixGear_22 : decode cX6_mixGear 22 = .ok (.goto (-20), 3) := by decide +kernel
theorem dX6_mixGear_25 : decode cX6_mixGear 25 = .ok (.iconst 0, 1) := by decide +kernel
theorem dX6_mixGear_26 : decode cX6_mixGear 26 = .ok (.istore_n 2, 1) := by decide +kernel
theorem dX6_mixGear_27 : decode cX6_mixGear 27 = .ok (.iload_n 2, 1) := by decide +kernel
theorem dX6_mixGear_28 : decode cX6_mixGear 28 = .ok (.iconst 3, 1) := by decide +kernel
theorem dX6_mixGear_29 : decode cX6_mixGear 29 = .ok (.if_icmp .ge 39, 3) := by decide +kernel
theorem dX6_mixGear_32 : decode cX6_mixGear 32 = .ok (.iconst 0, 1) := by decide +kernel
theorem dX6_mixGear_33 : decode cX6_mixGear 33 = .ok (.istore_n 3, 1) := by decide +kernel
theorem dX6_mixGear_34 : decode cX6_mixGear 34 = .ok (.iload_n 3, 1) := by decide +kernel
theorem dX6_mixGear_35 : decode cX6_mixGear 35 = .ok (.aload_n 0, 1) := by decide +kernel
theorem dX6_mixGear_36 : decode cX6_mixGear 36 = .ok (.iload_n 1, 1) := by decide +kernel
theorem dX6_mixGear_37 : decode cX6_mixGear 37 = .ok (.iload_n 2, 1) := by decide +kernel
theorem dX6_mixGear_38 : decode cX6_mixGear 38 = .ok (.invokevirtual 66, 3) := by decide +kernel
theorem dX6_mixGear_41 : decode cX6_mixGear 41 = .ok (.if_icmp .ge 21, 3) := by decide +kernel
theorem dX6_mixGear_44 : decode cX6_mixGear 44 = .ok (.aload_n 0, 1) := by decide +kernel
theorem dX6_mixGear_45 : decode cX6_mixGear 45 = .ok (.aload_n 0, 1) := by decide +kernel
theorem dX6_mixGear_46 : decode cX6_mixGear 46 = .ok (.iload_n 1, 1) := by decide +kernel
theorem dX6_mixGear_47 : decode cX6_mixGear 47 = .ok (.iload_n 2, 1) := by decide +kernel
theorem dX6_mixGear_48 : decode cX6_mixGear 48 = .ok (.iload_n 3, 1) := by decide +kernel
theorem dX6_mixGear_49 : decode cX6_mixGear 49 = .ok (.invokevirtual 70, 3) := by decide +kernel
theorem dX6_mixGear_52 : decode cX6_mixGear 52 = .ok (.i2l, 1) := by decide +kernel
theorem dX6_mixGear_53 : decode cX6_mixGear 53 = .ok (.invokevirtual 288, 3) := by decide +kernel
theorem dX6_mixGear_56 : decode cX6_mixGear 56 = .ok (.iinc 3 1, 3) := by decide +kernel
theorem dX6_mixGear_59 : decode cX6_mixGear 59 = .ok (.goto (-25), 3) := by decide +kernel
theorem dX6_mixGear_62 : decode cX6_mixGear 62 = .ok (.iinc 2 1, 3) := by decide +kernel
theorem dX6_mixGear_65 : decode cX6_mixGear 65 = .ok (.goto (-38), 3) := by decide +kernel
theorem dX6_mixGear_68 : decode cX6_mixGear 68 = .ok (.iconst 0, 1) := by decide +kernel
theorem dX6_mixGear_69 : decode cX6_mixGear 69 = .ok (.istore_n 2, 1) := by decide +kernel
theorem dX6_mixGear_70 : decode cX6_mixGear 70 = .ok (.iload_n 2, 1) := by decide +kernel
theorem dX6_mixGear_71 : decode cX6_mixGear 71 = .ok (.bipush 9, 2) := by decide +kernel
theorem dX6_mixGear_73 : decode cX6_mixGear 73 = .ok (.if_icmp .ge 20, 3) := by decide +kernel
theorem dX6_mixGear_76 : decode cX6_mixGear 76 = .ok (.aload_n 0, 1) := by decide +kernel
theorem dX6_mixGear_77 : decode cX6_mixGear 77 = .ok (.aload_n 0, 1) := by decide +kernel
theorem dX6_mixGear_78 : decode cX6_mixGear 78 = .ok (.iload_n 1, 1) := by decide +kernel
theorem dX6_mixGear_79 : decode cX6_mixGear 79 = .ok (.iload_n 2, 1) := by decide +kernel
theorem dX6_mixGear_80 : decode cX6_mixGear 80 = .ok (.invokevirtual 188, 3) := by decide +kernel
theorem dX6_mixGear_83 : decode cX6_mixGear 83 = .ok (.i2l, 1) := by decide +kernel
theorem dX6_mixGear_84 : decode cX6_mixGear 84 = .ok (.invokevirtual 288, 3) := by decide +kernel
theorem dX6_mixGear_87 : decode cX6_mixGear 87 = .ok (.iinc 2 1, 3) := by decide +kernel
theorem dX6_mixGear_90 : decode cX6_mixGear 90 = .ok (.goto (-20), 3) := by decide +kernel
theorem dX6_mixGear_93 : decode cX6_mixGear 93 = .ok (.return_, 1) := by decide +kernel
theorem dX6_digest_0 : decode cX6_digest 0 = .ok (.aload_n 0, 1) := by decide +kernel
theorem dX6_digest_1 : decode cX6_digest 1 = .ok (.iconst 0, 1) := by decide +kernel
theorem dX6_digest_2 : decode cX6_digest 2 = .ok (.putfield 35, 3) := by decide +kernel
theorem dX6_digest_5 : decode cX6_digest 5 = .ok (.aload_n 0, 1) := by decide +kernel
theorem dX6_digest_6 : decode cX6_digest 6 = .ok (.ldc2_w 292, 3) := by decide +kernel
theorem dX6_digest_9 : decode cX6_digest 9 = .ok (.putfield 285, 3) := by decide +kernel
theorem dX6_digest_12 : decode cX6_digest 12 = .ok (.aload_n 0, 1) := by decide +kernel
theorem dX6_digest_13 : decode cX6_digest 13 = .ok (.aload_n 0, 1) := by decide +kernel
theorem dX6_digest_14 : decode cX6_digest 14 = .ok (.getfield 31, 3) := by decide +kernel
theorem dX6_digest_17 : decode cX6_digest 17 = .ok (.i2l, 1) := by decide +kernel
theorem dX6_digest_18 : decode cX6_digest 18 = .ok (.invokevirtual 288, 3) := by decide +kernel
theorem dX6_digest_21 : decode cX6_digest 21 = .ok (.aload_n 0, 1) := by decide +kernel
theorem dX6_digest_22 : decode cX6_digest 22 = .ok (.aload_n 0, 1) := by decide +kernel
theorem dX6_digest_23 : decode cX6_digest 23 = .ok (.getfield 7, 3) := by decide +kernel
theorem dX6_digest_26 : decode cX6_digest 26 = .ok (.iconst 0, 1) := by decide +kernel
theorem dX6_digest_27 : decode cX6_digest 27 = .ok (.iaload, 1) := by decide +kernel
theorem dX6_digest_28 : decode cX6_digest 28 = .ok (.i2l, 1) := by decide +kernel
theorem dX6_digest_29 : decode cX6_digest 29 = .ok (.invokevirtual 288, 3) := by decide +kernel
theorem dX6_digest_32 : decode cX6_digest 32 = .ok (.iconst 0, 1) := by decide +kernel
theorem dX6_digest_33 : decode cX6_digest 33 = .ok (.istore_n 1, 1) := by decide +kernel
theorem dX6_digest_34 : decode cX6_digest 34 = .ok (.iload_n 1, 1) := by decide +kernel
theorem dX6_digest_35 : decode cX6_digest 35 = .ok (.aload_n 0, 1) := by decide +kernel
theorem dX6_digest_36 : decode cX6_digest 36 = .ok (.getfield 7, 3) := by decide +kernel
theorem dX6_digest_39 : decode cX6_digest 39 = .ok (.iconst 0, 1) := by decide +kernel
theorem dX6_digest_40 : decode cX6_digest 40 = .ok (.iaload, 1) := by decide +kernel
theorem dX6_digest_41 : decode cX6_digest 41 = .ok (.if_icmp .ge 14, 3) := by decide +kernel
theorem dX6_digest_44 : decode cX6_digest 44 = .ok (.aload_n 0, 1) := by decide +kernel
theorem dX6_digest_45 : decode cX6_digest 45 = .ok (.iload_n 1, 1) := by decide +kernel
theorem dX6_digest_46 : decode cX6_digest 46 = .ok (.invokevirtual 294, 3) := by decide +kernel
theorem dX6_digest_49 : decode cX6_digest 49 = .ok (.iinc 1 1, 3) := by decide +kernel
theorem dX6_digest_52 : decode cX6_digest 52 = .ok (.goto (-18), 3) := by decide +kernel
theorem dX6_digest_55 : decode cX6_digest 55 = .ok (.aload_n 0, 1) := by decide +kernel
theorem dX6_digest_56 : decode cX6_digest 56 = .ok (.aload_n 0, 1) := by decide +kernel
theorem dX6_digest_57 : decode cX6_digest 57 = .ok (.getfield 7, 3) := by decide +kernel
theorem dX6_digest_60 : decode cX6_digest 60 = .ok (.sipush 571, 3) := by decide +kernel
theorem dX6_digest_63 : decode cX6_digest 63 = .ok (.iaload, 1) := by decide +kernel
theorem dX6_digest_64 : decode cX6_digest 64 = .ok (.i2l, 1) := by decide +kernel
theorem dX6_digest_65 : decode cX6_digest 65 = .ok (.invokevirtual 288, 3) := by decide +kernel
theorem dX6_digest_68 : decode cX6_digest 68 = .ok (.iconst 0, 1) := by decide +kernel
theorem dX6_digest_69 : decode cX6_digest 69 = .ok (.istore_n 1, 1) := by decide +kernel
theorem dX6_digest_70 : decode cX6_digest 70 = .ok (.iload_n 1, 1) := by decide +kernel
theorem dX6_digest_71 : decode cX6_digest 71 = .ok (.aload_n 0, 1) := by decide +kernel
theorem dX6_digest_72 : decode cX6_digest 72 = .ok (.getfield 7, 3) := by decide +kernel
theorem dX6_digest_75 : decode cX6_digest 75 = .ok (.sipush 571, 3) := by decide +kernel
theorem dX6_digest_78 : decode cX6_digest 78 = .ok (.iaload, 1) := by decide +kernel
theorem dX6_digest_79 : decode cX6_digest 79 = .ok (.if_icmp .ge 74, 3) := by decide +kernel
theorem dX6_digest_82 : decode cX6_digest 82 = .ok (.iconst 0, 1) := by decide +kernel
theorem dX6_digest_83 : decode cX6_digest 83 = .ok (.istore_n 2, 1) := by decide +kernel
theorem dX6_digest_84 : decode cX6_digest 84 = .ok (.iload_n 2, 1) := by decide +kernel
theorem dX6_digest_85 : decode cX6_digest 85 = .ok (.iconst 3, 1) := by decide +kernel
theorem dX6_digest_86 : decode cX6_digest 86 = .ok (.aload_n 0, 1) := by decide +kernel
theorem dX6_digest_87 : decode cX6_digest 87 = .ok (.iload_n 1, 1) := by decide +kernel
theorem dX6_digest_88 : decode cX6_digest 88 = .ok (.iconst 2, 1) := by decide +kernel
theorem dX6_digest_89 : decode cX6_digest 89 = .ok (.invokevirtual 96, 3) := by decide +kernel
theorem dX6_digest_92 : decode cX6_digest 92 = .ok (.iadd, 1) := by decide +kernel
theorem dX6_digest_93 : decode cX6_digest 93 = .ok (.if_icmp .ge 20, 3) := by decide +kernel
theorem dX6_digest_96 : decode cX6_digest 96 = .ok (.aload_n 0, 1) := by decide +kernel
theorem dX6_digest_97 : decode cX6_digest 97 = .ok (.aload_n 0, 1) := by decide +kernel
theorem dX6_digest_98 : decode cX6_digest 98 = .ok (.iload_n 1, 1) := by decide +kernel
theorem dX6_digest_99 : decode cX6_digest 99 = .ok (.iload_n 2, 1) := by decide +kernel
theorem dX6_digest_100 : decode cX6_digest 100 = .ok (.invokevirtual 96, 3) := by decide +kernel
theorem dX6_digest_103 : decode cX6_digest 103 = .ok (.i2l, 1) := by decide +kernel
theorem dX6_digest_104 : decode cX6_digest 104 = .ok (.invokevirtual 288, 3) := by decide +kernel
theorem dX6_digest_107 : decode cX6_digest 107 = .ok (.iinc 2 1, 3) := by decide +kernel
theorem dX6_digest_110 : decode cX6_digest 110 = .ok (.goto (-26), 3) := by decide +kernel
theorem dX6_digest_113 : decode cX6_digest 113 = .ok (.iconst 0, 1) := by decide +kernel
theorem dX6_digest_114 : decode cX6_digest 114 = .ok (.istore_n 2, 1) := by decide +kernel
theorem dX6_digest_115 : decode cX6_digest 115 = .ok (.iload_n 2, 1) := by decide +kernel
theorem dX6_digest_116 : decode cX6_digest 116 = .ok (.iconst 3, 1) := by decide +kernel
theorem dX6_digest_117 : decode cX6_digest 117 = .ok (.if_icmp .ge 30, 3) := by decide +kernel
theorem dX6_digest_120 : decode cX6_digest 120 = .ok (.aload_n 0, 1) := by decide +kernel
theorem dX6_digest_121 : decode cX6_digest 121 = .ok (.iload_n 1, 1) := by decide +kernel
theorem dX6_digest_122 : decode cX6_digest 122 = .ok (.iconst 2, 1) := by decide +kernel
theorem dX6_digest_123 : decode cX6_digest 123 = .ok (.invokevirtual 96, 3) := by decide +kernel
theorem dX6_digest_126 : decode cX6_digest 126 = .ok (.iconst 2, 1) := by decide +kernel
theorem dX6_digest_127 : decode cX6_digest 127 = .ok (.if_icmp .le 20, 3) := by decide +kernel
theorem dX6_digest_130 : decode cX6_digest 130 = .ok (.aload_n 0, 1) := by decide +kernel
theorem dX6_digest_131 : decode cX6_digest 131 = .ok (.aload_n 0, 1) := by decide +kernel
theorem dX6_digest_132 : decode cX6_digest 132 = .ok (.iload_n 1, 1) := by decide +kernel
theorem dX6_digest_133 : decode cX6_digest 133 = .ok (.iload_n 2, 1) := by decide +kernel
theorem dX6_digest_134 : decode cX6_digest 134 = .ok (.invokevirtual 168, 3) := by decide +kernel
theorem dX6_digest_137 : decode cX6_digest 137 = .ok (.i2l, 1) := by decide +kernel
theorem dX6_digest_138 : decode cX6_digest 138 = .ok (.invokevirtual 288, 3) := by decide +kernel
theorem dX6_digest_141 : decode cX6_digest 141 = .ok (.iinc 2 1, 3) := by decide +kernel
theorem dX6_digest_144 : decode cX6_digest 144 = .ok (.goto (-29), 3) := by decide +kernel
theorem dX6_digest_147 : decode cX6_digest 147 = .ok (.iinc 1 1, 3) := by decide +kernel
theorem dX6_digest_150 : decode cX6_digest 150 = .ok (.goto (-80), 3) := by decide +kernel
theorem dX6_digest_153 : decode cX6_digest 153 = .ok (.aload_n 0, 1) := by decide +kernel
theorem dX6_digest_154 : decode cX6_digest 154 = .ok (.aload_n 0, 1) := by decide +kernel
theorem dX6_digest_155 : decode cX6_digest 155 = .ok (.getfield 38, 3) := by decide +kernel
theorem dX6_digest_158 : decode cX6_digest 158 = .ok (.i2l, 1) := by decide +kernel
theorem dX6_digest_159 : decode cX6_digest 159 = .ok (.invokevirtual 288, 3) := by decide +kernel
theorem dX6_digest_162 : decode cX6_digest 162 = .ok (.aload_n 0, 1) := by decide +kernel
theorem dX6_digest_163 : decode cX6_digest 163 = .ok (.getfield 285, 3) := by decide +kernel
theorem dX6_digest_166 : decode cX6_digest 166 = .ok (.lreturn, 1) := by decide +kernel
