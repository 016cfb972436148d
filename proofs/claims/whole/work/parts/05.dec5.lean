theorem dX5_init_0 : decode cX5_init 0 = .ok (.aload_n 0, 1) := by decide +kernel
theorem dX5_init_1 : decode cX5_init 1 = .ok (.invokespecial 1, 3) := by decide +kernel
theorem dX5_init_4 : decode cX5_init 4 = .ok (.aload_n 0, 1) := by decide +kernel
theorem dX5_init_5 : decode cX5_init 5 = .ok (.new 7, 3) := by decide +kernel
theorem dX5_init_8 : decode cX5_init 8 = .ok (.dup, 1) := by decide +kernel
theorem dX5_init_9 : decode cX5_init 9 = .ok (.invokespecial 9, 3) := by decide +kernel
theorem dX5_init_12 : decode cX5_init 12 = .ok (.putfield 10, 3) := by decide +kernel
theorem dX5_init_15 : decode cX5_init 15 = .ok (.aload_n 0, 1) := by decide +kernel
theorem dX5_init_16 : decode cX5_init 16 = .ok (.new 7, 3) := by decide +kernel
theorem dX5_init_19 : decode cX5_init 19 = .ok (.dup, 1) := by decide +kernel
theorem dX5_init_20 : decode cX5_init 20 = .ok (.invokespecial 9, 3) := by decide +kernel
theorem dX5_init_23 : decode cX5_init 23 = .ok (.putfield 16, 3) := by decide +kernel
theorem dX5_init_26 : decode cX5_init 26 = .ok (.aload_n 0, 1) := by decide +kernel
theorem dX5_init_27 : decode cX5_init 27 = .ok (.iconst 4, 1) := by decide +kernel
theorem dX5_init_28 : decode cX5_init 28 = .ok (.anewarray 7, 3) := by decide +kernel
theorem dX5_init_31 : decode cX5_init 31 = .ok (.putfield 19, 3) := by decide +kernel
theorem dX5_init_34 : decode cX5_init 34 = .ok (.iconst 0, 1) := by decide +kernel
theorem dX5_init_35 : decode cX5_init 35 = .ok (.istore_n 1, 1) := by decide +kernel
theorem dX5_init_36 : decode cX5_init 36 = .ok (.iload_n 1, 1) := by decide +kernel
theorem dX5_init_37 : decode cX5_init 37 = .ok (.iconst 4, 1) := by decide +kernel
theorem dX5_init_38 : decode cX5_init 38 = .ok (.if_icmp .ge 22, 3) := by decide +kernel
theorem dX5_init_41 : decode cX5_init 41 = .ok (.aload_n 0, 1) := by decide +kernel
theorem dX5_init_42 : decode cX5_init 42 = .ok (.getfield 19, 3) := by decide +kernel
theorem dX5_init_45 : decode cX5_init 45 = .ok (.iload_n 1, 1) := by decide +kernel
theorem dX5_init_46 : decode cX5_init 46 = .ok (.new 7, 3) := by decide +kernel
theorem dX5_init_49 : decode cX5_init 49 = .ok (.dup, 1) := by decide +kernel
theorem dX5_init_50 : decode cX5_init 50 = .ok (.invokespecial 9, 3) := by decide +kernel
theorem dX5_init_53 : decode cX5_init 53 = .ok (.aastore, 1) := by decide +kernel
theorem dX5_init_54 : decode cX5_init 54 = .ok (.iinc 1 1, 3) := by decide +kernel
theorem dX5_init_57 : decode cX5_init 57 = .ok (.goto (-21), 3) := by decide +kernel
theorem dX5_init_60 : decode cX5_init 60 = .ok (.aload_n 0, 1) := by decide +kernel
theorem dX5_init_61 : decode cX5_init 61 = .ok (.new 23, 3) := by decide +kernel
theorem dX5_init_64 : decode cX5_init 64 = .ok (.dup, 1) := by decide +kernel
theorem dX5_init_65 : decode cX5_init 65 = .ok (.invokespecial 25, 3) := by decide +kernel
theorem dX5_init_68 : decode cX5_init 68 = .ok (.putfield 26, 3) := by decide +kernel
theorem dX5_init_71 : decode cX5_init 71 = .ok (.aload_n 0, 1) := by decide +kernel
theorem dX5_init_72 : decode cX5_init 72 = .ok (.new 30, 3) := by decide +kernel
theorem dX5_init_75 : decode cX5_init 75 = .ok (.dup, 1) := by decide +kernel
theorem dX5_init_76 : decode cX5_init 76 = .ok (.invokespecial 32, 3) := by decide +kernel
theorem dX5_init_79 : decode cX5_init 79 = .ok (.putfield 33, 3) := by decide +kernel
theorem dX5_init_82 : decode cX5_init 82 = .ok (.aload_n 0, 1) := by decide +kernel
theorem dX5_init_83 : decode cX5_init 83 = .ok (.new 37, 3) := by decide +kernel
theorem dX5_init_86 : decode cX5_init 86 = .ok (.dup, 1) := by decide +kernel
theorem dX5_init_87 : decode cX5_init 87 = .ok (.invokespecial 39, 3) := by decide +kernel
theorem dX5_init_90 : decode cX5_init 90 = .ok (.putfield 40, 3) := by decide +kernel
theorem dX5_init_93 : decode cX5_init 93 = .ok (.aload_n 0, 1) := by decide +kernel
theorem dX5_init_94 : decode cX5_init 94 = .ok (.bipush 6, 2) := by decide +kernel
theorem dX5_init_96 : decode cX5_init 96 = .ok (.newarray .int, 2) := by decide +kernel
theorem dX5_init_98 : decode cX5_init 98 = .ok (.putfield 44, 3) := by decide +kernel
theorem dX5_init_101 : decode cX5_init 101 = .ok (.aload_n 0, 1) := by decide +kernel
theorem dX5_init_102 : decode cX5_init 102 = .ok (.bipush 6, 2) := by decide +kernel
theorem dX5_init_104 : decode cX5_init 104 = .ok (.newarray .int, 2) := by decide +kernel
theorem dX5_init_106 : decode cX5_init 106 = .ok (.putfield 48, 3) := by decide +kernel
theorem dX5_init_109 : decode cX5_init 109 = .ok (.return_, 1) := by decide +kernel
theorem dX5_addGear_0 : decode cX5_addGear 0 = .ok (.iload_n 1, 1) := by decide +kernel
theorem dX5_addGear_1 : decode cX5_addGear 1 = .ok (.iload_n 2, 1) := by decide +kernel
theorem dX5_addGear_2 : decode cX5_addGear 2 = .ok (.invokestatic 51, 3) := by decide +kernel
theorem dX5_addGear_5 : decode cX5_addGear 5 = .ok (.ifCond .ne 13, 3) := by decide +kernel
theorem dX5_addGear_8 : decode cX5_addGear 8 = .ok (.new 55, 3) := by decide +kernel
theorem dX5_addGear_11 : decode cX5_addGear 11 = .ok (.dup, 1) := by decide +kernel
theorem dX5_addGear_12 : decode cX5_addGear 12 = .ok (.ldc 57, 2) := by decide +kernel
theorem dX5_addGear_14 : decode cX5_addGear 14 = .ok (.invokespecial 59, 3) := by decide +kernel
theorem dX5_addGear_17 : decode cX5_addGear 17 = .ok (.athrow, 1) := by decide +kernel
theorem dX5_addGear_18 : decode cX5_addGear 18 = .ok (.aload_n 0, 1) := by decide +kernel
theorem dX5_addGear_19 : decode cX5_addGear 19 = .ok (.getfield 10, 3) := by decide +kernel
theorem dX5_addGear_22 : decode cX5_addGear 22 = .ok (.getfield 62, 3) := by decide +kernel
theorem dX5_addGear_25 : decode cX5_addGear 25 = .ok (.bipush 6, 2) := by decide +kernel
theorem dX5_addGear_27 : decode cX5_addGear 27 = .ok (.if_icmp .lt 13, 3) := by decide +kernel
theorem dX5_addGear_30 : decode cX5_addGear 30 = .ok (.new 66, 3) := by decide +kernel
theorem dX5_addGear_33 : decode cX5_addGear 33 = .ok (.dup, 1) := by decide +kernel
theorem dX5_addGear_34 : decode cX5_addGear 34 = .ok (.ldc 68, 2) := by decide +kernel
theorem dX5_addGear_36 : decode cX5_addGear 36 = .ok (.invokespecial 70, 3) := by decide +kernel
theorem dX5_addGear_39 : decode cX5_addGear 39 = .ok (.athrow, 1) := by decide +kernel
theorem dX5_addGear_40 : decode cX5_addGear 40 = .ok (.aload_n 0, 1) := by decide +kernel
theorem dX5_addGear_41 : decode cX5_addGear 41 = .ok (.invokevirtual 71, 3) := by decide +kernel
theorem dX5_addGear_44 : decode cX5_addGear 44 = .ok (.aload_n 0, 1) := by decide +kernel
theorem dX5_addGear_45 : decode cX5_addGear 45 = .ok (.getfield 10, 3) := by decide +kernel
theorem dX5_addGear_48 : decode cX5_addGear 48 = .ok (.iload_n 1, 1) := by decide +kernel
theorem dX5_addGear_49 : decode cX5_addGear 49 = .ok (.iload_n 2, 1) := by decide +kernel
theorem dX5_addGear_50 : decode cX5_addGear 50 = .ok (.invokevirtual 74, 3) := by decide +kernel
theorem dX5_addGear_53 : decode cX5_addGear 53 = .ok (.ireturn, 1) := by decide +kernel
theorem dX5_removeGear_0 : decode cX5_removeGear 0 = .ok (.aload_n 0, 1) := by decide +kernel
theorem dX5_removeGear_1 : decode cX5_removeGear 1 = .ok (.iload_n 1, 1) := by decide +kernel
theorem dX5_removeGear_2 : decode cX5_removeGear 2 = .ok (.invokevirtual 78, 3) := by decide +kernel
theorem dX5_removeGear_5 : decode cX5_removeGear 5 = .ok (.pop, 1) := by decide +kernel
theorem dX5_removeGear_6 : decode cX5_removeGear 6 = .ok (.aload_n 0, 1) := by decide +kernel
theorem dX5_removeGear_7 : decode cX5_removeGear 7 = .ok (.invokevirtual 71, 3) := by decide +kernel
theorem dX5_removeGear_10 : decode cX5_removeGear 10 = .ok (.aload_n 0, 1) := by decide +kernel
theorem dX5_removeGear_11 : decode cX5_removeGear 11 = .ok (.getfield 10, 3) := by decide +kernel
theorem dX5_removeGear_14 : decode cX5_removeGear 14 = .ok (.iload_n 1, 1) := by decide +kernel
theorem dX5_removeGear_15 : decode cX5_removeGear 15 = .ok (.invokevirtual 82, 3) := by decide +kernel
theorem dX5_removeGear_18 : decode cX5_removeGear 18 = .ok (.ireturn, 1) := by decide +kernel
theorem dX5_setReading_0 : decode cX5_setReading 0 = .ok (.aload_n 0, 1) := by decide +kernel
theorem dX5_setReading_1 : decode cX5_setReading 1 = .ok (.iload_n 1, 1) := by decide +kernel
theorem dX5_setReading_2 : decode cX5_setReading 2 = .ok (.invokevirtual 78, 3) := by decide +kernel
theorem dX5_setReading_5 : decode cX5_setReading 5 = .ok (.astore 5, 2) := by decide +kernel
theorem dX5_setReading_7 : decode cX5_setReading 7 = .ok (.aload 5, 2) := by decide +kernel
theorem dX5_setReading_9 : decode cX5_setReading 9 = .ok (.iload_n 2, 1) := by decide +kernel
theorem dX5_setReading_10 : decode cX5_setReading 10 = .ok (.iload_n 3, 1) := by decide +kernel
theorem dX5_setReading_11 : decode cX5_setReading 11 = .ok (.invokestatic 86, 3) := by decide +kernel
theorem dX5_setReading_14 : decode cX5_setReading 14 = .ok (.iload 4, 2) := by decide +kernel
theorem dX5_setReading_16 : decode cX5_setReading 16 = .ok (.invokestatic 90, 3) := by decide +kernel
theorem dX5_setReading_19 : decode cX5_setReading 19 = .ok (.ifCond .ne 13, 3) := by decide +kernel
theorem dX5_setReading_22 : decode cX5_setReading 22 = .ok (.new 55, 3) := by decide +kernel
theorem dX5_setReading_25 : decode cX5_setReading 25 = .ok (.dup, 1) := by decide +kernel
theorem dX5_setReading_26 : decode cX5_setReading 26 = .ok (.ldc 94, 2) := by decide +kernel
theorem dX5_setReading_28 : decode cX5_setReading 28 = .ok (.invokespecial 59, 3) := by decide +kernel
theorem dX5_setReading_31 : decode cX5_setReading 31 = .ok (.athrow, 1) := by decide +kernel
theorem dX5_setReading_32 : decode cX5_setReading 32 = .ok (.aload_n 0, 1) := by decide +kernel
theorem dX5_setReading_33 : decode cX5_setReading 33 = .ok (.invokevirtual 71, 3) := by decide +kernel
theorem dX5_setReading_36 : decode cX5_setReading 36 = .ok (.aload 5, 2) := by decide +kernel
theorem dX5_setReading_38 : decode cX5_setReading 38 = .ok (.getfield 96, 3) := by decide +kernel
theorem dX5_setReading_41 : decode cX5_setReading 41 = .ok (.iload_n 2, 1) := by decide +kernel
theorem dX5_setReading_42 : decode cX5_setReading 42 = .ok (.aaload, 1) := by decide +kernel
theorem dX5_setReading_43 : decode cX5_setReading 43 = .ok (.iload_n 3, 1) := by decide +kernel
theorem dX5_setReading_44 : decode cX5_setReading 44 = .ok (.iaload, 1) := by decide +kernel
theorem dX5_setReading_45 : decode cX5_setReading 45 = .ok (.istore 6, 2) := by decide +kernel
theorem dX5_setReading_47 : decode cX5_setReading 47 = .ok (.aload 5, 2) := by decide +kernel
theorem dX5_setReading_49 : decode cX5_setReading 49 = .ok (.getfield 96, 3) := by decide +kernel
theorem dX5_setReading_52 : decode cX5_setReading 52 = .ok (.iload_n 2, 1) := by decide +kernel
theorem dX5_setReading_53 : decode cX5_setReading 53 = .ok (.aaload, 1) := by decide +kernel
theorem dX5_setReading_54 : decode cX5_setReading 54 = .ok (.iload_n 3, 1) := by decide +kernel
theorem dX5_setReading_55 : decode cX5_setReading 55 = .ok (.iload 4, 2) := by decide +kernel
theorem dX5_setReading_57 : decode cX5_setReading 57 = .ok (.iastore, 1) := by decide +kernel
theorem dX5_setReading_58 : decode cX5_setReading 58 = .ok (.iload 6, 2) := by decide +kernel
theorem dX5_setReading_60 : decode cX5_setReading 60 = .ok (.ireturn, 1) := by decide +kernel
theorem dX5_fill_0 : decode cX5_fill 0 = .ok (.aload_n 0, 1) := by decide +kernel
theorem dX5_fill_1 : decode cX5_fill 1 = .ok (.iload_n 1, 1) := by decide +kernel
theorem dX5_fill_2 : decode cX5_fill 2 = .ok (.invokevirtual 78, 3) := by decide +kernel
theorem dX5_fill_5 : decode cX5_fill 5 = .ok (.astore 4, 2) := by decide +kernel
theorem dX5_fill_7 : decode cX5_fill 7 = .ok (.iload_n 2, 1) := by decide +kernel
theorem dX5_fill_8 : decode cX5_fill 8 = .ok (.ifCond .lt 20, 3) := by decide +kernel
theorem dX5_fill_11 : decode cX5_fill 11 = .ok (.iload_n 2, 1) := by decide +kernel
theorem dX5_fill_12 : decode cX5_fill 12 = .ok (.ldc 100, 2) := by decide +kernel
theorem dX5_fill_14 : decode cX5_fill 14 = .ok (.if_icmp .gt 14, 3) := by decide +kernel
theorem dX5_fill_17 : decode cX5_fill 17 = .ok (.iload_n 3, 1) := by decide +kernel
theorem dX5_fill_18 : decode cX5_fill 18 = .ok (.ifCond .lt 10, 3) := by decide +kernel
theorem dX5_fill_21 : decode cX5_fill 21 = .ok (.iload_n 3, 1) := by decide +kernel
theorem dX5_fill_22 : decode cX5_fill 22 = .ok (.sipush 5000, 3) := by decide +kernel
theorem dX5_fill_25 : decode cX5_fill 25 = .ok (.if_icmp .le 13, 3) := by decide +kernel
theorem dX5_fill_28 : decode cX5_fill 28 = .ok (.new 55, 3) := by decide +kernel
theorem dX5_fill_31 : decode cX5_fill 31 = .ok (.dup, 1) := by decide +kernel
theorem dX5_fill_32 : decode cX5_fill 32 = .ok (.ldc 101, 2) := by decide +kernel
theorem dX5_fill_34 : decode cX5_fill 34 = .ok (.invokespecial 59, 3) := by decide +kernel
theorem dX5_fill_37 : decode cX5_fill 37 = .ok (.athrow, 1) := by decide +kernel
theorem dX5_fill_38 : decode cX5_fill 38 = .ok (.aload_n 0, 1) := by decide +kernel
theorem dX5_fill_39 : decode cX5_fill 39 = .ok (.invokevirtual 71, 3) := by decide +kernel
theorem dX5_fill_42 : decode cX5_fill 42 = .ok (.aload 4, 2) := by decide +kernel
theorem dX5_fill_44 : decode cX5_fill 44 = .ok (.iload_n 2, 1) := by decide +kernel
theorem dX5_fill_45 : decode cX5_fill 45 = .ok (.iload_n 3, 1) := by decide +kernel
theorem dX5_fill_46 : decode cX5_fill 46 = .ok (.invokevirtual 103, 3) := by decide +kernel
theorem dX5_fill_49 : decode cX5_fill 49 = .ok (.aload 4, 2) := by decide +kernel
theorem dX5_fill_51 : decode cX5_fill 51 = .ok (.iconst 0, 1) := by decide +kernel
theorem dX5_fill_52 : decode cX5_fill 52 = .ok (.invokevirtual 107, 3) := by decide +kernel
theorem dX5_fill_55 : decode cX5_fill 55 = .ok (.ireturn, 1) := by decide +kernel
theorem dX5_turn_0 : decode cX5_turn 0 = .ok (.aload_n 0, 1) := by decide +kernel
theorem dX5_turn_1 : decode cX5_turn 1 = .ok (.iload_n 1, 1) := by decide +kernel
theorem dX5_turn_2 : decode cX5_turn 2 = .ok (.invokevirtual 78, 3) := by decide +kernel
theorem dX5_turn_5 : decode cX5_turn 5 = .ok (.astore_n 3, 1) := by decide +kernel
theorem dX5_turn_6 : decode cX5_turn 6 = .ok (.iload_n 2, 1) := by decide +kernel
theorem dX5_turn_7 : decode cX5_turn 7 = .ok (.ifCond .lt 11, 3) := by decide +kernel
theorem dX5_turn_10 : decode cX5_turn 10 = .ok (.iload_n 2, 1) := by decide +kernel
theorem dX5_turn_11 : decode cX5_turn 11 = .ok (.aload_n 3, 1) := by decide +kernel
theorem dX5_turn_12 : decode cX5_turn 12 = .ok (.getfield 110, 3) := by decide +kernel
theorem dX5_turn_15 : decode cX5_turn 15 = .ok (.if_icmp .lt 13, 3) := by decide +kernel
theorem dX5_turn_18 : decode cX5_turn 18 = .ok (.new 113, 3) := by decide +kernel
theorem dX5_turn_21 : decode cX5_turn 21 = .ok (.dup, 1) := by decide +kernel
theorem dX5_turn_22 : decode cX5_turn 22 = .ok (.ldc 115, 2) := by decide +kernel
theorem dX5_turn_24 : decode cX5_turn 24 = .ok (.invokespecial 117, 3) := by decide +kernel
theorem dX5_turn_27 : decode cX5_turn 27 = .ok (.athrow, 1) := by decide +kernel
theorem dX5_turn_28 : decode cX5_turn 28 = .ok (.aload_n 0, 1) := by decide +kernel
theorem dX5_turn_29 : decode cX5_turn 29 = .ok (.getfield 40, 3) := by decide +kernel
theorem dX5_turn_32 : decode cX5_turn 32 = .ok (.aload_n 3, 1) := by decide +kernel
theorem dX5_turn_33 : decode cX5_turn 33 = .ok (.iload_n 2, 1) := by decide +kernel
theorem dX5_turn_34 : decode cX5_turn 34 = .ok (.invokevirtual 118, 3) := by decide +kernel
theorem dX5_turn_37 : decode cX5_turn 37 = .ok (.aload_n 0, 1) := by decide +kernel
theorem dX5_turn_38 : decode cX5_turn 38 = .ok (.getfield 40, 3) := by decide +kernel
theorem dX5_turn_41 : decode cX5_turn 41 = .ok (.invokevirtual 122, 3) := by decide +kernel
theorem dX5_turn_44 : decode cX5_turn 44 = .ok (.ifCond .ne 13, 3) := by decide +kernel
theorem dX5_turn_47 : decode cX5_turn 47 = .ok (.new 66, 3) := by decide +kernel
theorem dX5_turn_50 : decode cX5_turn 50 = .ok (.dup, 1) := by decide +kernel
theorem dX5_turn_51 : decode cX5_turn 51 = .ok (.ldc 126, 2) := by decide +kernel
theorem dX5_turn_53 : decode cX5_turn 53 = .ok (.invokespecial 70, 3) := by decide +kernel
theorem dX5_turn_56 : decode cX5_turn 56 = .ok (.athrow, 1) := by decide +kernel
theorem dX5_turn_57 : decode cX5_turn 57 = .ok (.aload_n 0, 1) := by decide +kernel
theorem dX5_turn_58 : decode cX5_turn 58 = .ok (.invokevirtual 71, 3) := by decide +kernel
theorem dX5_turn_61 : decode cX5_turn 61 = .ok (.aload_n 3, 1) := by decide +kernel
theorem dX5_turn_62 : decode cX5_turn 62 = .ok (.aload_n 0, 1) := by decide +kernel
theorem dX5_turn_63 : decode cX5_turn 63 = .ok (.getfield 40, 3) := by decide +kernel
theorem dX5_turn_66 : decode cX5_turn 66 = .ok (.invokevirtual 128, 3) := by decide +kernel
theorem dX5_turn_69 : decode cX5_turn 69 = .ok (.aload_n 3, 1) := by decide +kernel
theorem dX5_turn_70 : decode cX5_turn 70 = .ok (.getfield 96, 3) := by decide +kernel
theorem dX5_turn_73 : decode cX5_turn 73 = .ok (.iconst 0, 1) := by decide +kernel
theorem dX5_turn_74 : decode cX5_turn 74 = .ok (.aaload, 1) := by decide +kernel
theorem dX5_turn_75 : decode cX5_turn 75 = .ok (.iconst 0, 1) := by decide +kernel
theorem dX5_turn_76 : decode cX5_turn 76 = .ok (.iaload, 1) := by decide +kernel
theorem dX5_turn_77 : decode cX5_turn 77 = .ok (.ireturn, 1) := by decide +kernel
theorem dX5_gears_0 : decode cX5_gears 0 = .ok (.aload_n 0, 1) := by decide +kernel
theorem dX5_gears_1 : decode cX5_gears 1 = .ok (.getfield 10, 3) := by decide +kernel
theorem dX5_gears_4 : decode cX5_gears 4 = .ok (.getfield 62, 3) := by decide +kernel
theorem dX5_gears_7 : decode cX5_gears 7 = .ok (.ireturn, 1) := by decide +kernel
theorem dX5_gear_0 : decode cX5_gear 0 = .ok (.aload_n 0, 1) := by decide +kernel
theorem dX5_gear_1 : decode cX5_gear 1 = .ok (.iload_n 1, 1) := by decide +kernel
theorem dX5_gear_2 : decode cX5_gear 2 = .ok (.invokevirtual 78, 3) := by decide +kernel
theorem dX5_gear_5 : decode cX5_gear 5 = .ok (.astore_n 3, 1) := by decide +kernel
theorem dX5_gear_6 : decode cX5_gear 6 = .ok (.iload_n 2, 1) := by decide +kernel
theorem dX5_gear_7 : decode cX5_gear 7 = .ok (.tableswitch 74 0 5 #[37, 42, 47, 56, 62, 68], 37) := by decide +kernel
theorem dX5_gear_44 : decode cX5_gear 44 = .ok (.aload_n 3, 1) := by decide +kernel
theorem dX5_gear_45 : decode cX5_gear 45 = .ok (.getfield 110, 3) := by decide +kernel
theorem dX5_gear_48 : decode cX5_gear 48 = .ok (.ireturn, 1) := by decide +kernel
theorem dX5_gear_49 : decode cX5_gear 49 = .ok (.aload_n 3, 1) := by decide +kernel
theorem dX5_gear_50 : decode cX5_gear 50 = .ok (.getfield 132, 3) := by decide +kernel
theorem dX5_gear_53 : decode cX5_gear 53 = .ok (.ireturn, 1) := by decide +kernel
theorem dX5_gear_54 : decode cX5_gear 54 = .ok (.aload_n 0, 1) := by decide +kernel
theorem dX5_gear_55 : decode cX5_gear 55 = .ok (.getfield 10, 3) := by decide +kernel
theorem dX5_gear_58 : decode cX5_gear 58 = .ok (.iload_n 1, 1) := by decide +kernel
theorem dX5_gear_59 : decode cX5_gear 59 = .ok (.invokevirtual 135, 3) := by decide +kernel
theorem dX5_gear_62 : decode cX5_gear 62 = .ok (.ireturn, 1) := by decide +kernel
theorem dX5_gear_63 : decode cX5_gear 63 = .ok (.aload_n 0, 1) := by decide +kernel
theorem dX5_gear_64 : decode cX5_gear 64 = .ok (.iload_n 1, 1) := by decide +kernel
theorem dX5_gear_65 : decode cX5_gear 65 = .ok (.invokevirtual 138, 3) := by decide +kernel
theorem dX5_gear_68 : decode cX5_gear 68 = .ok (.ireturn, 1) := by decide +kernel
theorem dX5_gear_69 : decode cX5_gear 69 = .ok (.aload_n 3, 1) := by decide +kernel
theorem dX5_gear_70 : decode cX5_gear 70 = .ok (.iconst 0, 1) := by decide +kernel
theorem dX5_gear_71 : decode cX5_gear 71 = .ok (.invokevirtual 107, 3) := by decide +kernel
theorem dX5_gear_74 : decode cX5_gear 74 = .ok (.ireturn, 1) := by decide +kernel
theorem dX5_gear_75 : decode cX5_gear 75 = .ok (.aload_n 3, 1) := by decide +kernel
theorem dX5_gear_76 : decode cX5_gear 76 = .ok (.iconst 1, 1) := by decide +kernel
theorem dX5_gear_77 : decode cX5_gear 77 = .ok (.invokevirtual 107, 3) := by decide +kernel
theorem dX5_gear_80 : decode cX5_gear 80 = .ok (.ireturn, 1) := by decide +kernel
theorem dX5_gear_81 : decode cX5_gear 81 = .ok (.new 55, 3) := by decide +kernel
theorem dX5_gear_84 : decode cX5_gear 84 = .ok (.dup, 1) := by decide +kernel
theorem dX5_gear_85 : decode cX5_gear 85 = .ok (.ldc 141, 2) := by decide +kernel
theorem dX5_gear_87 : decode cX5_gear 87 = .ok (.invokespecial 59, 3) := by decide +kernel
theorem dX5_gear_90 : decode cX5_gear 90 = .ok (.athrow, 1) := by decide +kernel
theorem dX5_reading_0 : decode cX5_reading 0 = .ok (.aload_n 0, 1) := by decide +kernel
theorem dX5_reading_1 : decode cX5_reading 1 = .ok (.iload_n 1, 1) := by decide +kernel
theorem dX5_reading_2 : decode cX5_reading 2 = .ok (.invokevirtual 78, 3) := by decide +kernel
theorem dX5_reading_5 : decode cX5_reading 5 = .ok (.astore 4, 2) := by decide +kernel
theorem dX5_reading_7 : decode cX5_reading 7 = .ok (.aload 4, 2) := by decide +kernel
theorem dX5_reading_9 : decode cX5_reading 9 = .ok (.iload_n 2, 1) := by decide +kernel
theorem dX5_reading_10 : decode cX5_reading 10 = .ok (.iload_n 3, 1) := by decide +kernel
theorem dX5_reading_11 : decode cX5_reading 11 = .ok (.invokestatic 86, 3) := by decide +kernel
theorem dX5_reading_14 : decode cX5_reading 14 = .ok (.aload 4, 2) := by decide +kernel
theorem dX5_reading_16 : decode cX5_reading 16 = .ok (.getfield 96, 3) := by decide +kernel
theorem dX5_reading_19 : decode cX5_reading 19 = .ok (.iload_n 2, 1) := by decide +kernel
theorem dX5_reading_20 : decode cX5_reading 20 = .ok (.aaload, 1) := by decide +kernel
theorem dX5_reading_21 : decode cX5_reading 21 = .ok (.iload_n 3, 1) := by decide +kernel
theorem dX5_reading_22 : decode cX5_reading 22 = .ok (.iaload, 1) := by decide +kernel
theorem dX5_reading_23 : decode cX5_reading 23 = .ok (.ireturn, 1) := by decide +kernel
theorem dX5_index_0 : decode cX5_index 0 = .ok (.aload_n 0, 1) := by decide +kernel
theorem dX5_index_1 : decode cX5_index 1 = .ok (.iload_n 1, 1) := by decide +kernel
theorem dX5_index_2 : decode cX5_index 2 = .ok (.invokevirtual 78, 3) := by decide +kernel
theorem dX5_index_5 : decode cX5_index 5 = .ok (.astore 4, 2) := by decide +kernel
theorem dX5_index_7 : decode cX5_index 7 = .ok (.iload_n 2, 1) := by decide +kernel
theorem dX5_index_8 : decode cX5_index 8 = .ok (.invokestatic 143, 3) := by decide +kernel
theorem dX5_index_11 : decode cX5_index 11 = .ok (.iload_n 3, 1) := by decide +kernel
theorem dX5_index_12 : decode cX5_index 12 = .ok (.ifCond .lt 12, 3) := by decide +kernel
theorem dX5_index_15 : decode cX5_index 15 = .ok (.iload_n 3, 1) := by decide +kernel
theorem dX5_index_16 : decode cX5_index 16 = .ok (.aload 4, 2) := by decide +kernel
theorem dX5_index_18 : decode cX5_index 18 = .ok (.getfield 110, 3) := by decide +kernel
theorem dX5_index_21 : decode cX5_index 21 = .ok (.if_icmp .le 13, 3) := by decide +kernel
theorem dX5_index_24 : decode cX5_index 24 = .ok (.new 113, 3) := by decide +kernel
theorem dX5_index_27 : decode cX5_index 27 = .ok (.dup, 1) := by decide +kernel
theorem dX5_index_28 : decode cX5_index 28 = .ok (.ldc 115, 2) := by decide +kernel
theorem dX5_index_30 : decode cX5_index 30 = .ok (.invokespecial 117, 3) := by decide +kernel
theorem dX5_index_33 : decode cX5_index 33 = .ok (.athrow, 1) := by decide +kernel
theorem dX5_index_34 : decode cX5_index 34 = .ok (.aload 4, 2) := by decide +kernel
theorem dX5_index_36 : decode cX5_index 36 = .ok (.iload_n 2, 1) := by decide +kernel
theorem dX5_index_37 : decode cX5_index 37 = .ok (.iload_n 3, 1) := by decide +kernel
theorem dX5_index_38 : decode cX5_index 38 = .ok (.invokevirtual 147, 3) := by decide +kernel
theorem dX5_index_41 : decode cX5_index 41 = .ok (.ireturn, 1) := by decide +kernel
theorem dX5_pitch_0 : decode cX5_pitch 0 = .ok (.aload_n 0, 1) := by decide +kernel
theorem dX5_pitch_1 : decode cX5_pitch 1 = .ok (.iload_n 1, 1) := by decide +kernel
theorem dX5_pitch_2 : decode cX5_pitch 2 = .ok (.invokevirtual 78, 3) := by decide +kernel
theorem dX5_pitch_5 : decode cX5_pitch 5 = .ok (.astore 4, 2) := by decide +kernel
theorem dX5_pitch_7 : decode cX5_pitch 7 = .ok (.iload_n 2, 1) := by decide +kernel
theorem dX5_pitch_8 : decode cX5_pitch 8 = .ok (.invokestatic 143, 3) := by decide +kernel
theorem dX5_pitch_11 : decode cX5_pitch 11 = .ok (.iload_n 3, 1) := by decide +kernel
theorem dX5_pitch_12 : decode cX5_pitch 12 = .ok (.iconst 1, 1) := by decide +kernel
theorem dX5_pitch_13 : decode cX5_pitch 13 = .ok (.if_icmp .lt 12, 3) := by decide +kernel
theorem dX5_pitch_16 : decode cX5_pitch 16 = .ok (.iload_n 3, 1) := by decide +kernel
theorem dX5_pitch_17 : decode cX5_pitch 17 = .ok (.aload 4, 2) := by decide +kernel
theorem dX5_pitch_19 : decode cX5_pitch 19 = .ok (.getfield 110, 3) := by decide +kernel
theorem dX5_pitch_22 : decode cX5_pitch 22 = .ok (.if_icmp .le 13, 3) := by decide +kernel
theorem dX5_pitch_25 : decode cX5_pitch 25 = .ok (.new 113, 3) := by decide +kernel
theorem dX5_pitch_28 : decode cX5_pitch 28 = .ok (.dup, 1) := by decide +kernel
theorem dX5_pitch_29 : decode cX5_pitch 29 = .ok (.ldc 115, 2) := by decide +kernel
theorem dX5_pitch_31 : decode cX5_pitch 31 = .ok (.invokespecial 117, 3) := by decide +kernel
theorem dX5_pitch_34 : decode cX5_pitch 34 = .ok (.athrow, 1) := by decide +kernel
theorem dX5_pitch_35 : decode cX5_pitch 35 = .ok (.aload 4, 2) := by decide +kernel
theorem dX5_pitch_37 : decode cX5_pitch 37 = .ok (.iload_n 2, 1) := by decide +kernel
theorem dX5_pitch_38 : decode cX5_pitch 38 = .ok (.iload_n 3, 1) := by decide +kernel
theorem dX5_pitch_39 : decode cX5_pitch 39 = .ok (.invokevirtual 147, 3) := by decide +kernel
theorem dX5_pitch_42 : decode cX5_pitch 42 = .ok (.aload 4, 2) := by decide +kernel
theorem dX5_pitch_44 : decode cX5_pitch 44 = .ok (.iload_n 2, 1) := by decide +kernel
theorem dX5_pitch_45 : decode cX5_pitch 45 = .ok (.iload_n 3, 1) := by decide +kernel
theorem dX5_pitch_46 : decode cX5_pitch 46 = .ok (.iconst 1, 1) := by decide +kernel
theorem dX5_pitch_47 : decode cX5_pitch 47 = .ok (.isub, 1) := by decide +kernel
theorem dX5_pitch_48 : decode cX5_pitch 48 = .ok (.invokevirtual 147, 3) := by decide +kernel
theorem dX5_pitch_51 : decode cX5_pitch 51 = .ok (.isub, 1) := by decide +kernel
theorem dX5_pitch_52 : decode cX5_pitch 52 = .ok (.ireturn, 1) := by decide +kernel
theorem dX5_span_0 : decode cX5_span 0 = .ok (.aload_n 0, 1) := by decide +kernel
theorem dX5_span_1 : decode cX5_span 1 = .ok (.iload_n 1, 1) := by decide +kernel
theorem dX5_span_2 : decode cX5_span 2 = .ok (.invokevirtual 78, 3) := by decide +kernel
theorem dX5_span_5 : decode cX5_span 5 = .ok (.astore 4, 2) := by decide +kernel
theorem dX5_span_7 : decode cX5_span 7 = .ok (.iload_n 2, 1) := by decide +kernel
theorem dX5_span_8 : decode cX5_span 8 = .ok (.invokestatic 143, 3) := by decide +kernel
theorem dX5_span_11 : decode cX5_span 11 = .ok (.iload_n 3, 1) := by decide +kernel
theorem dX5_span_12 : decode cX5_span 12 = .ok (.iconst 1, 1) := by decide +kernel
theorem dX5_span_13 : decode cX5_span 13 = .ok (.if_icmp .lt 12, 3) := by decide +kernel
theorem dX5_span_16 : decode cX5_span 16 = .ok (.iload_n 3, 1) := by decide +kernel
theorem dX5_span_17 : decode cX5_span 17 = .ok (.aload 4, 2) := by decide +kernel
theorem dX5_span_19 : decode cX5_span 19 = .ok (.getfield 110, 3) := by decide +kernel
theorem dX5_span_22 : decode cX5_span 22 = .ok (.if_icmp .le 13, 3) := by decide +kernel
theorem dX5_span_25 : decode cX5_span 25 = .ok (.new 55, 3) := by decide +kernel
theorem dX5_span_28 : decode cX5_span 28 = .ok (.dup, 1) := by decide +kernel
theorem dX5_span_29 : decode cX5_span 29 = .ok (.ldc 150, 2) := by decide +kernel
theorem dX5_span_31 : decode cX5_span 31 = .ok (.invokespecial 59, 3) := by decide +kernel
theorem dX5_span_34 : decode cX5_span 34 = .ok (.athrow, 1) := by decide +kernel
theorem dX5_span_35 : decode cX5_span 35 = .ok (.aload 4, 2) := by decide +kernel
theorem dX5_span_37 : decode cX5_span 37 = .ok (.iload_n 2, 1) := by decide +kernel
theorem dX5_span_38 : decode cX5_span 38 = .ok (.iload_n 3, 1) := by decide +kernel
theorem dX5_span_39 : decode cX5_span 39 = .ok (.invokevirtual 152, 3) := by decide +kernel
theorem dX5_span_42 : decode cX5_span 42 = .ok (.ireturn, 1) := by decide +kernel
theorem dX5_thickness_0 : decode cX5_thickness 0 = .ok (.aload_n 0, 1) := by decide +kernel
theorem dX5_thickness_1 : decode cX5_thickness 1 = .ok (.iload_n 1, 1) := by decide +kernel
theorem dX5_thickness_2 : decode cX5_thickness 2 = .ok (.invokevirtual 78, 3) := by decide +kernel
theorem dX5_thickness_5 : decode cX5_thickness 5 = .ok (.astore_n 3, 1) := by decide +kernel
theorem dX5_thickness_6 : decode cX5_thickness 6 = .ok (.iload_n 2, 1) := by decide +kernel
theorem dX5_thickness_7 : decode cX5_thickness 7 = .ok (.iconst (-1), 1) := by decide +kernel
theorem dX5_thickness_8 : decode cX5_thickness 8 = .ok (.if_icmp .ne 8, 3) := by decide +kernel
theorem dX5_thickness_11 : decode cX5_thickness 11 = .ok (.aload_n 3, 1) := by decide +kernel
theorem dX5_thickness_12 : decode cX5_thickness 12 = .ok (.invokevirtual 155, 3) := by decide +kernel
theorem dX5_thickness_15 : decode cX5_thickness 15 = .ok (.ireturn, 1) := by decide +kernel
theorem dX5_thickness_16 : decode cX5_thickness 16 = .ok (.iload_n 2, 1) := by decide +kernel
theorem dX5_thickness_17 : decode cX5_thickness 17 = .ok (.ifCond .lt 11, 3) := by decide +kernel
theorem dX5_thickness_20 : decode cX5_thickness 20 = .ok (.iload_n 2, 1) := by decide +kernel
theorem dX5_thickness_21 : decode cX5_thickness 21 = .ok (.aload_n 3, 1) := by decide +kernel
theorem dX5_thickness_22 : decode cX5_thickness 22 = .ok (.getfield 110, 3) := by decide +kernel
theorem dX5_thickness_25 : decode cX5_thickness 25 = .ok (.if_icmp .lt 13, 3) := by decide +kernel
theorem dX5_thickness_28 : decode cX5_thickness 28 = .ok (.new 113, 3) := by decide +kernel
theorem dX5_thickness_31 : decode cX5_thickness 31 = .ok (.dup, 1) := by decide +kernel
theorem dX5_thickness_32 : decode cX5_thickness 32 = .ok (.ldc 115, 2) := by decide +kernel
theorem dX5_thickness_34 : decode cX5_thickness 34 = .ok (.invokespecial 117, 3) := by decide +kernel
theorem dX5_thickness_37 : decode cX5_thickness 37 = .ok (.athrow, 1) := by decide +kernel
theorem dX5_thickness_38 : decode cX5_thickness 38 = .ok (.aload_n 3, 1) := by decide +kernel
theorem dX5_thickness_39 : decode cX5_thickness 39 = .ok (.iload_n 2, 1) := by decide +kernel
theorem dX5_thickness_40 : decode cX5_thickness 40 = .ok (.invokevirtual 159, 3) := by decide +kernel
theorem dX5_thickness_43 : decode cX5_thickness 43 = .ok (.ireturn, 1) := by decide +kernel
theorem dX5_eccentricity_0 : decode cX5_eccentricity 0 = .ok (.aload_n 0, 1) := by decide +kernel
theorem dX5_eccentricity_1 : decode cX5_eccentricity 1 = .ok (.iload_n 1, 1) := by decide +kernel
theorem dX5_eccentricity_2 : decode cX5_eccentricity 2 = .ok (.invokevirtual 78, 3) := by decide +kernel
theorem dX5_eccentricity_5 : decode cX5_eccentricity 5 = .ok (.astore_n 2, 1) := by decide +kernel
theorem dX5_eccentricity_6 : decode cX5_eccentricity 6 = .ok (.aload_n 2, 1) := by decide +kernel
theorem dX5_eccentricity_7 : decode cX5_eccentricity 7 = .ok (.invokevirtual 162, 3) := by decide +kernel
theorem dX5_eccentricity_10 : decode cX5_eccentricity 10 = .ok (.i2d, 1) := by decide +kernel
theorem dX5_eccentricity_11 : decode cX5_eccentricity 11 = .ok (.ldc2_w 165, 3) := by decide +kernel
theorem dX5_eccentricity_14 : decode cX5_eccentricity 14 = .ok (.ddiv, 1) := by decide +kernel
theorem dX5_eccentricity_15 : decode cX5_eccentricity 15 = .ok (.dreturn, 1) := by decide +kernel
theorem dX5_deviation_0 : decode cX5_deviation 0 = .ok (.aload_n 0, 1) := by decide +kernel
theorem dX5_deviation_1 : decode cX5_deviation 1 = .ok (.iload_n 1, 1) := by decide +kernel
theorem dX5_deviation_2 : decode cX5_deviation 2 = .ok (.invokevirtual 78, 3) := by decide +kernel
theorem dX5_deviation_5 : decode cX5_deviation 5 = .ok (.pop, 1) := by decide +kernel
theorem dX5_deviation_6 : decode cX5_deviation 6 = .ok (.iload_n 2, 1) := by decide +kernel
theorem dX5_deviation_7 : decode cX5_deviation 7 = .ok (.invokestatic 167, 3) := by decide +kernel
theorem dX5_deviation_10 : decode cX5_deviation 10 = .ok (.aload_n 0, 1) := by decide +kernel
theorem dX5_deviation_11 : decode cX5_deviation 11 = .ok (.getfield 10, 3) := by decide +kernel
theorem dX5_deviation_14 : decode cX5_deviation 14 = .ok (.iload_n 1, 1) := by decide +kernel
theorem dX5_deviation_15 : decode cX5_deviation 15 = .ok (.iload_n 2, 1) := by decide +kernel
theorem dX5_deviation_16 : decode cX5_deviation 16 = .ok (.invokevirtual 170, 3) := by decide +kernel
theorem dX5_deviation_19 : decode cX5_deviation 19 = .ok (.ireturn, 1) := by decide +kernel
theorem dX5_addLine_0 : decode cX5_addLine 0 = .ok (.aload_n 0, 1) := by decide +kernel
theorem dX5_addLine_1 : decode cX5_addLine 1 = .ok (.iload_n 1, 1) := by decide +kernel
theorem dX5_addLine_2 : decode cX5_addLine 2 = .ok (.invokevirtual 78, 3) := by decide +kernel
theorem dX5_addLine_5 : decode cX5_addLine 5 = .ok (.pop, 1) := by decide +kernel
theorem dX5_addLine_6 : decode cX5_addLine 6 = .ok (.iload_n 2, 1) := by decide +kernel
theorem dX5_addLine_7 : decode cX5_addLine 7 = .ok (.ifCond .lt 8, 3) := by decide +kernel
theorem dX5_addLine_10 : decode cX5_addLine 10 = .ok (.iload_n 2, 1) := by decide +kernel
theorem dX5_addLine_11 : decode cX5_addLine 11 = .ok (.iconst 2, 1) := by decide +kernel
theorem dX5_addLine_12 : decode cX5_addLine 12 = .ok (.if_icmp .lt 13, 3) := by decide +kernel
theorem dX5_addLine_15 : decode cX5_addLine 15 = .ok (.new 55, 3) := by decide +kernel
theorem dX5_addLine_18 : decode cX5_addLine 18 = .ok (.dup, 1) := by decide +kernel
theorem dX5_addLine_19 : decode cX5_addLine 19 = .ok (.ldc 173, 2) := by decide +kernel
theorem dX5_addLine_21 : decode cX5_addLine 21 = .ok (.invokespecial 59, 3) := by decide +kernel
theorem dX5_addLine_24 : decode cX5_addLine 24 = .ok (.athrow, 1) := by decide +kernel
theorem dX5_addLine_25 : decode cX5_addLine 25 = .ok (.aload_n 0, 1) := by decide +kernel
theorem dX5_addLine_26 : decode cX5_addLine 26 = .ok (.getfield 10, 3) := by decide +kernel
theorem dX5_addLine_29 : decode cX5_addLine 29 = .ok (.getfield 175, 3) := by decide +kernel
theorem dX5_addLine_32 : decode cX5_addLine 32 = .ok (.bipush 10, 2) := by decide +kernel
theorem dX5_addLine_34 : decode cX5_addLine 34 = .ok (.if_icmp .lt 13, 3) := by decide +kernel
theorem dX5_addLine_37 : decode cX5_addLine 37 = .ok (.new 66, 3) := by decide +kernel
theorem dX5_addLine_40 : decode cX5_addLine 40 = .ok (.dup, 1) := by decide +kernel
theorem dX5_addLine_41 : decode cX5_addLine 41 = .ok (.ldc 178, 2) := by decide +kernel
theorem dX5_addLine_43 : decode cX5_addLine 43 = .ok (.invokespecial 70, 3) := by decide +kernel
theorem dX5_addLine_46 : decode cX5_addLine 46 = .ok (.athrow, 1) := by decide +kernel
theorem dX5_addLine_47 : decode cX5_addLine 47 = .ok (.aload_n 0, 1) := by decide +kernel
theorem dX5_addLine_48 : decode cX5_addLine 48 = .ok (.invokevirtual 71, 3) := by decide +kernel
theorem dX5_addLine_51 : decode cX5_addLine 51 = .ok (.aload_n 0, 1) := by decide +kernel
theorem dX5_addLine_52 : decode cX5_addLine 52 = .ok (.getfield 10, 3) := by decide +kernel
theorem dX5_addLine_55 : decode cX5_addLine 55 = .ok (.iload_n 1, 1) := by decide +kernel
theorem dX5_addLine_56 : decode cX5_addLine 56 = .ok (.iload_n 2, 1) := by decide +kernel
theorem dX5_addLine_57 : decode cX5_addLine 57 = .ok (.invokevirtual 180, 3) := by decide +kernel
theorem dX5_addLine_60 : decode cX5_addLine 60 = .ok (.ireturn, 1) := by decide +kernel
theorem dX5_addPoint_0 : decode cX5_addPoint 0 = .ok (.aload_n 0, 1) := by decide +kernel
theorem dX5_addPoint_1 : decode cX5_addPoint 1 = .ok (.iload_n 1, 1) := by decide +kernel
theorem dX5_addPoint_2 : decode cX5_addPoint 2 = .ok (.invokevirtual 183, 3) := by decide +kernel
theorem dX5_addPoint_5 : decode cX5_addPoint 5 = .ok (.astore_n 3, 1) := by decide +kernel
theorem dX5_addPoint_6 : decode cX5_addPoint 6 = .ok (.iload_n 2, 1) := by decide +kernel
theorem dX5_addPoint_7 : decode cX5_addPoint 7 = .ok (.invokestatic 90, 3) := by decide +kernel
theorem dX5_addPoint_10 : decode cX5_addPoint 10 = .ok (.ifCond .ne 13, 3) := by decide +kernel
theorem dX5_addPoint_13 : decode cX5_addPoint 13 = .ok (.new 55, 3) := by decide +kernel
theorem dX5_addPoint_16 : decode cX5_addPoint 16 = .ok (.dup, 1) := by decide +kernel
theorem dX5_addPoint_17 : decode cX5_addPoint 17 = .ok (.ldc 94, 2) := by decide +kernel
theorem dX5_addPoint_19 : decode cX5_addPoint 19 = .ok (.invokespecial 59, 3) := by decide +kernel
theorem dX5_addPoint_22 : decode cX5_addPoint 22 = .ok (.athrow, 1) := by decide +kernel
theorem dX5_addPoint_23 : decode cX5_addPoint 23 = .ok (.aload_n 3, 1) := by decide +kernel
theorem dX5_addPoint_24 : decode cX5_addPoint 24 = .ok (.getfield 187, 3) := by decide +kernel
theorem dX5_addPoint_27 : decode cX5_addPoint 27 = .ok (.bipush 12, 2) := by decide +kernel
theorem dX5_addPoint_29 : decode cX5_addPoint 29 = .ok (.if_icmp .lt 13, 3) := by decide +kernel
theorem dX5_addPoint_32 : decode cX5_addPoint 32 = .ok (.new 66, 3) := by decide +kernel
theorem dX5_addPoint_35 : decode cX5_addPoint 35 = .ok (.dup, 1) := by decide +kernel
theorem dX5_addPoint_36 : decode cX5_addPoint 36 = .ok (.ldc 192, 2) := by decide +kernel
theorem dX5_addPoint_38 : decode cX5_addPoint 38 = .ok (.invokespecial 70, 3) := by decide +kernel
theorem dX5_addPoint_41 : decode cX5_addPoint 41 = .ok (.athrow, 1) := by decide +kernel
theorem dX5_addPoint_42 : decode cX5_addPoint 42 = .ok (.aload_n 0, 1) := by decide +kernel
theorem dX5_addPoint_43 : decode cX5_addPoint 43 = .ok (.invokevirtual 71, 3) := by decide +kernel
theorem dX5_addPoint_46 : decode cX5_addPoint 46 = .ok (.aload_n 3, 1) := by decide +kernel
theorem dX5_addPoint_47 : decode cX5_addPoint 47 = .ok (.iload_n 2, 1) := by decide +kernel
theorem dX5_addPoint_48 : decode cX5_addPoint 48 = .ok (.invokevirtual 194, 3) := by decide +kernel
theorem dX5_addPoint_51 : decode cX5_addPoint 51 = .ok (.aload_n 3, 1) := by decide +kernel
theorem dX5_addPoint_52 : decode cX5_addPoint 52 = .ok (.getfield 187, 3) := by decide +kernel
theorem dX5_addPoint_55 : decode cX5_addPoint 55 = .ok (.ireturn, 1) := by decide +kernel
theorem dX5_removeLine_0 : decode cX5_removeLine 0 = .ok (.aload_n 0, 1) := by decide +kernel
theorem dX5_removeLine_1 : decode cX5_removeLine 1 = .ok (.iload_n 1, 1) := by decide +kernel
theorem dX5_removeLine_2 : decode cX5_removeLine 2 = .ok (.invokevirtual 183, 3) := by decide +kernel
theorem dX5_removeLine_5 : decode cX5_removeLine 5 = .ok (.pop, 1) := by decide +kernel
theorem dX5_removeLine_6 : decode cX5_removeLine 6 = .ok (.aload_n 0, 1) := by decide +kernel
theorem dX5_removeLine_7 : decode cX5_removeLine 7 = .ok (.invokevirtual 71, 3) := by decide +kernel
theorem dX5_removeLine_10 : decode cX5_removeLine 10 = .ok (.aload_n 0, 1) := by decide +kernel
theorem dX5_removeLine_11 : decode cX5_removeLine 11 = .ok (.getfield 10, 3) := by decide +kernel
theorem dX5_removeLine_14 : decode cX5_removeLine 14 = .ok (.iload_n 1, 1) := by decide +kernel
theorem dX5_removeLine_15 : decode cX5_removeLine 15 = .ok (.invokevirtual 197, 3) := by decide +kernel
theorem dX5_removeLine_18 : decode cX5_removeLine 18 = .ok (.aload_n 0, 1) := by decide +kernel
theorem dX5_removeLine_19 : decode cX5_removeLine 19 = .ok (.getfield 10, 3) := by decide +kernel
theorem dX5_removeLine_22 : decode cX5_removeLine 22 = .ok (.getfield 175, 3) := by decide +kernel
theorem dX5_removeLine_25 : decode cX5_removeLine 25 = .ok (.ireturn, 1) := by decide +kernel
theorem dX5_lines_0 : decode cX5_lines 0 = .ok (.aload_n 0, 1) := by decide +kernel
theorem dX5_lines_1 : decode cX5_lines 1 = .ok (.getfield 10, 3) := by decide +kernel
theorem dX5_lines_4 : decode cX5_lines 4 = .ok (.getfield 175, 3) := by decide +kernel
theorem dX5_lines_7 : decode cX5_lines 7 = .ok (.ireturn, 1) := by decide +kernel
theorem dX5_line_0 : decode cX5_line 0 = .ok (.aload_n 0, 1) := by decide +kernel
theorem dX5_line_1 : decode cX5_line 1 = .ok (.iload_n 1, 1) := by decide +kernel
theorem dX5_line_2 : decode cX5_line 2 = .ok (.invokevirtual 183, 3) := by decide +kernel
theorem dX5_line_5 : decode cX5_line 5 = .ok (.astore_n 3, 1) := by decide +kernel
theorem dX5_line_6 : decode cX5_line 6 = .ok (.iload_n 2, 1) := by decide +kernel
theorem dX5_line_7 : decode cX5_line 7 = .ok (.tableswitch 40 0 2 #[25, 30, 35], 25) := by decide +kernel
theorem dX5_line_32 : decode cX5_line 32 = .ok (.aload_n 3, 1) := by decide +kernel
theorem dX5_line_33 : decode cX5_line 33 = .ok (.getfield 200, 3) := by decide +kernel
theorem dX5_line_36 : decode cX5_line 36 = .ok (.ireturn, 1) := by decide +kernel
theorem dX5_line_37 : decode cX5_line 37 = .ok (.aload_n 3, 1) := by decide +kernel
theorem dX5_line_38 : decode cX5_line 38 = .ok (.getfield 203, 3) := by decide +kernel
theorem dX5_line_41 : decode cX5_line 41 = .ok (.ireturn, 1) := by decide +kernel
theorem dX5_line_42 : decode cX5_line 42 = .ok (.aload_n 3, 1) := by decide +kernel
theorem dX5_line_43 : decode cX5_line 43 = .ok (.getfield 187, 3) := by decide +kernel
theorem dX5_line_46 : decode cX5_line 46 = .ok (.ireturn, 1) := by decide +kernel
theorem dX5_line_47 : decode cX5_line 47 = .ok (.new 55, 3) := by decide +kernel
theorem dX5_line_50 : decode cX5_line 50 = .ok (.dup, 1) := by decide +kernel
theorem dX5_line_51 : decode cX5_line 51 = .ok (.ldc 141, 2) := by decide +kernel
theorem dX5_line_53 : decode cX5_line 53 = .ok (.invokespecial 59, 3) := by decide +kernel
theorem dX5_line_56 : decode cX5_line 56 = .ok (.athrow, 1) := by decide +kernel
theorem dX5_point_0 : decode cX5_point 0 = .ok (.aload_n 0, 1) := by decide +kernel
theorem dX5_point_1 : decode cX5_point 1 = .ok (.iload_n 1, 1) := by decide +kernel
theorem dX5_point_2 : decode cX5_point 2 = .ok (.invokevirtual 183, 3) := by decide +kernel
theorem dX5_point_5 : decode cX5_point 5 = .ok (.astore_n 3, 1) := by decide +kernel
theorem dX5_point_6 : decode cX5_point 6 = .ok (.iload_n 2, 1) := by decide +kernel
theorem dX5_point_7 : decode cX5_point 7 = .ok (.ifCond .lt 11, 3) := by decide +kernel
theorem dX5_point_10 : decode cX5_point 10 = .ok (.iload_n 2, 1) := by decide +kernel
theorem dX5_point_11 : decode cX5_point 11 = .ok (.aload_n 3, 1) := by decide +kernel
theorem dX5_point_12 : decode cX5_point 12 = .ok (.getfield 187, 3) := by decide +kernel
theorem dX5_point_15 : decode cX5_point 15 = .ok (.if_icmp .lt 13, 3) := by decide +kernel
theorem dX5_point_18 : decode cX5_point 18 = .ok (.new 113, 3) := by decide +kernel
theorem dX5_point_21 : decode cX5_point 21 = .ok (.dup, 1) := by decide +kernel
theorem dX5_point_22 : decode cX5_point 22 = .ok (.ldc 206, 2) := by decide +kernel
theorem dX5_point_24 : decode cX5_point 24 = .ok (.invokespecial 117, 3) := by decide +kernel
theorem dX5_point_27 : decode cX5_point 27 = .ok (.athrow, 1) := by decide +kernel
theorem dX5_point_28 : decode cX5_point 28 = .ok (.aload_n 3, 1) := by decide +kernel
theorem dX5_point_29 : decode cX5_point 29 = .ok (.getfield 208, 3) := by decide +kernel
theorem dX5_point_32 : decode cX5_point 32 = .ok (.iload_n 2, 1) := by decide +kernel
theorem dX5_point_33 : decode cX5_point 33 = .ok (.iaload, 1) := by decide +kernel
theorem dX5_point_34 : decode cX5_point 34 = .ok (.ireturn, 1) := by decide +kernel
theorem dX5_lineDeviation_0 : decode cX5_lineDeviation 0 = .ok (.aload_n 0, 1) := by decide +kernel
theorem dX5_lineDeviation_1 : decode cX5_lineDeviation 1 = .ok (.iload_n 1, 1) := by decide +kernel
theorem dX5_lineDeviation_2 : decode cX5_lineDeviation 2 = .ok (.invokevirtual 183, 3) := by decide +kernel
theorem dX5_lineDeviation_5 : decode cX5_lineDeviation 5 = .ok (.astore_n 3, 1) := by decide +kernel
theorem dX5_lineDeviation_6 : decode cX5_lineDeviation 6 = .ok (.iload_n 2, 1) := by decide +kernel
theorem dX5_lineDeviation_7 : decode cX5_lineDeviation 7 = .ok (.ifCond .lt 8, 3) := by decide +kernel
theorem dX5_lineDeviation_10 : decode cX5_lineDeviation 10 = .ok (.iload_n 2, 1) := by decide +kernel
theorem dX5_lineDeviation_11 : decode cX5_lineDeviation 11 = .ok (.iconst 3, 1) := by decide +kernel
theorem dX5_lineDeviation_12 : decode cX5_lineDeviation 12 = .ok (.if_icmp .lt 13, 3) := by decide +kernel
theorem dX5_lineDeviation_15 : decode cX5_lineDeviation 15 = .ok (.new 55, 3) := by decide +kernel
theorem dX5_lineDeviation_18 : decode cX5_lineDeviation 18 = .ok (.dup, 1) := by decide +kernel
theorem dX5_lineDeviation_19 : decode cX5_lineDeviation 19 = .ok (.ldc 141, 2) := by decide +kernel
theorem dX5_lineDeviation_21 : decode cX5_lineDeviation 21 = .ok (.invokespecial 59, 3) := by decide +kernel
theorem dX5_lineDeviation_24 : decode cX5_lineDeviation 24 = .ok (.athrow, 1) := by decide +kernel
theorem dX5_lineDeviation_25 : decode cX5_lineDeviation 25 = .ok (.aload_n 3, 1) := by decide +kernel
theorem dX5_lineDeviation_26 : decode cX5_lineDeviation 26 = .ok (.invokestatic 211, 3) := by decide +kernel
theorem dX5_lineDeviation_29 : decode cX5_lineDeviation 29 = .ok (.aload_n 3, 1) := by decide +kernel
theorem dX5_lineDeviation_30 : decode cX5_lineDeviation 30 = .ok (.iload_n 2, 1) := by decide +kernel
theorem dX5_lineDeviation_31 : decode cX5_lineDeviation 31 = .ok (.invokevirtual 215, 3) := by decide +kernel
theorem dX5_lineDeviation_34 : decode cX5_lineDeviation 34 = .ok (.ireturn, 1) := by decide +kernel
theorem dX5_best_0 : decode cX5_best 0 = .ok (.aload_n 0, 1) := by decide +kernel
theorem dX5_best_1 : decode cX5_best 1 = .ok (.iload_n 1, 1) := by decide +kernel
theorem dX5_best_2 : decode cX5_best 2 = .ok (.invokevirtual 183, 3) := by decide +kernel
theorem dX5_best_5 : decode cX5_best 5 = .ok (.astore 4, 2) := by decide +kernel
theorem dX5_best_7 : decode cX5_best 7 = .ok (.iload_n 3, 1) := by decide +kernel
theorem dX5_best_8 : decode cX5_best 8 = .ok (.ifCond .eq 18, 3) := by decide +kernel
theorem dX5_best_11 : decode cX5_best 11 = .ok (.iload_n 3, 1) := by decide +kernel
theorem dX5_best_12 : decode cX5_best 12 = .ok (.iconst 1, 1) := by decide +kernel
theorem dX5_best_13 : decode cX5_best 13 = .ok (.if_icmp .eq 13, 3) := by decide +kernel
theorem dX5_best_16 : decode cX5_best 16 = .ok (.new 55, 3) := by decide +kernel
theorem dX5_best_19 : decode cX5_best 19 = .ok (.dup, 1) := by decide +kernel
theorem dX5_best_20 : decode cX5_best 20 = .ok (.ldc 217, 2) := by decide +kernel
theorem dX5_best_22 : decode cX5_best 22 = .ok (.invokespecial 59, 3) := by decide +kernel
theorem dX5_best_25 : decode cX5_best 25 = .ok (.athrow, 1) := by decide +kernel
theorem dX5_best_26 : decode cX5_best 26 = .ok (.aload 4, 2) := by decide +kernel
theorem dX5_best_28 : decode cX5_best 28 = .ok (.invokestatic 211, 3) := by decide +kernel
theorem dX5_best_31 : decode cX5_best 31 = .ok (.iload_n 2, 1) := by decide +kernel
theorem dX5_best_32 : decode cX5_best 32 = .ok (.ifCond .eq 11, 3) := by decide +kernel
theorem dX5_best_35 : decode cX5_best 35 = .ok (.aload 4, 2) := by decide +kernel
theorem dX5_best_37 : decode cX5_best 37 = .ok (.invokevirtual 219, 3) := by decide +kernel
theorem dX5_best_40 : decode cX5_best 40 = .ok (.goto 8, 3) := by decide +kernel
theorem dX5_best_43 : decode cX5_best 43 = .ok (.aload 4, 2) := by decide +kernel
theorem dX5_best_45 : decode cX5_best 45 = .ok (.invokevirtual 223, 3) := by decide +kernel
theorem dX5_best_48 : decode cX5_best 48 = .ok (.lstore 5, 2) := by decide +kernel
theorem dX5_best_50 : decode cX5_best 50 = .ok (.aload 4, 2) := by decide +kernel
theorem dX5_best_52 : decode cX5_best 52 = .ok (.invokevirtual 226, 3) := by decide +kernel
theorem dX5_best_55 : decode cX5_best 55 = .ok (.lstore 7, 2) := by decide +kernel
theorem dX5_best_57 : decode cX5_best 57 = .ok (.lconst 1, 1) := by decide +kernel
theorem dX5_best_58 : decode cX5_best 58 = .ok (.lload 5, 2) := by decide +kernel
theorem dX5_best_60 : decode cX5_best 60 = .ok (.lload 7, 2) := by decide +kernel
theorem dX5_best_62 : decode cX5_best 62 = .ok (.invokestatic 229, 3) := by decide +kernel
theorem dX5_best_65 : decode cX5_best 65 = .ok (.invokestatic 233, 3) := by decide +kernel
theorem dX5_best_68 : decode cX5_best 68 = .ok (.lstore 9, 2) := by decide +kernel
theorem dX5_best_70 : decode cX5_best 70 = .ok (.iload_n 3, 1) := by decide +kernel
theorem dX5_best_71 : decode cX5_best 71 = .ok (.ifCond .ne 8, 3) := by decide +kernel
theorem dX5_best_74 : decode cX5_best 74 = .ok (.lload 5, 2) := by decide +kernel
theorem dX5_best_76 : decode cX5_best 76 = .ok (.goto 5, 3) := by decide +kernel
theorem dX5_best_79 : decode cX5_best 79 = .ok (.lload 7, 2) := by decide +kernel
theorem dX5_best_81 : decode cX5_best 81 = .ok (.lload 9, 2) := by decide +kernel
theorem dX5_best_83 : decode cX5_best 83 = .ok (.ldiv, 1) := by decide +kernel
theorem dX5_best_84 : decode cX5_best 84 = .ok (.lreturn, 1) := by decide +kernel
theorem dX5_tolerance_0 : decode cX5_tolerance 0 = .ok (.aload_n 0, 1) := by decide +kernel
theorem dX5_tolerance_1 : decode cX5_tolerance 1 = .ok (.iload_n 1, 1) := by decide +kernel
theorem dX5_tolerance_2 : decode cX5_tolerance 2 = .ok (.invokevirtual 78, 3) := by decide +kernel
theorem dX5_tolerance_5 : decode cX5_tolerance 5 = .ok (.astore 4, 2) := by decide +kernel
theorem dX5_tolerance_7 : decode cX5_tolerance 7 = .ok (.iload_n 2, 1) := by decide +kernel
theorem dX5_tolerance_8 : decode cX5_tolerance 8 = .ok (.invokestatic 167, 3) := by decide +kernel
theorem dX5_tolerance_11 : decode cX5_tolerance 11 = .ok (.iload_n 3, 1) := by decide +kernel
theorem dX5_tolerance_12 : decode cX5_tolerance 12 = .ok (.invokestatic 238, 3) := by decide +kernel
theorem dX5_tolerance_15 : decode cX5_tolerance 15 = .ok (.aload 4, 2) := by decide +kernel
theorem dX5_tolerance_17 : decode cX5_tolerance 17 = .ok (.iload_n 2, 1) := by decide +kernel
theorem dX5_tolerance_18 : decode cX5_tolerance 18 = .ok (.invokestatic 241, 3) := by decide +kernel
theorem dX5_tolerance_21 : decode cX5_tolerance 21 = .ok (.iload_n 3, 1) := by decide +kernel
theorem dX5_tolerance_22 : decode cX5_tolerance 22 = .ok (.invokestatic 245, 3) := by decide +kernel
theorem dX5_tolerance_25 : decode cX5_tolerance 25 = .ok (.ireturn, 1) := by decide +kernel
theorem dX5_quality_0 : decode cX5_quality 0 = .ok (.aload_n 0, 1) := by decide +kernel
theorem dX5_quality_1 : decode cX5_quality 1 = .ok (.iload_n 1, 1) := by decide +kernel
theorem dX5_quality_2 : decode cX5_quality 2 = .ok (.invokevirtual 78, 3) := by decide +kernel
theorem dX5_quality_5 : decode cX5_quality 5 = .ok (.astore_n 3, 1) := by decide +kernel
theorem dX5_quality_6 : decode cX5_quality 6 = .ok (.iload_n 2, 1) := by decide +kernel
theorem dX5_quality_7 : decode cX5_quality 7 = .ok (.iconst (-1), 1) := by decide +kernel
theorem dX5_quality_8 : decode cX5_quality 8 = .ok (.if_icmp .ne 9, 3) := by decide +kernel
theorem dX5_quality_11 : decode cX5_quality 11 = .ok (.aload_n 0, 1) := by decide +kernel
theorem dX5_quality_12 : decode cX5_quality 12 = .ok (.iload_n 1, 1) := by decide +kernel
theorem dX5_quality_13 : decode cX5_quality 13 = .ok (.invokevirtual 138, 3) := by decide +kernel
theorem dX5_quality_16 : decode cX5_quality 16 = .ok (.ireturn, 1) := by decide +kernel
theorem dX5_quality_17 : decode cX5_quality 17 = .ok (.iload_n 2, 1) := by decide +kernel
theorem dX5_quality_18 : decode cX5_quality 18 = .ok (.invokestatic 167, 3) := by decide +kernel
theorem dX5_quality_21 : decode cX5_quality 21 = .ok (.aload_n 3, 1) := by decide +kernel
theorem dX5_quality_22 : decode cX5_quality 22 = .ok (.iload_n 2, 1) := by decide +kernel
theorem dX5_quality_23 : decode cX5_quality 23 = .ok (.invokestatic 241, 3) := by decide +kernel
theorem dX5_quality_26 : decode cX5_quality 26 = .ok (.aload_n 0, 1) := by decide +kernel
theorem dX5_quality_27 : decode cX5_quality 27 = .ok (.getfield 10, 3) := by decide +kernel
theorem dX5_quality_30 : decode cX5_quality 30 = .ok (.iload_n 1, 1) := by decide +kernel
theorem dX5_quality_31 : decode cX5_quality 31 = .ok (.iload_n 2, 1) := by decide +kernel
theorem dX5_quality_32 : decode cX5_quality 32 = .ok (.invokevirtual 170, 3) := by decide +kernel
theorem dX5_quality_35 : decode cX5_quality 35 = .ok (.invokestatic 248, 3) := by decide +kernel
theorem dX5_quality_38 : decode cX5_quality 38 = .ok (.ireturn, 1) := by decide +kernel
theorem dX5_decide_0 : decode cX5_decide 0 = .ok (.aload_n 0, 1) := by decide +kernel
theorem dX5_decide_1 : decode cX5_decide 1 = .ok (.iload_n 1, 1) := by decide +kernel
theorem dX5_decide_2 : decode cX5_decide 2 = .ok (.invokevirtual 78, 3) := by decide +kernel
theorem dX5_decide_5 : decode cX5_decide 5 = .ok (.astore 4, 2) := by decide +kernel
theorem dX5_decide_7 : decode cX5_decide 7 = .ok (.iload_n 2, 1) := by decide +kernel
theorem dX5_decide_8 : decode cX5_decide 8 = .ok (.invokestatic 238, 3) := by decide +kernel
theorem dX5_decide_11 : decode cX5_decide 11 = .ok (.iload_n 3, 1) := by decide +kernel
theorem dX5_decide_12 : decode cX5_decide 12 = .ok (.ifCond .lt 10, 3) := by decide +kernel
theorem dX5_decide_15 : decode cX5_decide 15 = .ok (.iload_n 3, 1) := by decide +kernel
theorem dX5_decide_16 : decode cX5_decide 16 = .ok (.sipush 1000, 3) := by decide +kernel
theorem dX5_decide_19 : decode cX5_decide 19 = .ok (.if_icmp .le 13, 3) := by decide +kernel
theorem dX5_decide_22 : decode cX5_decide 22 = .ok (.new 55, 3) := by decide +kernel
theorem dX5_decide_25 : decode cX5_decide 25 = .ok (.dup, 1) := by decide +kernel
theorem dX5_decide_26 : decode cX5_decide 26 = .ok (.ldc 251, 2) := by decide +kernel
theorem dX5_decide_28 : decode cX5_decide 28 = .ok (.invokespecial 59, 3) := by decide +kernel
theorem dX5_decide_31 : decode cX5_decide 31 = .ok (.athrow, 1) := by decide +kernel
theorem dX5_decide_32 : decode cX5_decide 32 = .ok (.iconst 0, 1) := by decide +kernel
theorem dX5_decide_33 : decode cX5_decide 33 = .ok (.istore 5, 2) := by decide +kernel
theorem dX5_decide_35 : decode cX5_decide 35 = .ok (.iconst 0, 1) := by decide +kernel
theorem dX5_decide_36 : decode cX5_decide 36 = .ok (.istore 6, 2) := by decide +kernel
theorem dX5_decide_38 : decode cX5_decide 38 = .ok (.iload 6, 2) := by decide +kernel
theorem dX5_decide_40 : decode cX5_decide 40 = .ok (.bipush 9, 2) := by decide +kernel
theorem dX5_decide_42 : decode cX5_decide 42 = .ok (.if_icmp .ge 51, 3) := by decide +kernel
theorem dX5_decide_45 : decode cX5_decide 45 = .ok (.aload_n 0, 1) := by decide +kernel
theorem dX5_decide_46 : decode cX5_decide 46 = .ok (.getfield 10, 3) := by decide +kernel
theorem dX5_decide_49 : decode cX5_decide 49 = .ok (.iload_n 1, 1) := by decide +kernel
theorem dX5_decide_50 : decode cX5_decide 50 = .ok (.iload 6, 2) := by decide +kernel
theorem dX5_decide_52 : decode cX5_decide 52 = .ok (.invokevirtual 170, 3) := by decide +kernel
theorem dX5_decide_55 : decode cX5_decide 55 = .ok (.aload 4, 2) := by decide +kernel
theorem dX5_decide_57 : decode cX5_decide 57 = .ok (.iload 6, 2) := by decide +kernel
theorem dX5_decide_59 : decode cX5_decide 59 = .ok (.invokestatic 241, 3) := by decide +kernel
theorem dX5_decide_62 : decode cX5_decide 62 = .ok (.iload_n 2, 1) := by decide +kernel
theorem dX5_decide_63 : decode cX5_decide 63 = .ok (.invokestatic 245, 3) := by decide +kernel
theorem dX5_decide_66 : decode cX5_decide 66 = .ok (.isub, 1) := by decide +kernel
theorem dX5_decide_67 : decode cX5_decide 67 = .ok (.istore 7, 2) := by decide +kernel
theorem dX5_decide_69 : decode cX5_decide 69 = .ok (.iload 7, 2) := by decide +kernel
theorem dX5_decide_71 : decode cX5_decide 71 = .ok (.iload_n 3, 1) := by decide +kernel
theorem dX5_decide_72 : decode cX5_decide 72 = .ok (.if_icmp .le 5, 3) := by decide +kernel
theorem dX5_decide_75 : decode cX5_decide 75 = .ok (.iconst 2, 1) := by decide +kernel
theorem dX5_decide_76 : decode cX5_decide 76 = .ok (.ireturn, 1) := by decide +kernel
theorem dX5_decide_77 : decode cX5_decide 77 = .ok (.iload 7, 2) := by decide +kernel
theorem dX5_decide_79 : decode cX5_decide 79 = .ok (.iload_n 3, 1) := by decide +kernel
theorem dX5_decide_80 : decode cX5_decide 80 = .ok (.ineg, 1) := by decide +kernel
theorem dX5_decide_81 : decode cX5_decide 81 = .ok (.if_icmp .le 6, 3) := by decide +kernel
theorem dX5_decide_84 : decode cX5_decide 84 = .ok (.iconst 1, 1) := by decide +kernel
theorem dX5_decide_85 : decode cX5_decide 85 = .ok (.istore 5, 2) := by decide +kernel
theorem dX5_decide_87 : decode cX5_decide 87 = .ok (.iinc 6 1, 3) := by decide +kernel
theorem dX5_decide_90 : decode cX5_decide 90 = .ok (.goto (-52), 3) := by decide +kernel
theorem dX5_decide_93 : decode cX5_decide 93 = .ok (.iload 5, 2) := by decide +kernel
theorem dX5_decide_95 : decode cX5_decide 95 = .ok (.ireturn, 1) := by decide +kernel
theorem dX5_mesh_0 : decode cX5_mesh 0 = .ok (.aload_n 0, 1) := by decide +kernel
theorem dX5_mesh_1 : decode cX5_mesh 1 = .ok (.iload_n 1, 1) := by decide +kernel
theorem dX5_mesh_2 : decode cX5_mesh 2 = .ok (.invokevirtual 78, 3) := by decide +kernel
theorem dX5_mesh_5 : decode cX5_mesh 5 = .ok (.astore 5, 2) := by decide +kernel
theorem dX5_mesh_7 : decode cX5_mesh 7 = .ok (.aload_n 0, 1) := by decide +kernel
theorem dX5_mesh_8 : decode cX5_mesh 8 = .ok (.iload_n 2, 1) := by decide +kernel
theorem dX5_mesh_9 : decode cX5_mesh 9 = .ok (.invokevirtual 78, 3) := by decide +kernel
theorem dX5_mesh_12 : decode cX5_mesh 12 = .ok (.astore 6, 2) := by decide +kernel
theorem dX5_mesh_14 : decode cX5_mesh 14 = .ok (.iload_n 3, 1) := by decide +kernel
theorem dX5_mesh_15 : decode cX5_mesh 15 = .ok (.invokestatic 143, 3) := by decide +kernel
theorem dX5_mesh_18 : decode cX5_mesh 18 = .ok (.iload 4, 2) := by decide +kernel
theorem dX5_mesh_20 : decode cX5_mesh 20 = .ok (.ifCond .lt 13, 3) := by decide +kernel
theorem dX5_mesh_23 : decode cX5_mesh 23 = .ok (.iload 4, 2) := by decide +kernel
theorem dX5_mesh_25 : decode cX5_mesh 25 = .ok (.aload 6, 2) := by decide +kernel
theorem dX5_mesh_27 : decode cX5_mesh 27 = .ok (.getfield 110, 3) := by decide +kernel
theorem dX5_mesh_30 : decode cX5_mesh 30 = .ok (.if_icmp .lt 13, 3) := by decide +kernel
theorem dX5_mesh_33 : decode cX5_mesh 33 = .ok (.new 55, 3) := by decide +kernel
theorem dX5_mesh_36 : decode cX5_mesh 36 = .ok (.dup, 1) := by decide +kernel
theorem dX5_mesh_37 : decode cX5_mesh 37 = .ok (.ldc 253, 2) := by decide +kernel
theorem dX5_mesh_39 : decode cX5_mesh 39 = .ok (.invokespecial 59, 3) := by decide +kernel
theorem dX5_mesh_42 : decode cX5_mesh 42 = .ok (.athrow, 1) := by decide +kernel
theorem dX5_mesh_43 : decode cX5_mesh 43 = .ok (.aload_n 0, 1) := by decide +kernel
theorem dX5_mesh_44 : decode cX5_mesh 44 = .ok (.getfield 33, 3) := by decide +kernel
theorem dX5_mesh_47 : decode cX5_mesh 47 = .ok (.aload 5, 2) := by decide +kernel
theorem dX5_mesh_49 : decode cX5_mesh 49 = .ok (.aload 6, 2) := by decide +kernel
theorem dX5_mesh_51 : decode cX5_mesh 51 = .ok (.iload_n 3, 1) := by decide +kernel
theorem dX5_mesh_52 : decode cX5_mesh 52 = .ok (.invokevirtual 255, 3) := by decide +kernel
theorem dX5_mesh_55 : decode cX5_mesh 55 = .ok (.aload_n 0, 1) := by decide +kernel
theorem dX5_mesh_56 : decode cX5_mesh 56 = .ok (.getfield 33, 3) := by decide +kernel
theorem dX5_mesh_59 : decode cX5_mesh 59 = .ok (.iload 4, 2) := by decide +kernel
theorem dX5_mesh_61 : decode cX5_mesh 61 = .ok (.invokevirtual 259, 3) := by decide +kernel
theorem dX5_mesh_64 : decode cX5_mesh 64 = .ok (.ireturn, 1) := by decide +kernel
theorem dX5_bestPhase_0 : decode cX5_bestPhase 0 = .ok (.aload_n 0, 1) := by decide +kernel
theorem dX5_bestPhase_1 : decode cX5_bestPhase 1 = .ok (.iload_n 1, 1) := by decide +kernel
theorem dX5_bestPhase_2 : decode cX5_bestPhase 2 = .ok (.invokevirtual 78, 3) := by decide +kernel
theorem dX5_bestPhase_5 : decode cX5_bestPhase 5 = .ok (.astore 4, 2) := by decide +kernel
theorem dX5_bestPhase_7 : decode cX5_bestPhase 7 = .ok (.aload_n 0, 1) := by decide +kernel
theorem dX5_bestPhase_8 : decode cX5_bestPhase 8 = .ok (.iload_n 2, 1) := by decide +kernel
theorem dX5_bestPhase_9 : decode cX5_bestPhase 9 = .ok (.invokevirtual 78, 3) := by decide +kernel
theorem dX5_bestPhase_12 : decode cX5_bestPhase 12 = .ok (.astore 5, 2) := by decide +kernel
theorem dX5_bestPhase_14 : decode cX5_bestPhase 14 = .ok (.iload_n 3, 1) := by decide +kernel
theorem dX5_bestPhase_15 : decode cX5_bestPhase 15 = .ok (.invokestatic 143, 3) := by decide +kernel
theorem dX5_bestPhase_18 : decode cX5_bestPhase 18 = .ok (.aload_n 0, 1) := by decide +kernel
theorem dX5_bestPhase_19 : decode cX5_bestPhase 19 = .ok (.getfield 33, 3) := by decide +kernel
theorem dX5_bestPhase_22 : decode cX5_bestPhase 22 = .ok (.aload 4, 2) := by decide +kernel
theorem dX5_bestPhase_24 : decode cX5_bestPhase 24 = .ok (.aload 5, 2) := by decide +kernel
theorem dX5_bestPhase_26 : decode cX5_bestPhase 26 = .ok (.iload_n 3, 1) := by decide +kernel
theorem dX5_bestPhase_27 : decode cX5_bestPhase 27 = .ok (.invokevirtual 255, 3) := by decide +kernel
theorem dX5_bestPhase_30 : decode cX5_bestPhase 30 = .ok (.aload_n 0, 1) := by decide +kernel
theorem dX5_bestPhase_31 : decode cX5_bestPhase 31 = .ok (.getfield 33, 3) := by decide +kernel
theorem dX5_bestPhase_34 : decode cX5_bestPhase 34 = .ok (.invokevirtual 262, 3) := by decide +kernel
theorem dX5_bestPhase_37 : decode cX5_bestPhase 37 = .ok (.ireturn, 1) := by decide +kernel
theorem dX5_partner_0 : decode cX5_partner 0 = .ok (.aload_n 0, 1) := by decide +kernel
theorem dX5_partner_1 : decode cX5_partner 1 = .ok (.iload_n 1, 1) := by decide +kernel
theorem dX5_partner_2 : decode cX5_partner 2 = .ok (.invokevirtual 78, 3) := by decide +kernel
theorem dX5_partner_5 : decode cX5_partner 5 = .ok (.astore_n 3, 1) := by decide +kernel
theorem dX5_partner_6 : decode cX5_partner 6 = .ok (.iload_n 2, 1) := by decide +kernel
theorem dX5_partner_7 : decode cX5_partner 7 = .ok (.invokestatic 143, 3) := by decide +kernel
theorem dX5_partner_10 : decode cX5_partner 10 = .ok (.iconst (-1), 1) := by decide +kernel
theorem dX5_partner_11 : decode cX5_partner 11 = .ok (.istore 4, 2) := by decide +kernel
theorem dX5_partner_13 : decode cX5_partner 13 = .ok (.iconst 0, 1) := by decide +kernel
theorem dX5_partner_14 : decode cX5_partner 14 = .ok (.istore 5, 2) := by decide +kernel
theorem dX5_partner_16 : decode cX5_partner 16 = .ok (.iconst 0, 1) := by decide +kernel
theorem dX5_partner_17 : decode cX5_partner 17 = .ok (.istore 6, 2) := by decide +kernel
theorem dX5_partner_19 : decode cX5_partner 19 = .ok (.iload 6, 2) := by decide +kernel
theorem dX5_partner_21 : decode cX5_partner 21 = .ok (.aload_n 0, 1) := by decide +kernel
theorem dX5_partner_22 : decode cX5_partner 22 = .ok (.getfield 10, 3) := by decide +kernel
theorem dX5_partner_25 : decode cX5_partner 25 = .ok (.getfield 62, 3) := by decide +kernel
theorem dX5_partner_28 : decode cX5_partner 28 = .ok (.if_icmp .ge 71, 3) := by decide +kernel
theorem dX5_partner_31 : decode cX5_partner 31 = .ok (.iload 6, 2) := by decide +kernel
theorem dX5_partner_33 : decode cX5_partner 33 = .ok (.iload_n 1, 1) := by decide +kernel
theorem dX5_partner_34 : decode cX5_partner 34 = .ok (.if_icmp .eq 59, 3) := by decide +kernel
theorem dX5_partner_37 : decode cX5_partner 37 = .ok (.aload_n 0, 1) := by decide +kernel
theorem dX5_partner_38 : decode cX5_partner 38 = .ok (.getfield 33, 3) := by decide +kernel
theorem dX5_partner_41 : decode cX5_partner 41 = .ok (.aload_n 3, 1) := by decide +kernel
theorem dX5_partner_42 : decode cX5_partner 42 = .ok (.aload_n 0, 1) := by decide +kernel
theorem dX5_partner_43 : decode cX5_partner 43 = .ok (.getfield 10, 3) := by decide +kernel
theorem dX5_partner_46 : decode cX5_partner 46 = .ok (.getfield 265, 3) := by decide +kernel
theorem dX5_partner_49 : decode cX5_partner 49 = .ok (.iload 6, 2) := by decide +kernel
theorem dX5_partner_51 : decode cX5_partner 51 = .ok (.aaload, 1) := by decide +kernel
theorem dX5_partner_52 : decode cX5_partner 52 = .ok (.iload_n 2, 1) := by decide +kernel
theorem dX5_partner_53 : decode cX5_partner 53 = .ok (.invokevirtual 255, 3) := by decide +kernel
theorem dX5_partner_56 : decode cX5_partner 56 = .ok (.aload_n 0, 1) := by decide +kernel
theorem dX5_partner_57 : decode cX5_partner 57 = .ok (.getfield 33, 3) := by decide +kernel
theorem dX5_partner_60 : decode cX5_partner 60 = .ok (.aload_n 0, 1) := by decide +kernel
theorem dX5_partner_61 : decode cX5_partner 61 = .ok (.getfield 33, 3) := by decide +kernel
theorem dX5_partner_64 : decode cX5_partner 64 = .ok (.invokevirtual 262, 3) := by decide +kernel
theorem dX5_partner_67 : decode cX5_partner 67 = .ok (.invokevirtual 259, 3) := by decide +kernel
theorem dX5_partner_70 : decode cX5_partner 70 = .ok (.istore 7, 2) := by decide +kernel
theorem dX5_partner_72 : decode cX5_partner 72 = .ok (.iload 4, 2) := by decide +kernel
theorem dX5_partner_74 : decode cX5_partner 74 = .ok (.iconst (-1), 1) := by decide +kernel
theorem dX5_partner_75 : decode cX5_partner 75 = .ok (.if_icmp .eq 10, 3) := by decide +kernel
theorem dX5_partner_78 : decode cX5_partner 78 = .ok (.iload 7, 2) := by decide +kernel
theorem dX5_partner_80 : decode cX5_partner 80 = .ok (.iload 5, 2) := by decide +kernel
theorem dX5_partner_82 : decode cX5_partner 82 = .ok (.if_icmp .ge 11, 3) := by decide +kernel
theorem dX5_partner_85 : decode cX5_partner 85 = .ok (.iload 6, 2) := by decide +kernel
theorem dX5_partner_87 : decode cX5_partner 87 = .ok (.istore 4, 2) := by decide +kernel
theorem dX5_partner_89 : decode cX5_partner 89 = .ok (.iload 7, 2) := by decide +kernel
theorem dX5_partner_91 : decode cX5_partner 91 = .ok (.istore 5, 2) := by decide +kernel
theorem dX5_partner_93 : decode cX5_partner 93 = .ok (.iinc 6 1, 3) := by decide +kernel
theorem dX5_partner_96 : decode cX5_partner 96 = .ok (.goto (-77), 3) := by decide +kernel
theorem dX5_partner_99 : decode cX5_partner 99 = .ok (.iload 4, 2) := by decide +kernel
theorem dX5_partner_101 : decode cX5_partner 101 = .ok (.ireturn, 1) := by decide +kernel
theorem dX5_mean_0 : decode cX5_mean 0 = .ok (.iload_n 1, 1) := by decide +kernel
theorem dX5_mean_1 : decode cX5_mean 1 = .ok (.invokestatic 167, 3) := by decide +kernel
theorem dX5_mean_4 : decode cX5_mean 4 = .ok (.aload_n 0, 1) := by decide +kernel
theorem dX5_mean_5 : decode cX5_mean 5 = .ok (.getfield 10, 3) := by decide +kernel
theorem dX5_mean_8 : decode cX5_mean 8 = .ok (.getfield 62, 3) := by decide +kernel
theorem dX5_mean_11 : decode cX5_mean 11 = .ok (.iconst 1, 1) := by decide +kernel
theorem dX5_mean_12 : decode cX5_mean 12 = .ok (.if_icmp .ge 5, 3) := by decide +kernel
theorem dX5_mean_15 : decode cX5_mean 15 = .ok (.dconst 0, 1) := by decide +kernel
theorem dX5_mean_16 : decode cX5_mean 16 = .ok (.dreturn, 1) := by decide +kernel
theorem dX5_mean_17 : decode cX5_mean 17 = .ok (.iconst 0, 1) := by decide +kernel
theorem dX5_mean_18 : decode cX5_mean 18 = .ok (.istore_n 2, 1) := by decide +kernel
theorem dX5_mean_19 : decode cX5_mean 19 = .ok (.iconst 0, 1) := by decide +kernel
theorem dX5_mean_20 : decode cX5_mean 20 = .ok (.istore_n 3, 1) := by decide +kernel
theorem dX5_mean_21 : decode cX5_mean 21 = .ok (.iload_n 3, 1) := by decide +kernel
theorem dX5_mean_22 : decode cX5_mean 22 = .ok (.aload_n 0, 1) := by decide +kernel
theorem dX5_mean_23 : decode cX5_mean 23 = .ok (.getfield 10, 3) := by decide +kernel
theorem dX5_mean_26 : decode cX5_mean 26 = .ok (.getfield 62, 3) := by decide +kernel
theorem dX5_mean_29 : decode cX5_mean 29 = .ok (.if_icmp .ge 21, 3) := by decide +kernel
theorem dX5_mean_32 : decode cX5_mean 32 = .ok (.iload_n 2, 1) := by decide +kernel
theorem dX5_mean_33 : decode cX5_mean 33 = .ok (.aload_n 0, 1) := by decide +kernel
theorem dX5_mean_34 : decode cX5_mean 34 = .ok (.getfield 10, 3) := by decide +kernel
theorem dX5_mean_37 : decode cX5_mean 37 = .ok (.iload_n 3, 1) := by decide +kernel
theorem dX5_mean_38 : decode cX5_mean 38 = .ok (.iload_n 1, 1) := by decide +kernel
theorem dX5_mean_39 : decode cX5_mean 39 = .ok (.invokevirtual 170, 3) := by decide +kernel
theorem dX5_mean_42 : decode cX5_mean 42 = .ok (.iadd, 1) := by decide +kernel
theorem dX5_mean_43 : decode cX5_mean 43 = .ok (.istore_n 2, 1) := by decide +kernel
theorem dX5_mean_44 : decode cX5_mean 44 = .ok (.iinc 3 1, 3) := by decide +kernel
theorem dX5_mean_47 : decode cX5_mean 47 = .ok (.goto (-26), 3) := by decide +kernel
theorem dX5_mean_50 : decode cX5_mean 50 = .ok (.iload_n 2, 1) := by decide +kernel
theorem dX5_mean_51 : decode cX5_mean 51 = .ok (.i2d, 1) := by decide +kernel
theorem dX5_mean_52 : decode cX5_mean 52 = .ok (.aload_n 0, 1) := by decide +kernel
theorem dX5_mean_53 : decode cX5_mean 53 = .ok (.getfield 10, 3) := by decide +kernel
theorem dX5_mean_56 : decode cX5_mean 56 = .ok (.getfield 62, 3) := by decide +kernel
theorem dX5_mean_59 : decode cX5_mean 59 = .ok (.i2d, 1) := by decide +kernel
theorem dX5_mean_60 : decode cX5_mean 60 = .ok (.ddiv, 1) := by decide +kernel
theorem dX5_mean_61 : decode cX5_mean 61 = .ok (.dreturn, 1) := by decide +kernel
theorem dX5_ranked_0 : decode cX5_ranked 0 = .ok (.iload_n 1, 1) := by decide +kernel
theorem dX5_ranked_1 : decode cX5_ranked 1 = .ok (.ifCond .lt 14, 3) := by decide +kernel
theorem dX5_ranked_4 : decode cX5_ranked 4 = .ok (.iload_n 1, 1) := by decide +kernel
theorem dX5_ranked_5 : decode cX5_ranked 5 = .ok (.aload_n 0, 1) := by decide +kernel
theorem dX5_ranked_6 : decode cX5_ranked 6 = .ok (.getfield 10, 3) := by decide +kernel
theorem dX5_ranked_9 : decode cX5_ranked 9 = .ok (.getfield 62, 3) := by decide +kernel
theorem dX5_ranked_12 : decode cX5_ranked 12 = .ok (.if_icmp .lt 14, 3) := by decide +kernel
theorem dX5_ranked_15 : decode cX5_ranked 15 = .ok (.new 113, 3) := by decide +kernel
theorem dX5_ranked_18 : decode cX5_ranked 18 = .ok (.dup, 1) := by decide +kernel
theorem dX5_ranked_19 : decode cX5_ranked 19 = .ok (.ldc_w 269, 3) := by decide +kernel
theorem dX5_ranked_22 : decode cX5_ranked 22 = .ok (.invokespecial 117, 3) := by decide +kernel
theorem dX5_ranked_25 : decode cX5_ranked 25 = .ok (.athrow, 1) := by decide +kernel
theorem dX5_ranked_26 : decode cX5_ranked 26 = .ok (.iconst 0, 1) := by decide +kernel
theorem dX5_ranked_27 : decode cX5_ranked 27 = .ok (.istore_n 2, 1) := by decide +kernel
theorem dX5_ranked_28 : decode cX5_ranked 28 = .ok (.iload_n 2, 1) := by decide +kernel
theorem dX5_ranked_29 : decode cX5_ranked 29 = .ok (.aload_n 0, 1) := by decide +kernel
theorem dX5_ranked_30 : decode cX5_ranked 30 = .ok (.getfield 10, 3) := by decide +kernel
theorem dX5_ranked_33 : decode cX5_ranked 33 = .ok (.getfield 62, 3) := by decide +kernel
theorem dX5_ranked_36 : decode cX5_ranked 36 = .ok (.if_icmp .ge 35, 3) := by decide +kernel
theorem dX5_ranked_39 : decode cX5_ranked 39 = .ok (.aload_n 0, 1) := by decide +kernel
theorem dX5_ranked_40 : decode cX5_ranked 40 = .ok (.getfield 44, 3) := by decide +kernel
theorem dX5_ranked_43 : decode cX5_ranked 43 = .ok (.iload_n 2, 1) := by decide +kernel
theorem dX5_ranked_44 : decode cX5_ranked 44 = .ok (.aload_n 0, 1) := by decide +kernel
theorem dX5_ranked_45 : decode cX5_ranked 45 = .ok (.iload_n 2, 1) := by decide +kernel
theorem dX5_ranked_46 : decode cX5_ranked 46 = .ok (.invokevirtual 138, 3) := by decide +kernel
theorem dX5_ranked_49 : decode cX5_ranked 49 = .ok (.iastore, 1) := by decide +kernel
theorem dX5_ranked_50 : decode cX5_ranked 50 = .ok (.aload_n 0, 1) := by decide +kernel
theorem dX5_ranked_51 : decode cX5_ranked 51 = .ok (.getfield 48, 3) := by decide +kernel
theorem dX5_ranked_54 : decode cX5_ranked 54 = .ok (.iload_n 2, 1) := by decide +kernel
theorem dX5_ranked_55 : decode cX5_ranked 55 = .ok (.aload_n 0, 1) := by decide +kernel
theorem dX5_ranked_56 : decode cX5_ranked 56 = .ok (.getfield 10, 3) := by decide +kernel
theorem dX5_ranked_59 : decode cX5_ranked 59 = .ok (.iload_n 2, 1) := by decide +kernel
theorem dX5_ranked_60 : decode cX5_ranked 60 = .ok (.iconst 1, 1) := by decide +kernel
theorem dX5_ranked_61 : decode cX5_ranked 61 = .ok (.invokevirtual 170, 3) := by decide +kernel
theorem dX5_ranked_64 : decode cX5_ranked 64 = .ok (.iastore, 1) := by decide +kernel
theorem dX5_ranked_65 : decode cX5_ranked 65 = .ok (.iinc 2 1, 3) := by decide +kernel
theorem dX5_ranked_68 : decode cX5_ranked 68 = .ok (.goto (-40), 3) := by decide +kernel
theorem dX5_ranked_71 : decode cX5_ranked 71 = .ok (.iconst 0, 1) := by decide +kernel
theorem dX5_ranked_72 : decode cX5_ranked 72 = .ok (.istore_n 2, 1) := by decide +kernel
theorem dX5_ranked_73 : decode cX5_ranked 73 = .ok (.iconst 0, 1) := by decide +kernel
theorem dX5_ranked_74 : decode cX5_ranked 74 = .ok (.istore_n 3, 1) := by decide +kernel
theorem dX5_ranked_75 : decode cX5_ranked 75 = .ok (.iload_n 3, 1) := by decide +kernel
theorem dX5_ranked_76 : decode cX5_ranked 76 = .ok (.aload_n 0, 1) := by decide +kernel
theorem dX5_ranked_77 : decode cX5_ranked 77 = .ok (.getfield 10, 3) := by decide +kernel
theorem dX5_ranked_80 : decode cX5_ranked 80 = .ok (.getfield 62, 3) := by decide +kernel
theorem dX5_ranked_83 : decode cX5_ranked 83 = .ok (.if_icmp .ge 20, 3) := by decide +kernel
theorem dX5_ranked_86 : decode cX5_ranked 86 = .ok (.aload_n 0, 1) := by decide +kernel
theorem dX5_ranked_87 : decode cX5_ranked 87 = .ok (.iload_n 3, 1) := by decide +kernel
theorem dX5_ranked_88 : decode cX5_ranked 88 = .ok (.invokevirtual 271, 3) := by decide +kernel
theorem dX5_ranked_91 : decode cX5_ranked 91 = .ok (.iload_n 1, 1) := by decide +kernel
theorem dX5_ranked_92 : decode cX5_ranked 92 = .ok (.if_icmp .ne 5, 3) := by decide +kernel
theorem dX5_ranked_95 : decode cX5_ranked 95 = .ok (.iload_n 3, 1) := by decide +kernel
theorem dX5_ranked_96 : decode cX5_ranked 96 = .ok (.istore_n 2, 1) := by decide +kernel
theorem dX5_ranked_97 : decode cX5_ranked 97 = .ok (.iinc 3 1, 3) := by decide +kernel
theorem dX5_ranked_100 : decode cX5_ranked 100 = .ok (.goto (-25), 3) := by decide +kernel
theorem dX5_ranked_103 : decode cX5_ranked 103 = .ok (.iload_n 2, 1) := by decide +kernel
theorem dX5_ranked_104 : decode cX5_ranked 104 = .ok (.ireturn, 1) := by decide +kernel
theorem dX5_append_0 : decode cX5_append 0 = .ok (.iload_n 1, 1) := by decide +kernel
theorem dX5_append_1 : decode cX5_append 1 = .ok (.ifCond .lt 9, 3) := by decide +kernel
theorem dX5_append_4 : decode cX5_append 4 = .ok (.iload_n 1, 1) := by decide +kernel
theorem dX5_append_5 : decode cX5_append 5 = .ok (.bipush 127, 2) := by decide +kernel
theorem dX5_append_7 : decode cX5_append 7 = .ok (.if_icmp .le 13, 3) := by decide +kernel
theorem dX5_append_10 : decode cX5_append 10 = .ok (.new 55, 3) := by decide +kernel
theorem dX5_append_13 : decode cX5_append 13 = .ok (.dup, 1) := by decide +kernel
theorem dX5_append_14 : decode cX5_append 14 = .ok (.ldc 94, 2) := by decide +kernel
theorem dX5_append_16 : decode cX5_append 16 = .ok (.invokespecial 59, 3) := by decide +kernel
theorem dX5_append_19 : decode cX5_append 19 = .ok (.athrow, 1) := by decide +kernel
theorem dX5_append_20 : decode cX5_append 20 = .ok (.aload_n 0, 1) := by decide +kernel
theorem dX5_append_21 : decode cX5_append 21 = .ok (.getfield 26, 3) := by decide +kernel
theorem dX5_append_24 : decode cX5_append 24 = .ok (.getfield 274, 3) := by decide +kernel
theorem dX5_append_27 : decode cX5_append 27 = .ok (.sipush 160, 3) := by decide +kernel
theorem dX5_append_30 : decode cX5_append 30 = .ok (.if_icmp .lt 14, 3) := by decide +kernel
theorem dX5_append_33 : decode cX5_append 33 = .ok (.new 66, 3) := by decide +kernel
theorem dX5_append_36 : decode cX5_append 36 = .ok (.dup, 1) := by decide +kernel
theorem dX5_append_37 : decode cX5_append 37 = .ok (.ldc_w 277, 3) := by decide +kernel
theorem dX5_append_40 : decode cX5_append 40 = .ok (.invokespecial 70, 3) := by decide +kernel
theorem dX5_append_43 : decode cX5_append 43 = .ok (.athrow, 1) := by decide +kernel
theorem dX5_append_44 : decode cX5_append 44 = .ok (.aload_n 0, 1) := by decide +kernel
theorem dX5_append_45 : decode cX5_append 45 = .ok (.getfield 26, 3) := by decide +kernel
theorem dX5_append_48 : decode cX5_append 48 = .ok (.getfield 279, 3) := by decide +kernel
theorem dX5_append_51 : decode cX5_append 51 = .ok (.aload_n 0, 1) := by decide +kernel
theorem dX5_append_52 : decode cX5_append 52 = .ok (.getfield 26, 3) := by decide +kernel
theorem dX5_append_55 : decode cX5_append 55 = .ok (.getfield 274, 3) := by decide +kernel
theorem dX5_append_58 : decode cX5_append 58 = .ok (.iload_n 1, 1) := by decide +kernel
theorem dX5_append_59 : decode cX5_append 59 = .ok (.iastore, 1) := by decide +kernel
theorem dX5_append_60 : decode cX5_append 60 = .ok (.aload_n 0, 1) := by decide +kernel
theorem dX5_append_61 : decode cX5_append 61 = .ok (.getfield 26, 3) := by decide +kernel
theorem dX5_append_64 : decode cX5_append 64 = .ok (.dup, 1) := by decide +kernel
theorem dX5_append_65 : decode cX5_append 65 = .ok (.getfield 274, 3) := by decide +kernel
theorem dX5_append_68 : decode cX5_append 68 = .ok (.iconst 1, 1) := by decide +kernel
theorem dX5_append_69 : decode cX5_append 69 = .ok (.iadd, 1) := by decide +kernel
theorem dX5_append_70 : decode cX5_append 70 = .ok (.putfield 274, 3) := by decide +kernel
theorem dX5_append_73 : decode cX5_append 73 = .ok (.aload_n 0, 1) := by decide +kernel
theorem dX5_append_74 : decode cX5_append 74 = .ok (.getfield 26, 3) := by decide +kernel
theorem dX5_append_77 : decode cX5_append 77 = .ok (.getfield 274, 3) := by decide +kernel
theorem dX5_append_80 : decode cX5_append 80 = .ok (.ireturn, 1) := by decide +kernel
theorem dX5_clearText_0 : decode cX5_clearText 0 = .ok (.aload_n 0, 1) := by decide +kernel
theorem dX5_clearText_1 : decode cX5_clearText 1 = .ok (.getfield 26, 3) := by decide +kernel
theorem dX5_clearText_4 : decode cX5_clearText 4 = .ok (.getfield 274, 3) := by decide +kernel
theorem dX5_clearText_7 : decode cX5_clearText 7 = .ok (.istore_n 1, 1) := by decide +kernel
theorem dX5_clearText_8 : decode cX5_clearText 8 = .ok (.aload_n 0, 1) := by decide +kernel
theorem dX5_clearText_9 : decode cX5_clearText 9 = .ok (.getfield 26, 3) := by decide +kernel
theorem dX5_clearText_12 : decode cX5_clearText 12 = .ok (.iconst 0, 1) := by decide +kernel
theorem dX5_clearText_13 : decode cX5_clearText 13 = .ok (.putfield 274, 3) := by decide +kernel
theorem dX5_clearText_16 : decode cX5_clearText 16 = .ok (.iload_n 1, 1) := by decide +kernel
theorem dX5_clearText_17 : decode cX5_clearText 17 = .ok (.ireturn, 1) := by decide +kernel
theorem dX5_parse_0 : decode cX5_parse 0 = .ok (.aload_n 0, 1) := by decide +kernel
theorem dX5_parse_1 : decode cX5_parse 1 = .ok (.getfield 26, 3) := by decide +kernel
theorem dX5_parse_4 : decode cX5_parse 4 = .ok (.invokevirtual 282, 3) := by decide +kernel
theorem dX5_parse_7 : decode cX5_parse 7 = .ok (.istore_n 1, 1) := by decide +kernel
theorem dX5_parse_8 : decode cX5_parse 8 = .ok (.iload_n 1, 1) := by decide +kernel
theorem dX5_parse_9 : decode cX5_parse 9 = .ok (.iconst (-1), 1) := by decide +kernel
theorem dX5_parse_10 : decode cX5_parse 10 = .ok (.if_icmp .eq 8, 3) := by decide +kernel
theorem dX5_parse_13 : decode cX5_parse 13 = .ok (.bipush (-10), 2) := by decide +kernel
theorem dX5_parse_15 : decode cX5_parse 15 = .ok (.iload_n 1, 1) := by decide +kernel
theorem dX5_parse_16 : decode cX5_parse 16 = .ok (.isub, 1) := by decide +kernel
theorem dX5_parse_17 : decode cX5_parse 17 = .ok (.ireturn, 1) := by decide +kernel
theorem dX5_parse_18 : decode cX5_parse 18 = .ok (.aload_n 0, 1) := by decide +kernel
theorem dX5_parse_19 : decode cX5_parse 19 = .ok (.getfield 16, 3) := by decide +kernel
theorem dX5_parse_22 : decode cX5_parse 22 = .ok (.aload_n 0, 1) := by decide +kernel
theorem dX5_parse_23 : decode cX5_parse 23 = .ok (.getfield 10, 3) := by decide +kernel
theorem dX5_parse_26 : decode cX5_parse 26 = .ok (.invokevirtual 285, 3) := by decide +kernel
theorem dX5_parse_29 : decode cX5_parse 29 = .ok (.iconst 0, 1) := by decide +kernel
theorem dX5_parse_30 : decode cX5_parse 30 = .ok (.istore_n 2, 1) := by decide +kernel
theorem dX5_parse_31 : decode cX5_parse 31 = .ok (.aload_n 0, 1) := by decide +kernel
theorem dX5_parse_32 : decode cX5_parse 32 = .ok (.getfield 26, 3) := by decide +kernel
theorem dX5_parse_35 : decode cX5_parse 35 = .ok (.invokevirtual 288, 3) := by decide +kernel
theorem dX5_parse_38 : decode cX5_parse 38 = .ok (.iconst 0, 1) := by decide +kernel
theorem dX5_parse_39 : decode cX5_parse 39 = .ok (.istore_n 3, 1) := by decide +kernel
theorem dX5_parse_40 : decode cX5_parse 40 = .ok (.iload_n 3, 1) := by decide +kernel
theorem dX5_parse_41 : decode cX5_parse 41 = .ok (.sipush 160, 3) := by decide +kernel
theorem dX5_parse_44 : decode cX5_parse 44 = .ok (.if_icmp .ge 42, 3) := by decide +kernel
theorem dX5_parse_47 : decode cX5_parse 47 = .ok (.aload_n 0, 1) := by decide +kernel
theorem dX5_parse_48 : decode cX5_parse 48 = .ok (.getfield 26, 3) := by decide +kernel
theorem dX5_parse_51 : decode cX5_parse 51 = .ok (.invokevirtual 291, 3) := by decide +kernel
theorem dX5_parse_54 : decode cX5_parse 54 = .ok (.ifCond .eq 32, 3) := by decide +kernel
theorem dX5_parse_57 : decode cX5_parse 57 = .ok (.aload_n 0, 1) := by decide +kernel
theorem dX5_parse_58 : decode cX5_parse 58 = .ok (.getfield 16, 3) := by decide +kernel
theorem dX5_parse_61 : decode cX5_parse 61 = .ok (.aload_n 0, 1) := by decide +kernel
theorem dX5_parse_62 : decode cX5_parse 62 = .ok (.getfield 26, 3) := by decide +kernel
theorem dX5_parse_65 : decode cX5_parse 65 = .ok (.invokevirtual 294, 3) := by decide +kernel
theorem dX5_parse_68 : decode cX5_parse 68 = .ok (.ifCond .ne 9, 3) := by decide +kernel
theorem dX5_parse_71 : decode cX5_parse 71 = .ok (.sipush (-1000), 3) := by decide +kernel
theorem dX5_parse_74 : decode cX5_parse 74 = .ok (.iload_n 2, 1) := by decide +kernel
theorem dX5_parse_75 : decode cX5_parse 75 = .ok (.isub, 1) := by decide +kernel
theorem dX5_parse_76 : decode cX5_parse 76 = .ok (.ireturn, 1) := by decide +kernel
theorem dX5_parse_77 : decode cX5_parse 77 = .ok (.iinc 2 1, 3) := by decide +kernel
theorem dX5_parse_80 : decode cX5_parse 80 = .ok (.iinc 3 1, 3) := by decide +kernel
theorem dX5_parse_83 : decode cX5_parse 83 = .ok (.goto (-43), 3) := by decide +kernel
theorem dX5_parse_86 : decode cX5_parse 86 = .ok (.aload_n 0, 1) := by decide +kernel
theorem dX5_parse_87 : decode cX5_parse 87 = .ok (.invokevirtual 71, 3) := by decide +kernel
theorem dX5_parse_90 : decode cX5_parse 90 = .ok (.aload_n 0, 1) := by decide +kernel
theorem dX5_parse_91 : decode cX5_parse 91 = .ok (.getfield 10, 3) := by decide +kernel
theorem dX5_parse_94 : decode cX5_parse 94 = .ok (.aload_n 0, 1) := by decide +kernel
theorem dX5_parse_95 : decode cX5_parse 95 = .ok (.getfield 16, 3) := by decide +kernel
theorem dX5_parse_98 : decode cX5_parse 98 = .ok (.invokevirtual 285, 3) := by decide +kernel
theorem dX5_parse_101 : decode cX5_parse 101 = .ok (.iload_n 2, 1) := by decide +kernel
theorem dX5_parse_102 : decode cX5_parse 102 = .ok (.ireturn, 1) := by decide +kernel
theorem dX5_undo_0 : decode cX5_undo 0 = .ok (.aload_n 0, 1) := by decide +kernel
theorem dX5_undo_1 : decode cX5_undo 1 = .ok (.getfield 298, 3) := by decide +kernel
theorem dX5_undo_4 : decode cX5_undo 4 = .ok (.iconst 1, 1) := by decide +kernel
theorem dX5_undo_5 : decode cX5_undo 5 = .ok (.if_icmp .ge 14, 3) := by decide +kernel
theorem dX5_undo_8 : decode cX5_undo 8 = .ok (.new 66, 3) := by decide +kernel
theorem dX5_undo_11 : decode cX5_undo 11 = .ok (.dup, 1) := by decide +kernel
theorem dX5_undo_12 : decode cX5_undo 12 = .ok (.ldc_w 301, 3) := by decide +kernel
theorem dX5_undo_15 : decode cX5_undo 15 = .ok (.invokespecial 70, 3) := by decide +kernel
theorem dX5_undo_18 : decode cX5_undo 18 = .ok (.athrow, 1) := by decide +kernel
theorem dX5_undo_19 : decode cX5_undo 19 = .ok (.aload_n 0, 1) := by decide +kernel
theorem dX5_undo_20 : decode cX5_undo 20 = .ok (.dup, 1) := by decide +kernel
theorem dX5_undo_21 : decode cX5_undo 21 = .ok (.getfield 298, 3) := by decide +kernel
theorem dX5_undo_24 : decode cX5_undo 24 = .ok (.iconst 1, 1) := by decide +kernel
theorem dX5_undo_25 : decode cX5_undo 25 = .ok (.isub, 1) := by decide +kernel
theorem dX5_undo_26 : decode cX5_undo 26 = .ok (.putfield 298, 3) := by decide +kernel
theorem dX5_undo_29 : decode cX5_undo 29 = .ok (.aload_n 0, 1) := by decide +kernel
theorem dX5_undo_30 : decode cX5_undo 30 = .ok (.getfield 10, 3) := by decide +kernel
theorem dX5_undo_33 : decode cX5_undo 33 = .ok (.aload_n 0, 1) := by decide +kernel
theorem dX5_undo_34 : decode cX5_undo 34 = .ok (.getfield 19, 3) := by decide +kernel
theorem dX5_undo_37 : decode cX5_undo 37 = .ok (.aload_n 0, 1) := by decide +kernel
theorem dX5_undo_38 : decode cX5_undo 38 = .ok (.getfield 298, 3) := by decide +kernel
theorem dX5_undo_41 : decode cX5_undo 41 = .ok (.aaload, 1) := by decide +kernel
theorem dX5_undo_42 : decode cX5_undo 42 = .ok (.invokevirtual 285, 3) := by decide +kernel
theorem dX5_undo_45 : decode cX5_undo 45 = .ok (.aload_n 0, 1) := by decide +kernel
theorem dX5_undo_46 : decode cX5_undo 46 = .ok (.getfield 298, 3) := by decide +kernel
theorem dX5_undo_49 : decode cX5_undo 49 = .ok (.ireturn, 1) := by decide +kernel
theorem dX5_digest_0 : decode cX5_digest 0 = .ok (.ldc2_w 303, 3) := by decide +kernel
theorem dX5_digest_3 : decode cX5_digest 3 = .ok (.aload_n 0, 1) := by decide +kernel
theorem dX5_digest_4 : decode cX5_digest 4 = .ok (.getfield 26, 3) := by decide +kernel
theorem dX5_digest_7 : decode cX5_digest 7 = .ok (.getfield 274, 3) := by decide +kernel
theorem dX5_digest_10 : decode cX5_digest 10 = .ok (.invokestatic 305, 3) := by decide +kernel
theorem dX5_digest_13 : decode cX5_digest 13 = .ok (.lstore_n 1, 1) := by decide +kernel
theorem dX5_digest_14 : decode cX5_digest 14 = .ok (.lload_n 1, 1) := by decide +kernel
theorem dX5_digest_15 : decode cX5_digest 15 = .ok (.aload_n 0, 1) := by decide +kernel
theorem dX5_digest_16 : decode cX5_digest 16 = .ok (.getfield 10, 3) := by decide +kernel
theorem dX5_digest_19 : decode cX5_digest 19 = .ok (.getfield 62, 3) := by decide +kernel
theorem dX5_digest_22 : decode cX5_digest 22 = .ok (.invokestatic 305, 3) := by decide +kernel
theorem dX5_digest_25 : decode cX5_digest 25 = .ok (.lstore_n 1, 1) := by decide +kernel
theorem dX5_digest_26 : decode cX5_digest 26 = .ok (.iconst 0, 1) := by decide +kernel
theorem dX5_digest_27 : decode cX5_digest 27 = .ok (.istore_n 3, 1) := by decide +kernel
theorem dX5_digest_28 : decode cX5_digest 28 = .ok (.iload_n 3, 1) := by decide +kernel
theorem dX5_digest_29 : decode cX5_digest 29 = .ok (.aload_n 0, 1) := by decide +kernel
theorem dX5_digest_30 : decode cX5_digest 30 = .ok (.getfield 10, 3) := by decide +kernel
theorem dX5_digest_33 : decode cX5_digest 33 = .ok (.getfield 62, 3) := by decide +kernel
theorem dX5_digest_36 : decode cX5_digest 36 = .ok (.if_icmp .ge 162, 3) := by decide +kernel
theorem dX5_digest_39 : decode cX5_digest 39 = .ok (.aload_n 0, 1) := by decide +kernel
theorem dX5_digest_40 : decode cX5_digest 40 = .ok (.getfield 10, 3) := by decide +kernel
theorem dX5_digest_43 : decode cX5_digest 43 = .ok (.getfield 265, 3) := by decide +kernel
theorem dX5_digest_46 : decode cX5_digest 46 = .ok (.iload_n 3, 1) := by decide +kernel
theorem dX5_digest_47 : decode cX5_digest 47 = .ok (.aaload, 1) := by decide +kernel
theorem dX5_digest_48 : decode cX5_digest 48 = .ok (.astore 4, 2) := by decide +kernel
theorem dX5_digest_50 : decode cX5_digest 50 = .ok (.lload_n 1, 1) := by decide +kernel
theorem dX5_digest_51 : decode cX5_digest 51 = .ok (.aload 4, 2) := by decide +kernel
theorem dX5_digest_53 : decode cX5_digest 53 = .ok (.getfield 110, 3) := by decide +kernel
theorem dX5_digest_56 : decode cX5_digest 56 = .ok (.invokestatic 305, 3) := by decide +kernel
theorem dX5_digest_59 : decode cX5_digest 59 = .ok (.aload 4, 2) := by decide +kernel
theorem dX5_digest_61 : decode cX5_digest 61 = .ok (.getfield 132, 3) := by decide +kernel
theorem dX5_digest_64 : decode cX5_digest 64 = .ok (.invokestatic 305, 3) := by decide +kernel
theorem dX5_digest_67 : decode cX5_digest 67 = .ok (.lstore_n 1, 1) := by decide +kernel
theorem dX5_digest_68 : decode cX5_digest 68 = .ok (.lload_n 1, 1) := by decide +kernel
theorem dX5_digest_69 : decode cX5_digest 69 = .ok (.aload_n 0, 1) := by decide +kernel
theorem dX5_digest_70 : decode cX5_digest 70 = .ok (.getfield 10, 3) := by decide +kernel
theorem dX5_digest_73 : decode cX5_digest 73 = .ok (.iload_n 3, 1) := by decide +kernel
theorem dX5_digest_74 : decode cX5_digest 74 = .ok (.invokevirtual 135, 3) := by decide +kernel
theorem dX5_digest_77 : decode cX5_digest 77 = .ok (.invokestatic 305, 3) := by decide +kernel
theorem dX5_digest_80 : decode cX5_digest 80 = .ok (.aload_n 0, 1) := by decide +kernel
theorem dX5_digest_81 : decode cX5_digest 81 = .ok (.iload_n 3, 1) := by decide +kernel
theorem dX5_digest_82 : decode cX5_digest 82 = .ok (.invokevirtual 138, 3) := by decide +kernel
theorem dX5_digest_85 : decode cX5_digest 85 = .ok (.invokestatic 305, 3) := by decide +kernel
theorem dX5_digest_88 : decode cX5_digest 88 = .ok (.lstore_n 1, 1) := by decide +kernel
theorem dX5_digest_89 : decode cX5_digest 89 = .ok (.lload_n 1, 1) := by decide +kernel
theorem dX5_digest_90 : decode cX5_digest 90 = .ok (.aload 4, 2) := by decide +kernel
theorem dX5_digest_92 : decode cX5_digest 92 = .ok (.iconst 0, 1) := by decide +kernel
theorem dX5_digest_93 : decode cX5_digest 93 = .ok (.invokevirtual 107, 3) := by decide +kernel
theorem dX5_digest_96 : decode cX5_digest 96 = .ok (.invokestatic 305, 3) := by decide +kernel
theorem dX5_digest_99 : decode cX5_digest 99 = .ok (.aload 4, 2) := by decide +kernel
theorem dX5_digest_101 : decode cX5_digest 101 = .ok (.iconst 1, 1) := by decide +kernel
theorem dX5_digest_102 : decode cX5_digest 102 = .ok (.invokevirtual 107, 3) := by decide +kernel
theorem dX5_digest_105 : decode cX5_digest 105 = .ok (.invokestatic 305, 3) := by decide +kernel
theorem dX5_digest_108 : decode cX5_digest 108 = .ok (.lstore_n 1, 1) := by decide +kernel
theorem dX5_digest_109 : decode cX5_digest 109 = .ok (.iconst 0, 1) := by decide +kernel
theorem dX5_digest_110 : decode cX5_digest 110 = .ok (.istore 5, 2) := by decide +kernel
theorem dX5_digest_112 : decode cX5_digest 112 = .ok (.iload 5, 2) := by decide +kernel
theorem dX5_digest_114 : decode cX5_digest 114 = .ok (.iconst 3, 1) := by decide +kernel
theorem dX5_digest_115 : decode cX5_digest 115 = .ok (.if_icmp .ge 46, 3) := by decide +kernel
theorem dX5_digest_118 : decode cX5_digest 118 = .ok (.iconst 0, 1) := by decide +kernel
theorem dX5_digest_119 : decode cX5_digest 119 = .ok (.istore 6, 2) := by decide +kernel
theorem dX5_digest_121 : decode cX5_digest 121 = .ok (.iload 6, 2) := by decide +kernel
theorem dX5_digest_123 : decode cX5_digest 123 = .ok (.aload 4, 2) := by decide +kernel
theorem dX5_digest_125 : decode cX5_digest 125 = .ok (.iload 5, 2) := by decide +kernel
theorem dX5_digest_127 : decode cX5_digest 127 = .ok (.invokevirtual 309, 3) := by decide +kernel
theorem dX5_digest_130 : decode cX5_digest 130 = .ok (.if_icmp .ge 25, 3) := by decide +kernel
theorem dX5_digest_133 : decode cX5_digest 133 = .ok (.lload_n 1, 1) := by decide +kernel
theorem dX5_digest_134 : decode cX5_digest 134 = .ok (.aload 4, 2) := by decide +kernel
theorem dX5_digest_136 : decode cX5_digest 136 = .ok (.getfield 96, 3) := by decide +kernel
theorem dX5_digest_139 : decode cX5_digest 139 = .ok (.iload 5, 2) := by decide +kernel
theorem dX5_digest_141 : decode cX5_digest 141 = .ok (.aaload, 1) := by decide +kernel
theorem dX5_digest_142 : decode cX5_digest 142 = .ok (.iload 6, 2) := by decide +kernel
theorem dX5_digest_144 : decode cX5_digest 144 = .ok (.iaload, 1) := by decide +kernel
theorem dX5_digest_145 : decode cX5_digest 145 = .ok (.invokestatic 305, 3) := by decide +kernel
theorem dX5_digest_148 : decode cX5_digest 148 = .ok (.lstore_n 1, 1) := by decide +kernel
theorem dX5_digest_149 : decode cX5_digest 149 = .ok (.iinc 6 1, 3) := by decide +kernel
theorem dX5_digest_152 : decode cX5_digest 152 = .ok (.goto (-31), 3) := by decide +kernel
theorem dX5_digest_155 : decode cX5_digest 155 = .ok (.iinc 5 1, 3) := by decide +kernel
theorem dX5_digest_158 : decode cX5_digest 158 = .ok (.goto (-46), 3) := by decide +kernel
theorem dX5_digest_161 : decode cX5_digest 161 = .ok (.iconst 0, 1) := by decide +kernel
theorem dX5_digest_162 : decode cX5_digest 162 = .ok (.istore 5, 2) := by decide +kernel
theorem dX5_digest_164 : decode cX5_digest 164 = .ok (.iload 5, 2) := by decide +kernel
theorem dX5_digest_166 : decode cX5_digest 166 = .ok (.bipush 9, 2) := by decide +kernel
theorem dX5_digest_168 : decode cX5_digest 168 = .ok (.if_icmp .ge 24, 3) := by decide +kernel
theorem dX5_digest_171 : decode cX5_digest 171 = .ok (.lload_n 1, 1) := by decide +kernel
theorem dX5_digest_172 : decode cX5_digest 172 = .ok (.aload_n 0, 1) := by decide +kernel
theorem dX5_digest_173 : decode cX5_digest 173 = .ok (.getfield 10, 3) := by decide +kernel
theorem dX5_digest_176 : decode cX5_digest 176 = .ok (.iload_n 3, 1) := by decide +kernel
theorem dX5_digest_177 : decode cX5_digest 177 = .ok (.iload 5, 2) := by decide +kernel
theorem dX5_digest_179 : decode cX5_digest 179 = .ok (.invokevirtual 170, 3) := by decide +kernel
theorem dX5_digest_182 : decode cX5_digest 182 = .ok (.invokestatic 305, 3) := by decide +kernel
theorem dX5_digest_185 : decode cX5_digest 185 = .ok (.lstore_n 1, 1) := by decide +kernel
theorem dX5_digest_186 : decode cX5_digest 186 = .ok (.iinc 5 1, 3) := by decide +kernel
theorem dX5_digest_189 : decode cX5_digest 189 = .ok (.goto (-25), 3) := by decide +kernel
theorem dX5_digest_192 : decode cX5_digest 192 = .ok (.iinc 3 1, 3) := by decide +kernel
theorem dX5_digest_195 : decode cX5_digest 195 = .ok (.goto (-167), 3) := by decide +kernel
theorem dX5_digest_198 : decode cX5_digest 198 = .ok (.lload_n 1, 1) := by decide +kernel
theorem dX5_digest_199 : decode cX5_digest 199 = .ok (.aload_n 0, 1) := by decide +kernel
theorem dX5_digest_200 : decode cX5_digest 200 = .ok (.getfield 10, 3) := by decide +kernel
theorem dX5_digest_203 : decode cX5_digest 203 = .ok (.getfield 175, 3) := by decide +kernel
theorem dX5_digest_206 : decode cX5_digest 206 = .ok (.invokestatic 305, 3) := by decide +kernel
theorem dX5_digest_209 : decode cX5_digest 209 = .ok (.lstore_n 1, 1) := by decide +kernel
theorem dX5_digest_210 : decode cX5_digest 210 = .ok (.iconst 0, 1) := by decide +kernel
theorem dX5_digest_211 : decode cX5_digest 211 = .ok (.istore_n 3, 1) := by decide +kernel
theorem dX5_digest_212 : decode cX5_digest 212 = .ok (.iload_n 3, 1) := by decide +kernel
theorem dX5_digest_213 : decode cX5_digest 213 = .ok (.aload_n 0, 1) := by decide +kernel
theorem dX5_digest_214 : decode cX5_digest 214 = .ok (.getfield 10, 3) := by decide +kernel
theorem dX5_digest_217 : decode cX5_digest 217 = .ok (.getfield 175, 3) := by decide +kernel
theorem dX5_digest_220 : decode cX5_digest 220 = .ok (.if_icmp .ge 113, 3) := by decide +kernel
theorem dX5_digest_223 : decode cX5_digest 223 = .ok (.aload_n 0, 1) := by decide +kernel
theorem dX5_digest_224 : decode cX5_digest 224 = .ok (.getfield 10, 3) := by decide +kernel
theorem dX5_digest_227 : decode cX5_digest 227 = .ok (.getfield 312, 3) := by decide +kernel
theorem dX5_digest_230 : decode cX5_digest 230 = .ok (.iload_n 3, 1) := by decide +kernel
theorem dX5_digest_231 : decode cX5_digest 231 = .ok (.aaload, 1) := by decide +kernel
theorem dX5_digest_232 : decode cX5_digest 232 = .ok (.astore 4, 2) := by decide +kernel
theorem dX5_digest_234 : decode cX5_digest 234 = .ok (.lload_n 1, 1) := by decide +kernel
theorem dX5_digest_235 : decode cX5_digest 235 = .ok (.aload 4, 2) := by decide +kernel
theorem dX5_digest_237 : decode cX5_digest 237 = .ok (.getfield 200, 3) := by decide +kernel
theorem dX5_digest_240 : decode cX5_digest 240 = .ok (.invokestatic 305, 3) := by decide +kernel
theorem dX5_digest_243 : decode cX5_digest 243 = .ok (.aload 4, 2) := by decide +kernel
theorem dX5_digest_245 : decode cX5_digest 245 = .ok (.getfield 203, 3) := by decide +kernel
theorem dX5_digest_248 : decode cX5_digest 248 = .ok (.invokestatic 305, 3) := by decide +kernel
theorem dX5_digest_251 : decode cX5_digest 251 = .ok (.aload 4, 2) := by decide +kernel
theorem dX5_digest_253 : decode cX5_digest 253 = .ok (.getfield 187, 3) := by decide +kernel
theorem dX5_digest_256 : decode cX5_digest 256 = .ok (.invokestatic 305, 3) := by decide +kernel
theorem dX5_digest_259 : decode cX5_digest 259 = .ok (.lstore_n 1, 1) := by decide +kernel
theorem dX5_digest_260 : decode cX5_digest 260 = .ok (.iconst 0, 1) := by decide +kernel
theorem dX5_digest_261 : decode cX5_digest 261 = .ok (.istore 5, 2) := by decide +kernel
theorem dX5_digest_263 : decode cX5_digest 263 = .ok (.iload 5, 2) := by decide +kernel
theorem dX5_digest_265 : decode cX5_digest 265 = .ok (.aload 4, 2) := by decide +kernel
theorem dX5_digest_267 : decode cX5_digest 267 = .ok (.getfield 187, 3) := by decide +kernel
theorem dX5_digest_270 : decode cX5_digest 270 = .ok (.if_icmp .ge 22, 3) := by decide +kernel
theorem dX5_digest_273 : decode cX5_digest 273 = .ok (.lload_n 1, 1) := by decide +kernel
theorem dX5_digest_274 : decode cX5_digest 274 = .ok (.aload 4, 2) := by decide +kernel
theorem dX5_digest_276 : decode cX5_digest 276 = .ok (.getfield 208, 3) := by decide +kernel
theorem dX5_digest_279 : decode cX5_digest 279 = .ok (.iload 5, 2) := by decide +kernel
theorem dX5_digest_281 : decode cX5_digest 281 = .ok (.iaload, 1) := by decide +kernel
theorem dX5_digest_282 : decode cX5_digest 282 = .ok (.invokestatic 305, 3) := by decide +kernel
theorem dX5_digest_285 : decode cX5_digest 285 = .ok (.lstore_n 1, 1) := by decide +kernel
theorem dX5_digest_286 : decode cX5_digest 286 = .ok (.iinc 5 1, 3) := by decide +kernel
theorem dX5_digest_289 : decode cX5_digest 289 = .ok (.goto (-26), 3) := by decide +kernel
theorem dX5_digest_292 : decode cX5_digest 292 = .ok (.iconst 0, 1) := by decide +kernel
theorem dX5_digest_293 : decode cX5_digest 293 = .ok (.istore 5, 2) := by decide +kernel
theorem dX5_digest_295 : decode cX5_digest 295 = .ok (.aload 4, 2) := by decide +kernel
theorem dX5_digest_297 : decode cX5_digest 297 = .ok (.invokevirtual 316, 3) := by decide +kernel
theorem dX5_digest_300 : decode cX5_digest 300 = .ok (.ifCond .eq 27, 3) := by decide +kernel
theorem dX5_digest_303 : decode cX5_digest 303 = .ok (.iload 5, 2) := by decide +kernel
theorem dX5_digest_305 : decode cX5_digest 305 = .ok (.iconst 3, 1) := by decide +kernel
theorem dX5_digest_306 : decode cX5_digest 306 = .ok (.if_icmp .ge 21, 3) := by decide +kernel
theorem dX5_digest_309 : decode cX5_digest 309 = .ok (.lload_n 1, 1) := by decide +kernel
theorem dX5_digest_310 : decode cX5_digest 310 = .ok (.aload 4, 2) := by decide +kernel
theorem dX5_digest_312 : decode cX5_digest 312 = .ok (.iload 5, 2) := by decide +kernel
theorem dX5_digest_314 : decode cX5_digest 314 = .ok (.invokevirtual 215, 3) := by decide +kernel
theorem dX5_digest_317 : decode cX5_digest 317 = .ok (.invokestatic 305, 3) := by decide +kernel
theorem dX5_digest_320 : decode cX5_digest 320 = .ok (.lstore_n 1, 1) := by decide +kernel
theorem dX5_digest_321 : decode cX5_digest 321 = .ok (.iinc 5 1, 3) := by decide +kernel
theorem dX5_digest_324 : decode cX5_digest 324 = .ok (.goto (-29), 3) := by decide +kernel
theorem dX5_digest_327 : decode cX5_digest 327 = .ok (.iinc 3 1, 3) := by decide +kernel
theorem dX5_digest_330 : decode cX5_digest 330 = .ok (.goto (-118), 3) := by decide +kernel
theorem dX5_digest_333 : decode cX5_digest 333 = .ok (.lload_n 1, 1) := by decide +kernel
theorem dX5_digest_334 : decode cX5_digest 334 = .ok (.aload_n 0, 1) := by decide +kernel
theorem dX5_digest_335 : decode cX5_digest 335 = .ok (.getfield 298, 3) := by decide +kernel
theorem dX5_digest_338 : decode cX5_digest 338 = .ok (.invokestatic 305, 3) := by decide +kernel
theorem dX5_digest_341 : decode cX5_digest 341 = .ok (.lreturn, 1) := by decide +kernel
theorem dX5_save_0 : decode cX5_save 0 = .ok (.aload_n 0, 1) := by decide +kernel
theorem dX5_save_1 : decode cX5_save 1 = .ok (.getfield 298, 3) := by decide +kernel
theorem dX5_save_4 : decode cX5_save 4 = .ok (.iconst 4, 1) := by decide +kernel
theorem dX5_save_5 : decode cX5_save 5 = .ok (.if_icmp .lt 49, 3) := by decide +kernel
theorem dX5_save_8 : decode cX5_save 8 = .ok (.aload_n 0, 1) := by decide +kernel
theorem dX5_save_9 : decode cX5_save 9 = .ok (.getfield 19, 3) := by decide +kernel
theorem dX5_save_12 : decode cX5_save 12 = .ok (.iconst 0, 1) := by decide +kernel
theorem dX5_save_13 : decode cX5_save 13 = .ok (.aaload, 1) := by decide +kernel
theorem dX5_save_14 : decode cX5_save 14 = .ok (.astore_n 1, 1) := by decide +kernel
theorem dX5_save_15 : decode cX5_save 15 = .ok (.iconst 1, 1) := by decide +kernel
theorem dX5_save_16 : decode cX5_save 16 = .ok (.istore_n 2, 1) := by decide +kernel
theorem dX5_save_17 : decode cX5_save 17 = .ok (.iload_n 2, 1) := by decide +kernel
theorem dX5_save_18 : decode cX5_save 18 = .ok (.iconst 4, 1) := by decide +kernel
theorem dX5_save_19 : decode cX5_save 19 = .ok (.if_icmp .ge 23, 3) := by decide +kernel
theorem dX5_save_22 : decode cX5_save 22 = .ok (.aload_n 0, 1) := by decide +kernel
theorem dX5_save_23 : decode cX5_save 23 = .ok (.getfield 19, 3) := by decide +kernel
theorem dX5_save_26 : decode cX5_save 26 = .ok (.iload_n 2, 1) := by decide +kernel
theorem dX5_save_27 : decode cX5_save 27 = .ok (.iconst 1, 1) := by decide +kernel
theorem dX5_save_28 : decode cX5_save 28 = .ok (.isub, 1) := by decide +kernel
theorem dX5_save_29 : decode cX5_save 29 = .ok (.aload_n 0, 1) := by decide +kernel
theorem dX5_save_30 : decode cX5_save 30 = .ok (.getfield 19, 3) := by decide +kernel
theorem dX5_save_33 : decode cX5_save 33 = .ok (.iload_n 2, 1) := by decide +kernel
theorem dX5_save_34 : decode cX5_save 34 = .ok (.aaload, 1) := by decide +kernel
theorem dX5_save_35 : decode cX5_save 35 = .ok (.aastore, 1) := by decide +kernel
theorem dX5_save_36 : decode cX5_save 36 = .ok (.iinc 2 1, 3) := by decide +kernel
theorem dX5_save_39 : decode cX5_save 39 = .ok (.goto (-22), 3) := by decide +kernel
theorem dX5_save_42 : decode cX5_save 42 = .ok (.aload_n 0, 1) := by decide +kernel
theorem dX5_save_43 : decode cX5_save 43 = .ok (.getfield 19, 3) := by decide +kernel
theorem dX5_save_46 : decode cX5_save 46 = .ok (.iconst 3, 1) := by decide +kernel
theorem dX5_save_47 : decode cX5_save 47 = .ok (.aload_n 1, 1) := by decide +kernel
theorem dX5_save_48 : decode cX5_save 48 = .ok (.aastore, 1) := by decide +kernel
theorem dX5_save_49 : decode cX5_save 49 = .ok (.aload_n 0, 1) := by decide +kernel
theorem dX5_save_50 : decode cX5_save 50 = .ok (.iconst 3, 1) := by decide +kernel
theorem dX5_save_51 : decode cX5_save 51 = .ok (.putfield 298, 3) := by decide +kernel
theorem dX5_save_54 : decode cX5_save 54 = .ok (.aload_n 0, 1) := by decide +kernel
theorem dX5_save_55 : decode cX5_save 55 = .ok (.getfield 19, 3) := by decide +kernel
theorem dX5_save_58 : decode cX5_save 58 = .ok (.aload_n 0, 1) := by decide +kernel
theorem dX5_save_59 : decode cX5_save 59 = .ok (.getfield 298, 3) := by decide +kernel
theorem dX5_save_62 : decode cX5_save 62 = .ok (.aaload, 1) := by decide +kernel
theorem dX5_save_63 : decode cX5_save 63 = .ok (.aload_n 0, 1) := by decide +kernel
theorem dX5_save_64 : decode cX5_save 64 = .ok (.getfield 10, 3) := by decide +kernel
theorem dX5_save_67 : decode cX5_save 67 = .ok (.invokevirtual 285, 3) := by decide +kernel
theorem dX5_save_70 : decode cX5_save 70 = .ok (.aload_n 0, 1) := by decide +kernel
theorem dX5_save_71 : decode cX5_save 71 = .ok (.dup, 1) := by decide +kernel
theorem dX5_save_72 : decode cX5_save 72 = .ok (.getfield 298, 3) := by decide +kernel
theorem dX5_save_75 : decode cX5_save 75 = .ok (.iconst 1, 1) := by decide +kernel
theorem dX5_save_76 : decode cX5_save 76 = .ok (.iadd, 1) := by decide +kernel
theorem dX5_save_77 : decode cX5_save 77 = .ok (.putfield 298, 3) := by decide +kernel
theorem dX5_save_80 : decode cX5_save 80 = .ok (.return_, 1) := by decide +kernel
theorem dX5_requireGear_0 : decode cX5_requireGear 0 = .ok (.iload_n 1, 1) := by decide +kernel
theorem dX5_requireGear_1 : decode cX5_requireGear 1 = .ok (.ifCond .lt 14, 3) := by decide +kernel
theorem dX5_requireGear_4 : decode cX5_requireGear 4 = .ok (.iload_n 1, 1) := by decide +kernel
theorem dX5_requireGear_5 : decode cX5_requireGear 5 = .ok (.aload_n 0, 1) := by decide +kernel
theorem dX5_requireGear_6 : decode cX5_requireGear 6 = .ok (.getfield 10, 3) := by decide +kernel
theorem dX5_requireGear_9 : decode cX5_requireGear 9 = .ok (.getfield 62, 3) := by decide +kernel
theorem dX5_requireGear_12 : decode cX5_requireGear 12 = .ok (.if_icmp .lt 14, 3) := by decide +kernel
theorem dX5_requireGear_15 : decode cX5_requireGear 15 = .ok (.new 113, 3) := by decide +kernel
theorem dX5_requireGear_18 : decode cX5_requireGear 18 = .ok (.dup, 1) := by decide +kernel
theorem dX5_requireGear_19 : decode cX5_requireGear 19 = .ok (.ldc_w 319, 3) := by decide +kernel
theorem dX5_requireGear_22 : decode cX5_requireGear 22 = .ok (.invokespecial 117, 3) := by decide +kernel
theorem dX5_requireGear_25 : decode cX5_requireGear 25 = .ok (.athrow, 1) := by decide +kernel
theorem dX5_requireGear_26 : decode cX5_requireGear 26 = .ok (.aload_n 0, 1) := by decide +kernel
theorem dX5_requireGear_27 : decode cX5_requireGear 27 = .ok (.getfield 10, 3) := by decide +kernel
theorem dX5_requireGear_30 : decode cX5_requireGear 30 = .ok (.getfield 265, 3) := by decide +kernel
theorem dX5_requireGear_33 : decode cX5_requireGear 33 = .ok (.iload_n 1, 1) := by decide +kernel
theorem dX5_requireGear_34 : decode cX5_requireGear 34 = .ok (.aaload, 1) := by decide +kernel
theorem dX5_requireGear_35 : decode cX5_requireGear 35 = .ok (.areturn, 1) := by decide +kernel
theorem dX5_requireLine_0 : decode cX5_requireLine 0 = .ok (.iload_n 1, 1) := by decide +kernel
theorem dX5_requireLine_1 : decode cX5_requireLine 1 = .ok (.ifCond .lt 14, 3) := by decide +kernel
theorem dX5_requireLine_4 : decode cX5_requireLine 4 = .ok (.iload_n 1, 1) := by decide +kernel
theorem dX5_requireLine_5 : decode cX5_requireLine 5 = .ok (.aload_n 0, 1) := by decide +kernel
theorem dX5_requireLine_6 : decode cX5_requireLine 6 = .ok (.getfield 10, 3) := by decide +kernel
theorem dX5_requireLine_9 : decode cX5_requireLine 9 = .ok (.getfield 175, 3) := by decide +kernel
theorem dX5_requireLine_12 : decode cX5_requireLine 12 = .ok (.if_icmp .lt 14, 3) := by decide +kernel
theorem dX5_requireLine_15 : decode cX5_requireLine 15 = .ok (.new 113, 3) := by decide +kernel
theorem dX5_requireLine_18 : decode cX5_requireLine 18 = .ok (.dup, 1) := by decide +kernel
theorem dX5_requireLine_19 : decode cX5_requireLine 19 = .ok (.ldc_w 321, 3) := by decide +kernel
theorem dX5_requireLine_22 : decode cX5_requireLine 22 = .ok (.invokespecial 117, 3) := by decide +kernel
theorem dX5_requireLine_25 : decode cX5_requireLine 25 = .ok (.athrow, 1) := by decide +kernel
theorem dX5_requireLine_26 : decode cX5_requireLine 26 = .ok (.aload_n 0, 1) := by decide +kernel
theorem dX5_requireLine_27 : decode cX5_requireLine 27 = .ok (.getfield 10, 3) := by decide +kernel
theorem dX5_requireLine_30 : decode cX5_requireLine 30 = .ok (.getfield 312, 3) := by decide +kernel
theorem dX5_requireLine_33 : decode cX5_requireLine 33 = .ok (.iload_n 1, 1) := by decide +kernel
theorem dX5_requireLine_34 : decode cX5_requireLine 34 = .ok (.aaload, 1) := by decide +kernel
theorem dX5_requireLine_35 : decode cX5_requireLine 35 = .ok (.areturn, 1) := by decide +kernel
theorem dX5_requireReading_0 : decode cX5_requireReading 0 = .ok (.iload_n 1, 1) := by decide +kernel
theorem dX5_requireReading_1 : decode cX5_requireReading 1 = .ok (.ifCond .lt 8, 3) := by decide +kernel
theorem dX5_requireReading_4 : decode cX5_requireReading 4 = .ok (.iload_n 1, 1) := by decide +kernel
theorem dX5_requireReading_5 : decode cX5_requireReading 5 = .ok (.iconst 3, 1) := by decide +kernel
theorem dX5_requireReading_6 : decode cX5_requireReading 6 = .ok (.if_icmp .lt 14, 3) := by decide +kernel
theorem dX5_requireReading_9 : decode cX5_requireReading 9 = .ok (.new 113, 3) := by decide +kernel
theorem dX5_requireReading_12 : decode cX5_requireReading 12 = .ok (.dup, 1) := by decide +kernel
theorem dX5_requireReading_13 : decode cX5_requireReading 13 = .ok (.ldc_w 323, 3) := by decide +kernel
theorem dX5_requireReading_16 : decode cX5_requireReading 16 = .ok (.invokespecial 117, 3) := by decide +kernel
theorem dX5_requireReading_19 : decode cX5_requireReading 19 = .ok (.athrow, 1) := by decide +kernel
theorem dX5_requireReading_20 : decode cX5_requireReading 20 = .ok (.iload_n 2, 1) := by decide +kernel
theorem dX5_requireReading_21 : decode cX5_requireReading 21 = .ok (.ifCond .lt 12, 3) := by decide +kernel
theorem dX5_requireReading_24 : decode cX5_requireReading 24 = .ok (.iload_n 2, 1) := by decide +kernel
theorem dX5_requireReading_25 : decode cX5_requireReading 25 = .ok (.aload_n 0, 1) := by decide +kernel
theorem dX5_requireReading_26 : decode cX5_requireReading 26 = .ok (.iload_n 1, 1) := by decide +kernel
theorem dX5_requireReading_27 : decode cX5_requireReading 27 = .ok (.invokevirtual 309, 3) := by decide +kernel
theorem dX5_requireReading_30 : decode cX5_requireReading 30 = .ok (.if_icmp .lt 14, 3) := by decide +kernel
theorem dX5_requireReading_33 : decode cX5_requireReading 33 = .ok (.new 113, 3) := by decide +kernel
theorem dX5_requireReading_36 : decode cX5_requireReading 36 = .ok (.dup, 1) := by decide +kernel
theorem dX5_requireReading_37 : decode cX5_requireReading 37 = .ok (.ldc_w 325, 3) := by decide +kernel
theorem dX5_requireReading_40 : decode cX5_requireReading 40 = .ok (.invokespecial 117, 3) := by decide +kernel
theorem dX5_requireReading_43 : decode cX5_requireReading 43 = .ok (.athrow, 1) := by decide +kernel
theorem dX5_requireReading_44 : decode cX5_requireReading 44 = .ok (.return_, 1) := by decide +kernel
theorem dX5_requireFlank_0 : decode cX5_requireFlank 0 = .ok (.iload_n 0, 1) := by decide +kernel
theorem dX5_requireFlank_1 : decode cX5_requireFlank 1 = .ok (.ifCond .lt 8, 3) := by decide +kernel
theorem dX5_requireFlank_4 : decode cX5_requireFlank 4 = .ok (.iload_n 0, 1) := by decide +kernel
theorem dX5_requireFlank_5 : decode cX5_requireFlank 5 = .ok (.iconst 2, 1) := by decide +kernel
theorem dX5_requireFlank_6 : decode cX5_requireFlank 6 = .ok (.if_icmp .lt 14, 3) := by decide +kernel
theorem dX5_requireFlank_9 : decode cX5_requireFlank 9 = .ok (.new 113, 3) := by decide +kernel
theorem dX5_requireFlank_12 : decode cX5_requireFlank 12 = .ok (.dup, 1) := by decide +kernel
theorem dX5_requireFlank_13 : decode cX5_requireFlank 13 = .ok (.ldc_w 327, 3) := by decide +kernel
theorem dX5_requireFlank_16 : decode cX5_requireFlank 16 = .ok (.invokespecial 117, 3) := by decide +kernel
theorem dX5_requireFlank_19 : decode cX5_requireFlank 19 = .ok (.athrow, 1) := by decide +kernel
theorem dX5_requireFlank_20 : decode cX5_requireFlank 20 = .ok (.return_, 1) := by decide +kernel
theorem dX5_requireWhat_0 : decode cX5_requireWhat 0 = .ok (.iload_n 0, 1) := by decide +kernel
theorem dX5_requireWhat_1 : decode cX5_requireWhat 1 = .ok (.ifCond .lt 9, 3) := by decide +kernel
theorem dX5_requireWhat_4 : decode cX5_requireWhat 4 = .ok (.iload_n 0, 1) := by decide +kernel
theorem dX5_requireWhat_5 : decode cX5_requireWhat 5 = .ok (.bipush 9, 2) := by decide +kernel
theorem dX5_requireWhat_7 : decode cX5_requireWhat 7 = .ok (.if_icmp .lt 13, 3) := by decide +kernel
theorem dX5_requireWhat_10 : decode cX5_requireWhat 10 = .ok (.new 55, 3) := by decide +kernel
theorem dX5_requireWhat_13 : decode cX5_requireWhat 13 = .ok (.dup, 1) := by decide +kernel
theorem dX5_requireWhat_14 : decode cX5_requireWhat 14 = .ok (.ldc 141, 2) := by decide +kernel
theorem dX5_requireWhat_16 : decode cX5_requireWhat 16 = .ok (.invokespecial 59, 3) := by decide +kernel
theorem dX5_requireWhat_19 : decode cX5_requireWhat 19 = .ok (.athrow, 1) := by decide +kernel
theorem dX5_requireWhat_20 : decode cX5_requireWhat 20 = .ok (.return_, 1) := by decide +kernel
theorem dX5_requireClass_0 : decode cX5_requireClass 0 = .ok (.iload_n 0, 1) := by decide +kernel
theorem dX5_requireClass_1 : decode cX5_requireClass 1 = .ok (.iconst 1, 1) := by decide +kernel
theorem dX5_requireClass_2 : decode cX5_requireClass 2 = .ok (.if_icmp .lt 9, 3) := by decide +kernel
theorem dX5_requireClass_5 : decode cX5_requireClass 5 = .ok (.iload_n 0, 1) := by decide +kernel
theorem dX5_requireClass_6 : decode cX5_requireClass 6 = .ok (.bipush 12, 2) := by decide +kernel
theorem dX5_requireClass_8 : decode cX5_requireClass 8 = .ok (.if_icmp .le 14, 3) := by decide +kernel
theorem dX5_requireClass_11 : decode cX5_requireClass 11 = .ok (.new 55, 3) := by decide +kernel
theorem dX5_requireClass_14 : decode cX5_requireClass 14 = .ok (.dup, 1) := by decide +kernel
theorem dX5_requireClass_15 : decode cX5_requireClass 15 = .ok (.ldc_w 329, 3) := by decide +kernel
theorem dX5_requireClass_18 : decode cX5_requireClass 18 = .ok (.invokespecial 59, 3) := by decide +kernel
theorem dX5_requireClass_21 : decode cX5_requireClass 21 = .ok (.athrow, 1) := by decide +kernel
theorem dX5_requireClass_22 : decode cX5_requireClass 22 = .ok (.return_, 1) := by decide +kernel
theorem dX5_requirePoints_0 : decode cX5_requirePoints 0 = .ok (.aload_n 0, 1) := by decide +kernel
theorem dX5_requirePoints_1 : decode cX5_requirePoints 1 = .ok (.invokevirtual 316, 3) := by decide +kernel
theorem dX5_requirePoints_4 : decode cX5_requirePoints 4 = .ok (.ifCond .ne 14, 3) := by decide +kernel
theorem dX5_requirePoints_7 : decode cX5_requirePoints 7 = .ok (.new 66, 3) := by decide +kernel
theorem dX5_requirePoints_10 : decode cX5_requirePoints 10 = .ok (.dup, 1) := by decide +kernel
theorem dX5_requirePoints_11 : decode cX5_requirePoints 11 = .ok (.ldc_w 331, 3) := by decide +kernel
theorem dX5_requirePoints_14 : decode cX5_requirePoints 14 = .ok (.invokespecial 70, 3) := by decide +kernel
theorem dX5_requirePoints_17 : decode cX5_requirePoints 17 = .ok (.athrow, 1) := by decide +kernel
theorem dX5_requirePoints_18 : decode cX5_requirePoints 18 = .ok (.return_, 1) := by decide +kernel
theorem dX5_isGear_0 : decode cX5_isGear 0 = .ok (.iload_n 0, 1) := by decide +kernel
theorem dX5_isGear_1 : decode cX5_isGear 1 = .ok (.iconst 5, 1) := by decide +kernel
theorem dX5_isGear_2 : decode cX5_isGear 2 = .ok (.if_icmp .lt 24, 3) := by decide +kernel
theorem dX5_isGear_5 : decode cX5_isGear 5 = .ok (.iload_n 0, 1) := by decide +kernel
theorem dX5_isGear_6 : decode cX5_isGear 6 = .ok (.bipush 30, 2) := by decide +kernel
theorem dX5_isGear_8 : decode cX5_isGear 8 = .ok (.if_icmp .gt 18, 3) := by decide +kernel
theorem dX5_isGear_11 : decode cX5_isGear 11 = .ok (.iload_n 1, 1) := by decide +kernel
theorem dX5_isGear_12 : decode cX5_isGear 12 = .ok (.iconst 1, 1) := by decide +kernel
theorem dX5_isGear_13 : decode cX5_isGear 13 = .ok (.if_icmp .lt 13, 3) := by decide +kernel
theorem dX5_isGear_16 : decode cX5_isGear 16 = .ok (.iload_n 1, 1) := by decide +kernel
theorem dX5_isGear_17 : decode cX5_isGear 17 = .ok (.bipush 20, 2) := by decide +kernel
theorem dX5_isGear_19 : decode cX5_isGear 19 = .ok (.if_icmp .gt 7, 3) := by decide +kernel
theorem dX5_isGear_22 : decode cX5_isGear 22 = .ok (.iconst 1, 1) := by decide +kernel
theorem dX5_isGear_23 : decode cX5_isGear 23 = .ok (.goto 4, 3) := by decide +kernel
theorem dX5_isGear_26 : decode cX5_isGear 26 = .ok (.iconst 0, 1) := by decide +kernel
theorem dX5_isGear_27 : decode cX5_isGear 27 = .ok (.ireturn, 1) := by decide +kernel
theorem dX5_isDeviation_0 : decode cX5_isDeviation 0 = .ok (.iload_n 0, 1) := by decide +kernel
theorem dX5_isDeviation_1 : decode cX5_isDeviation 1 = .ok (.sipush (-5000), 3) := by decide +kernel
theorem dX5_isDeviation_4 : decode cX5_isDeviation 4 = .ok (.if_icmp .lt 14, 3) := by decide +kernel
theorem dX5_isDeviation_7 : decode cX5_isDeviation 7 = .ok (.iload_n 0, 1) := by decide +kernel
theorem dX5_isDeviation_8 : decode cX5_isDeviation 8 = .ok (.sipush 5000, 3) := by decide +kernel
theorem dX5_isDeviation_11 : decode cX5_isDeviation 11 = .ok (.if_icmp .gt 7, 3) := by decide +kernel
theorem dX5_isDeviation_14 : decode cX5_isDeviation 14 = .ok (.iconst 1, 1) := by decide +kernel
theorem dX5_isDeviation_15 : decode cX5_isDeviation 15 = .ok (.goto 4, 3) := by decide +kernel
theorem dX5_isDeviation_18 : decode cX5_isDeviation 18 = .ok (.iconst 0, 1) := by decide +kernel
theorem dX5_isDeviation_19 : decode cX5_isDeviation 19 = .ok (.ireturn, 1) := by decide +kernel
theorem dX5_classOfGear_0 : decode cX5_classOfGear 0 = .ok (.iconst 1, 1) := by decide +kernel
theorem dX5_classOfGear_1 : decode cX5_classOfGear 1 = .ok (.istore_n 2, 1) := by decide +kernel
theorem dX5_classOfGear_2 : decode cX5_classOfGear 2 = .ok (.iconst 0, 1) := by decide +kernel
theorem dX5_classOfGear_3 : decode cX5_classOfGear 3 = .ok (.istore_n 3, 1) := by decide +kernel
theorem dX5_classOfGear_4 : decode cX5_classOfGear 4 = .ok (.iload_n 3, 1) := by decide +kernel
theorem dX5_classOfGear_5 : decode cX5_classOfGear 5 = .ok (.bipush 9, 2) := by decide +kernel
theorem dX5_classOfGear_7 : decode cX5_classOfGear 7 = .ok (.if_icmp .ge 43, 3) := by decide +kernel
theorem dX5_classOfGear_10 : decode cX5_classOfGear 10 = .ok (.aload_n 0, 1) := by decide +kernel
theorem dX5_classOfGear_11 : decode cX5_classOfGear 11 = .ok (.getfield 10, 3) := by decide +kernel
theorem dX5_classOfGear_14 : decode cX5_classOfGear 14 = .ok (.getfield 265, 3) := by decide +kernel
theorem dX5_classOfGear_17 : decode cX5_classOfGear 17 = .ok (.iload_n 1, 1) := by decide +kernel
theorem dX5_classOfGear_18 : decode cX5_classOfGear 18 = .ok (.aaload, 1) := by decide +kernel
theorem dX5_classOfGear_19 : decode cX5_classOfGear 19 = .ok (.iload_n 3, 1) := by decide +kernel
theorem dX5_classOfGear_20 : decode cX5_classOfGear 20 = .ok (.invokestatic 241, 3) := by decide +kernel
theorem dX5_classOfGear_23 : decode cX5_classOfGear 23 = .ok (.istore 4, 2) := by decide +kernel
theorem dX5_classOfGear_25 : decode cX5_classOfGear 25 = .ok (.iload_n 2, 1) := by decide +kernel
theorem dX5_classOfGear_26 : decode cX5_classOfGear 26 = .ok (.iload 4, 2) := by decide +kernel
theorem dX5_classOfGear_28 : decode cX5_classOfGear 28 = .ok (.aload_n 0, 1) := by decide +kernel
theorem dX5_classOfGear_29 : decode cX5_classOfGear 29 = .ok (.getfield 10, 3) := by decide +kernel
theorem dX5_classOfGear_32 : decode cX5_classOfGear 32 = .ok (.iload_n 1, 1) := by decide +kernel
theorem dX5_classOfGear_33 : decode cX5_classOfGear 33 = .ok (.iload_n 3, 1) := by decide +kernel
theorem dX5_classOfGear_34 : decode cX5_classOfGear 34 = .ok (.invokevirtual 170, 3) := by decide +kernel
theorem dX5_classOfGear_37 : decode cX5_classOfGear 37 = .ok (.invokestatic 248, 3) := by decide +kernel
theorem dX5_classOfGear_40 : decode cX5_classOfGear 40 = .ok (.invokestatic 333, 3) := by decide +kernel
theorem dX5_classOfGear_43 : decode cX5_classOfGear 43 = .ok (.istore_n 2, 1) := by decide +kernel
theorem dX5_classOfGear_44 : decode cX5_classOfGear 44 = .ok (.iinc 3 1, 3) := by decide +kernel
theorem dX5_classOfGear_47 : decode cX5_classOfGear 47 = .ok (.goto (-43), 3) := by decide +kernel
theorem dX5_classOfGear_50 : decode cX5_classOfGear 50 = .ok (.iload_n 2, 1) := by decide +kernel
theorem dX5_classOfGear_51 : decode cX5_classOfGear 51 = .ok (.ireturn, 1) := by decide +kernel
theorem dX5_placeOf_0 : decode cX5_placeOf 0 = .ok (.iconst 0, 1) := by decide +kernel
theorem dX5_placeOf_1 : decode cX5_placeOf 1 = .ok (.istore_n 2, 1) := by decide +kernel
theorem dX5_placeOf_2 : decode cX5_placeOf 2 = .ok (.iconst 0, 1) := by decide +kernel
theorem dX5_placeOf_3 : decode cX5_placeOf 3 = .ok (.istore_n 3, 1) := by decide +kernel
theorem dX5_placeOf_4 : decode cX5_placeOf 4 = .ok (.iload_n 3, 1) := by decide +kernel
theorem dX5_placeOf_5 : decode cX5_placeOf 5 = .ok (.aload_n 0, 1) := by decide +kernel
theorem dX5_placeOf_6 : decode cX5_placeOf 6 = .ok (.getfield 10, 3) := by decide +kernel
theorem dX5_placeOf_9 : decode cX5_placeOf 9 = .ok (.getfield 62, 3) := by decide +kernel
theorem dX5_placeOf_12 : decode cX5_placeOf 12 = .ok (.if_icmp .ge 21, 3) := by decide +kernel
theorem dX5_placeOf_15 : decode cX5_placeOf 15 = .ok (.aload_n 0, 1) := by decide +kernel
theorem dX5_placeOf_16 : decode cX5_placeOf 16 = .ok (.iload_n 3, 1) := by decide +kernel
theorem dX5_placeOf_17 : decode cX5_placeOf 17 = .ok (.iload_n 1, 1) := by decide +kernel
theorem dX5_placeOf_18 : decode cX5_placeOf 18 = .ok (.invokevirtual 335, 3) := by decide +kernel
theorem dX5_placeOf_21 : decode cX5_placeOf 21 = .ok (.ifCond .eq 6, 3) := by decide +kernel
theorem dX5_placeOf_24 : decode cX5_placeOf 24 = .ok (.iinc 2 1, 3) := by decide +kernel
theorem dX5_placeOf_27 : decode cX5_placeOf 27 = .ok (.iinc 3 1, 3) := by decide +kernel
theorem dX5_placeOf_30 : decode cX5_placeOf 30 = .ok (.goto (-26), 3) := by decide +kernel
theorem dX5_placeOf_33 : decode cX5_placeOf 33 = .ok (.iload_n 2, 1) := by decide +kernel
theorem dX5_placeOf_34 : decode cX5_placeOf 34 = .ok (.ireturn, 1) := by decide +kernel
theorem dX5_ranksBefore_0 : decode cX5_ranksBefore 0 = .ok (.aload_n 0, 1) := by decide +kernel
theorem dX5_ranksBefore_1 : decode cX5_ranksBefore 1 = .ok (.getfield 44, 3) := by decide +kernel
theorem dX5_ranksBefore_4 : decode cX5_ranksBefore 4 = .ok (.iload_n 1, 1) := by decide +kernel
theorem dX5_ranksBefore_5 : decode cX5_ranksBefore 5 = .ok (.iaload, 1) := by decide +kernel
theorem dX5_ranksBefore_6 : decode cX5_ranksBefore 6 = .ok (.aload_n 0, 1) := by decide +kernel
theorem dX5_ranksBefore_7 : decode cX5_ranksBefore 7 = .ok (.getfield 44, 3) := by decide +kernel
theorem dX5_ranksBefore_10 : decode cX5_ranksBefore 10 = .ok (.iload_n 2, 1) := by decide +kernel
theorem dX5_ranksBefore_11 : decode cX5_ranksBefore 11 = .ok (.iaload, 1) := by decide +kernel
theorem dX5_ranksBefore_12 : decode cX5_ranksBefore 12 = .ok (.if_icmp .eq 24, 3) := by decide +kernel
theorem dX5_ranksBefore_15 : decode cX5_ranksBefore 15 = .ok (.aload_n 0, 1) := by decide +kernel
theorem dX5_ranksBefore_16 : decode cX5_ranksBefore 16 = .ok (.getfield 44, 3) := by decide +kernel
theorem dX5_ranksBefore_19 : decode cX5_ranksBefore 19 = .ok (.iload_n 1, 1) := by decide +kernel
theorem dX5_ranksBefore_20 : decode cX5_ranksBefore 20 = .ok (.iaload, 1) := by decide +kernel
theorem dX5_ranksBefore_21 : decode cX5_ranksBefore 21 = .ok (.aload_n 0, 1) := by decide +kernel
theorem dX5_ranksBefore_22 : decode cX5_ranksBefore 22 = .ok (.getfield 44, 3) := by decide +kernel
theorem dX5_ranksBefore_25 : decode cX5_ranksBefore 25 = .ok (.iload_n 2, 1) := by decide +kernel
theorem dX5_ranksBefore_26 : decode cX5_ranksBefore 26 = .ok (.iaload, 1) := by decide +kernel
theorem dX5_ranksBefore_27 : decode cX5_ranksBefore 27 = .ok (.if_icmp .ge 7, 3) := by decide +kernel
theorem dX5_ranksBefore_30 : decode cX5_ranksBefore 30 = .ok (.iconst 1, 1) := by decide +kernel
theorem dX5_ranksBefore_31 : decode cX5_ranksBefore 31 = .ok (.goto 4, 3) := by decide +kernel
theorem dX5_ranksBefore_34 : decode cX5_ranksBefore 34 = .ok (.iconst 0, 1) := by decide +kernel
theorem dX5_ranksBefore_35 : decode cX5_ranksBefore 35 = .ok (.ireturn, 1) := by decide +kernel
theorem dX5_ranksBefore_36 : decode cX5_ranksBefore 36 = .ok (.aload_n 0, 1) := by decide +kernel
theorem dX5_ranksBefore_37 : decode cX5_ranksBefore 37 = .ok (.getfield 48, 3) := by decide +kernel
theorem dX5_ranksBefore_40 : decode cX5_ranksBefore 40 = .ok (.iload_n 1, 1) := by decide +kernel
theorem dX5_ranksBefore_41 : decode cX5_ranksBefore 41 = .ok (.iaload, 1) := by decide +kernel
theorem dX5_ranksBefore_42 : decode cX5_ranksBefore 42 = .ok (.aload_n 0, 1) := by decide +kernel
theorem dX5_ranksBefore_43 : decode cX5_ranksBefore 43 = .ok (.getfield 48, 3) := by decide +kernel
theorem dX5_ranksBefore_46 : decode cX5_ranksBefore 46 = .ok (.iload_n 2, 1) := by decide +kernel
theorem dX5_ranksBefore_47 : decode cX5_ranksBefore 47 = .ok (.iaload, 1) := by decide +kernel
theorem dX5_ranksBefore_48 : decode cX5_ranksBefore 48 = .ok (.if_icmp .eq 24, 3) := by decide +kernel
theorem dX5_ranksBefore_51 : decode cX5_ranksBefore 51 = .ok (.aload_n 0, 1) := by decide +kernel
theorem dX5_ranksBefore_52 : decode cX5_ranksBefore 52 = .ok (.getfield 48, 3) := by decide +kernel
theorem dX5_ranksBefore_55 : decode cX5_ranksBefore 55 = .ok (.iload_n 1, 1) := by decide +kernel
theorem dX5_ranksBefore_56 : decode cX5_ranksBefore 56 = .ok (.iaload, 1) := by decide +kernel
theorem dX5_ranksBefore_57 : decode cX5_ranksBefore 57 = .ok (.aload_n 0, 1) := by decide +kernel
theorem dX5_ranksBefore_58 : decode cX5_ranksBefore 58 = .ok (.getfield 48, 3) := by decide +kernel
theorem dX5_ranksBefore_61 : decode cX5_ranksBefore 61 = .ok (.iload_n 2, 1) := by decide +kernel
theorem dX5_ranksBefore_62 : decode cX5_ranksBefore 62 = .ok (.iaload, 1) := by decide +kernel
theorem dX5_ranksBefore_63 : decode cX5_ranksBefore 63 = .ok (.if_icmp .ge 7, 3) := by decide +kernel
theorem dX5_ranksBefore_66 : decode cX5_ranksBefore 66 = .ok (.iconst 1, 1) := by decide +kernel
theorem dX5_ranksBefore_67 : decode cX5_ranksBefore 67 = .ok (.goto 4, 3) := by decide +kernel
theorem dX5_ranksBefore_70 : decode cX5_ranksBefore 70 = .ok (.iconst 0, 1) := by decide +kernel
theorem dX5_ranksBefore_71 : decode cX5_ranksBefore 71 = .ok (.ireturn, 1) := by decide +kernel
theorem dX5_ranksBefore_72 : decode cX5_ranksBefore 72 = .ok (.iload_n 1, 1) := by decide +kernel
theorem dX5_ranksBefore_73 : decode cX5_ranksBefore 73 = .ok (.iload_n 2, 1) := by decide +kernel
theorem dX5_ranksBefore_74 : decode cX5_ranksBefore 74 = .ok (.if_icmp .ge 7, 3) := by decide +kernel
theorem dX5_ranksBefore_77 : decode cX5_ranksBefore 77 = .ok (.iconst 1, 1) := by decide +kernel
theorem dX5_ranksBefore_78 : decode cX5_ranksBefore 78 = .ok (.goto 4, 3) := by decide +kernel
theorem dX5_ranksBefore_81 : decode cX5_ranksBefore 81 = .ok (.iconst 0, 1) := by decide +kernel
theorem dX5_ranksBefore_82 : decode cX5_ranksBefore 82 = .ok (.ireturn, 1) := by decide +kernel
theorem dX5_baseTolerance_0 : decode cX5_baseTolerance 0 = .ok (.aload_n 0, 1) := by decide +kernel
theorem dX5_baseTolerance_1 : decode cX5_baseTolerance 1 = .ok (.getfield 132, 3) := by decide +kernel
theorem dX5_baseTolerance_4 : decode cX5_baseTolerance 4 = .ok (.istore_n 2, 1) := by decide +kernel
theorem dX5_baseTolerance_5 : decode cX5_baseTolerance 5 = .ok (.iload_n 2, 1) := by decide +kernel
theorem dX5_baseTolerance_6 : decode cX5_baseTolerance 6 = .ok (.aload_n 0, 1) := by decide +kernel
theorem dX5_baseTolerance_7 : decode cX5_baseTolerance 7 = .ok (.getfield 110, 3) := by decide +kernel
theorem dX5_baseTolerance_10 : decode cX5_baseTolerance 10 = .ok (.imul, 1) := by decide +kernel
theorem dX5_baseTolerance_11 : decode cX5_baseTolerance 11 = .ok (.invokestatic 338, 3) := by decide +kernel
theorem dX5_baseTolerance_14 : decode cX5_baseTolerance 14 = .ok (.istore_n 3, 1) := by decide +kernel
theorem dX5_baseTolerance_15 : decode cX5_baseTolerance 15 = .ok (.bipush 70, 2) := by decide +kernel
theorem dX5_baseTolerance_17 : decode cX5_baseTolerance 17 = .ok (.iconst 3, 1) := by decide +kernel
theorem dX5_baseTolerance_18 : decode cX5_baseTolerance 18 = .ok (.iload_n 2, 1) := by decide +kernel
theorem dX5_baseTolerance_19 : decode cX5_baseTolerance 19 = .ok (.imul, 1) := by decide +kernel
theorem dX5_baseTolerance_20 : decode cX5_baseTolerance 20 = .ok (.iadd, 1) := by decide +kernel
theorem dX5_baseTolerance_21 : decode cX5_baseTolerance 21 = .ok (.bipush 11, 2) := by decide +kernel
theorem dX5_baseTolerance_23 : decode cX5_baseTolerance 23 = .ok (.iload_n 3, 1) := by decide +kernel
theorem dX5_baseTolerance_24 : decode cX5_baseTolerance 24 = .ok (.imul, 1) := by decide +kernel
theorem dX5_baseTolerance_25 : decode cX5_baseTolerance 25 = .ok (.iadd, 1) := by decide +kernel
theorem dX5_baseTolerance_26 : decode cX5_baseTolerance 26 = .ok (.istore 4, 2) := by decide +kernel
theorem dX5_baseTolerance_28 : decode cX5_baseTolerance 28 = .ok (.bipush 40, 2) := by decide +kernel
theorem dX5_baseTolerance_30 : decode cX5_baseTolerance 30 = .ok (.bipush 10, 2) := by decide +kernel
theorem dX5_baseTolerance_32 : decode cX5_baseTolerance 32 = .ok (.iload_n 2, 1) := by decide +kernel
theorem dX5_baseTolerance_33 : decode cX5_baseTolerance 33 = .ok (.imul, 1) := by decide +kernel
theorem dX5_baseTolerance_34 : decode cX5_baseTolerance 34 = .ok (.iadd, 1) := by decide +kernel
theorem dX5_baseTolerance_35 : decode cX5_baseTolerance 35 = .ok (.iload_n 3, 1) := by decide +kernel
theorem dX5_baseTolerance_36 : decode cX5_baseTolerance 36 = .ok (.iadd, 1) := by decide +kernel
theorem dX5_baseTolerance_37 : decode cX5_baseTolerance 37 = .ok (.istore 5, 2) := by decide +kernel
theorem dX5_baseTolerance_39 : decode cX5_baseTolerance 39 = .ok (.bipush 60, 2) := by decide +kernel
theorem dX5_baseTolerance_41 : decode cX5_baseTolerance 41 = .ok (.iconst 2, 1) := by decide +kernel
theorem dX5_baseTolerance_42 : decode cX5_baseTolerance 42 = .ok (.iload_n 3, 1) := by decide +kernel
theorem dX5_baseTolerance_43 : decode cX5_baseTolerance 43 = .ok (.imul, 1) := by decide +kernel
theorem dX5_baseTolerance_44 : decode cX5_baseTolerance 44 = .ok (.iadd, 1) := by decide +kernel
theorem dX5_baseTolerance_45 : decode cX5_baseTolerance 45 = .ok (.istore 6, 2) := by decide +kernel
theorem dX5_baseTolerance_47 : decode cX5_baseTolerance 47 = .ok (.iload_n 1, 1) := by decide +kernel
theorem dX5_baseTolerance_48 : decode cX5_baseTolerance 48 = .ok (.tableswitch 89 0 6 #[44, 53, 56, 65, 68, 77, 86], 44) := by decide +kernel
theorem dX5_baseTolerance_92 : decode cX5_baseTolerance 92 = .ok (.bipush 30, 2) := by decide +kernel
theorem dX5_baseTolerance_94 : decode cX5_baseTolerance 94 = .ok (.iconst 3, 1) := by decide +kernel
theorem dX5_baseTolerance_95 : decode cX5_baseTolerance 95 = .ok (.iload_n 2, 1) := by decide +kernel
theorem dX5_baseTolerance_96 : decode cX5_baseTolerance 96 = .ok (.imul, 1) := by decide +kernel
theorem dX5_baseTolerance_97 : decode cX5_baseTolerance 97 = .ok (.iadd, 1) := by decide +kernel
theorem dX5_baseTolerance_98 : decode cX5_baseTolerance 98 = .ok (.iload_n 3, 1) := by decide +kernel
theorem dX5_baseTolerance_99 : decode cX5_baseTolerance 99 = .ok (.iadd, 1) := by decide +kernel
theorem dX5_baseTolerance_100 : decode cX5_baseTolerance 100 = .ok (.ireturn, 1) := by decide +kernel
theorem dX5_baseTolerance_101 : decode cX5_baseTolerance 101 = .ok (.iload 4, 2) := by decide +kernel
theorem dX5_baseTolerance_103 : decode cX5_baseTolerance 103 = .ok (.ireturn, 1) := by decide +kernel
theorem dX5_baseTolerance_104 : decode cX5_baseTolerance 104 = .ok (.iload 4, 2) := by decide +kernel
theorem dX5_baseTolerance_106 : decode cX5_baseTolerance 106 = .ok (.bipush 8, 2) := by decide +kernel
theorem dX5_baseTolerance_108 : decode cX5_baseTolerance 108 = .ok (.imul, 1) := by decide +kernel
theorem dX5_baseTolerance_109 : decode cX5_baseTolerance 109 = .ok (.bipush 10, 2) := by decide +kernel
theorem dX5_baseTolerance_111 : decode cX5_baseTolerance 111 = .ok (.idiv, 1) := by decide +kernel
theorem dX5_baseTolerance_112 : decode cX5_baseTolerance 112 = .ok (.ireturn, 1) := by decide +kernel
theorem dX5_baseTolerance_113 : decode cX5_baseTolerance 113 = .ok (.iload 5, 2) := by decide +kernel
theorem dX5_baseTolerance_115 : decode cX5_baseTolerance 115 = .ok (.ireturn, 1) := by decide +kernel
theorem dX5_baseTolerance_116 : decode cX5_baseTolerance 116 = .ok (.iload 5, 2) := by decide +kernel
theorem dX5_baseTolerance_118 : decode cX5_baseTolerance 118 = .ok (.bipush 7, 2) := by decide +kernel
theorem dX5_baseTolerance_120 : decode cX5_baseTolerance 120 = .ok (.imul, 1) := by decide +kernel
theorem dX5_baseTolerance_121 : decode cX5_baseTolerance 121 = .ok (.bipush 10, 2) := by decide +kernel
theorem dX5_baseTolerance_123 : decode cX5_baseTolerance 123 = .ok (.idiv, 1) := by decide +kernel
theorem dX5_baseTolerance_124 : decode cX5_baseTolerance 124 = .ok (.ireturn, 1) := by decide +kernel
theorem dX5_baseTolerance_125 : decode cX5_baseTolerance 125 = .ok (.iload 5, 2) := by decide +kernel
theorem dX5_baseTolerance_127 : decode cX5_baseTolerance 127 = .ok (.bipush 8, 2) := by decide +kernel
theorem dX5_baseTolerance_129 : decode cX5_baseTolerance 129 = .ok (.imul, 1) := by decide +kernel
theorem dX5_baseTolerance_130 : decode cX5_baseTolerance 130 = .ok (.bipush 10, 2) := by decide +kernel
theorem dX5_baseTolerance_132 : decode cX5_baseTolerance 132 = .ok (.idiv, 1) := by decide +kernel
theorem dX5_baseTolerance_133 : decode cX5_baseTolerance 133 = .ok (.ireturn, 1) := by decide +kernel
theorem dX5_baseTolerance_134 : decode cX5_baseTolerance 134 = .ok (.iload 6, 2) := by decide +kernel
theorem dX5_baseTolerance_136 : decode cX5_baseTolerance 136 = .ok (.ireturn, 1) := by decide +kernel
theorem dX5_baseTolerance_137 : decode cX5_baseTolerance 137 = .ok (.iload 6, 2) := by decide +kernel
theorem dX5_baseTolerance_139 : decode cX5_baseTolerance 139 = .ok (.bipush 6, 2) := by decide +kernel
theorem dX5_baseTolerance_141 : decode cX5_baseTolerance 141 = .ok (.imul, 1) := by decide +kernel
theorem dX5_baseTolerance_142 : decode cX5_baseTolerance 142 = .ok (.bipush 10, 2) := by decide +kernel
theorem dX5_baseTolerance_144 : decode cX5_baseTolerance 144 = .ok (.idiv, 1) := by decide +kernel
theorem dX5_baseTolerance_145 : decode cX5_baseTolerance 145 = .ok (.ireturn, 1) := by decide +kernel
theorem dX5_ofClass_0 : decode cX5_ofClass 0 = .ok (.iload_n 0, 1) := by decide +kernel
theorem dX5_ofClass_1 : decode cX5_ofClass 1 = .ok (.istore_n 2, 1) := by decide +kernel
theorem dX5_ofClass_2 : decode cX5_ofClass 2 = .ok (.iconst 5, 1) := by decide +kernel
theorem dX5_ofClass_3 : decode cX5_ofClass 3 = .ok (.istore_n 3, 1) := by decide +kernel
theorem dX5_ofClass_4 : decode cX5_ofClass 4 = .ok (.iload_n 3, 1) := by decide +kernel
theorem dX5_ofClass_5 : decode cX5_ofClass 5 = .ok (.iload_n 1, 1) := by decide +kernel
theorem dX5_ofClass_6 : decode cX5_ofClass 6 = .ok (.if_icmp .ge 19, 3) := by decide +kernel
theorem dX5_ofClass_9 : decode cX5_ofClass 9 = .ok (.iload_n 2, 1) := by decide +kernel
theorem dX5_ofClass_10 : decode cX5_ofClass 10 = .ok (.sipush 1414, 3) := by decide +kernel
theorem dX5_ofClass_13 : decode cX5_ofClass 13 = .ok (.imul, 1) := by decide +kernel
theorem dX5_ofClass_14 : decode cX5_ofClass 14 = .ok (.sipush 1000, 3) := by decide +kernel
theorem dX5_ofClass_17 : decode cX5_ofClass 17 = .ok (.idiv, 1) := by decide +kernel
theorem dX5_ofClass_18 : decode cX5_ofClass 18 = .ok (.istore_n 2, 1) := by decide +kernel
theorem dX5_ofClass_19 : decode cX5_ofClass 19 = .ok (.iinc 3 1, 3) := by decide +kernel
theorem dX5_ofClass_22 : decode cX5_ofClass 22 = .ok (.goto (-18), 3) := by decide +kernel
theorem dX5_ofClass_25 : decode cX5_ofClass 25 = .ok (.iconst 5, 1) := by decide +kernel
theorem dX5_ofClass_26 : decode cX5_ofClass 26 = .ok (.istore_n 3, 1) := by decide +kernel
theorem dX5_ofClass_27 : decode cX5_ofClass 27 = .ok (.iload_n 3, 1) := by decide +kernel
theorem dX5_ofClass_28 : decode cX5_ofClass 28 = .ok (.iload_n 1, 1) := by decide +kernel
theorem dX5_ofClass_29 : decode cX5_ofClass 29 = .ok (.if_icmp .le 19, 3) := by decide +kernel
theorem dX5_ofClass_32 : decode cX5_ofClass 32 = .ok (.iload_n 2, 1) := by decide +kernel
theorem dX5_ofClass_33 : decode cX5_ofClass 33 = .ok (.sipush 1000, 3) := by decide +kernel
theorem dX5_ofClass_36 : decode cX5_ofClass 36 = .ok (.imul, 1) := by decide +kernel
theorem dX5_ofClass_37 : decode cX5_ofClass 37 = .ok (.sipush 1414, 3) := by decide +kernel
theorem dX5_ofClass_40 : decode cX5_ofClass 40 = .ok (.idiv, 1) := by decide +kernel
theorem dX5_ofClass_41 : decode cX5_ofClass 41 = .ok (.istore_n 2, 1) := by decide +kernel
theorem dX5_ofClass_42 : decode cX5_ofClass 42 = .ok (.iinc 3 (-1), 3) := by decide +kernel
theorem dX5_ofClass_45 : decode cX5_ofClass 45 = .ok (.goto (-18), 3) := by decide +kernel
theorem dX5_ofClass_48 : decode cX5_ofClass 48 = .ok (.iload_n 2, 1) := by decide +kernel
theorem dX5_ofClass_49 : decode cX5_ofClass 49 = .ok (.ireturn, 1) := by decide +kernel
theorem dX5_classOf_0 : decode cX5_classOf 0 = .ok (.iconst 1, 1) := by decide +kernel
theorem dX5_classOf_1 : decode cX5_classOf 1 = .ok (.istore_n 2, 1) := by decide +kernel
theorem dX5_classOf_2 : decode cX5_classOf 2 = .ok (.iload_n 2, 1) := by decide +kernel
theorem dX5_classOf_3 : decode cX5_classOf 3 = .ok (.bipush 12, 2) := by decide +kernel
theorem dX5_classOf_5 : decode cX5_classOf 5 = .ok (.if_icmp .gt 20, 3) := by decide +kernel
theorem dX5_classOf_8 : decode cX5_classOf 8 = .ok (.iload_n 0, 1) := by decide +kernel
theorem dX5_classOf_9 : decode cX5_classOf 9 = .ok (.iload_n 2, 1) := by decide +kernel
theorem dX5_classOf_10 : decode cX5_classOf 10 = .ok (.invokestatic 245, 3) := by decide +kernel
theorem dX5_classOf_13 : decode cX5_classOf 13 = .ok (.iload_n 1, 1) := by decide +kernel
theorem dX5_classOf_14 : decode cX5_classOf 14 = .ok (.if_icmp .lt 5, 3) := by decide +kernel
theorem dX5_classOf_17 : decode cX5_classOf 17 = .ok (.iload_n 2, 1) := by decide +kernel
theorem dX5_classOf_18 : decode cX5_classOf 18 = .ok (.ireturn, 1) := by decide +kernel
theorem dX5_classOf_19 : decode cX5_classOf 19 = .ok (.iinc 2 1, 3) := by decide +kernel
theorem dX5_classOf_22 : decode cX5_classOf 22 = .ok (.goto (-20), 3) := by decide +kernel
theorem dX5_classOf_25 : decode cX5_classOf 25 = .ok (.bipush 13, 2) := by decide +kernel
theorem dX5_classOf_27 : decode cX5_classOf 27 = .ok (.ireturn, 1) := by decide +kernel
theorem dX5_root_0 : decode cX5_root 0 = .ok (.iconst 0, 1) := by decide +kernel
theorem dX5_root_1 : decode cX5_root 1 = .ok (.istore_n 1, 1) := by decide +kernel
theorem dX5_root_2 : decode cX5_root 2 = .ok (.iconst 1, 1) := by decide +kernel
theorem dX5_root_3 : decode cX5_root 3 = .ok (.istore_n 2, 1) := by decide +kernel
theorem dX5_root_4 : decode cX5_root 4 = .ok (.iload_n 2, 1) := by decide +kernel
theorem dX5_root_5 : decode cX5_root 5 = .ok (.iload_n 0, 1) := by decide +kernel
theorem dX5_root_6 : decode cX5_root 6 = .ok (.if_icmp .gt 18, 3) := by decide +kernel
theorem dX5_root_9 : decode cX5_root 9 = .ok (.iload_n 2, 1) := by decide +kernel
theorem dX5_root_10 : decode cX5_root 10 = .ok (.iload_n 2, 1) := by decide +kernel
theorem dX5_root_11 : decode cX5_root 11 = .ok (.imul, 1) := by decide +kernel
theorem dX5_root_12 : decode cX5_root 12 = .ok (.iload_n 0, 1) := by decide +kernel
theorem dX5_root_13 : decode cX5_root 13 = .ok (.if_icmp .gt 11, 3) := by decide +kernel
theorem dX5_root_16 : decode cX5_root 16 = .ok (.iload_n 2, 1) := by decide +kernel
theorem dX5_root_17 : decode cX5_root 17 = .ok (.istore_n 1, 1) := by decide +kernel
theorem dX5_root_18 : decode cX5_root 18 = .ok (.iinc 2 1, 3) := by decide +kernel
theorem dX5_root_21 : decode cX5_root 21 = .ok (.goto (-17), 3) := by decide +kernel
theorem dX5_root_24 : decode cX5_root 24 = .ok (.iload_n 1, 1) := by decide +kernel
theorem dX5_root_25 : decode cX5_root 25 = .ok (.ireturn, 1) := by decide +kernel
theorem dX5_rounded_0 : decode cX5_rounded 0 = .ok (.lload_n 2, 1) := by decide +kernel
theorem dX5_rounded_1 : decode cX5_rounded 1 = .ok (.lconst 1, 1) := by decide +kernel
theorem dX5_rounded_2 : decode cX5_rounded 2 = .ok (.lcmp, 1) := by decide +kernel
theorem dX5_rounded_3 : decode cX5_rounded 3 = .ok (.ifCond .ge 5, 3) := by decide +kernel
theorem dX5_rounded_6 : decode cX5_rounded 6 = .ok (.iconst 0, 1) := by decide +kernel
theorem dX5_rounded_7 : decode cX5_rounded 7 = .ok (.ireturn, 1) := by decide +kernel
theorem dX5_rounded_8 : decode cX5_rounded 8 = .ok (.ldc2_w 341, 3) := by decide +kernel
theorem dX5_rounded_11 : decode cX5_rounded 11 = .ok (.lload_n 0, 1) := by decide +kernel
theorem dX5_rounded_12 : decode cX5_rounded 12 = .ok (.lmul, 1) := by decide +kernel
theorem dX5_rounded_13 : decode cX5_rounded 13 = .ok (.lload_n 2, 1) := by decide +kernel
theorem dX5_rounded_14 : decode cX5_rounded 14 = .ok (.ladd, 1) := by decide +kernel
theorem dX5_rounded_15 : decode cX5_rounded 15 = .ok (.ldc2_w 341, 3) := by decide +kernel
theorem dX5_rounded_18 : decode cX5_rounded 18 = .ok (.lload_n 2, 1) := by decide +kernel
theorem dX5_rounded_19 : decode cX5_rounded 19 = .ok (.lmul, 1) := by decide +kernel
theorem dX5_rounded_20 : decode cX5_rounded 20 = .ok (.invokestatic 343, 3) := by decide +kernel
theorem dX5_rounded_23 : decode cX5_rounded 23 = .ok (.l2i, 1) := by decide +kernel
theorem dX5_rounded_24 : decode cX5_rounded 24 = .ok (.ireturn, 1) := by decide +kernel
theorem dX5_commonDivisor_0 : decode cX5_commonDivisor 0 = .ok (.lload_n 0, 1) := by decide +kernel
theorem dX5_commonDivisor_1 : decode cX5_commonDivisor 1 = .ok (.invokestatic 346, 3) := by decide +kernel
theorem dX5_commonDivisor_4 : decode cX5_commonDivisor 4 = .ok (.lstore 4, 2) := by decide +kernel
theorem dX5_commonDivisor_6 : decode cX5_commonDivisor 6 = .ok (.lload_n 2, 1) := by decide +kernel
theorem dX5_commonDivisor_7 : decode cX5_commonDivisor 7 = .ok (.invokestatic 346, 3) := by decide +kernel
theorem dX5_commonDivisor_10 : decode cX5_commonDivisor 10 = .ok (.lstore 6, 2) := by decide +kernel
theorem dX5_commonDivisor_12 : decode cX5_commonDivisor 12 = .ok (.iconst 0, 1) := by decide +kernel
theorem dX5_commonDivisor_13 : decode cX5_commonDivisor 13 = .ok (.istore 8, 2) := by decide +kernel
theorem dX5_commonDivisor_15 : decode cX5_commonDivisor 15 = .ok (.iload 8, 2) := by decide +kernel
theorem dX5_commonDivisor_17 : decode cX5_commonDivisor 17 = .ok (.bipush 100, 2) := by decide +kernel
theorem dX5_commonDivisor_19 : decode cX5_commonDivisor 19 = .ok (.if_icmp .ge 31, 3) := by decide +kernel
theorem dX5_commonDivisor_22 : decode cX5_commonDivisor 22 = .ok (.lload 6, 2) := by decide +kernel
theorem dX5_commonDivisor_24 : decode cX5_commonDivisor 24 = .ok (.lconst 0, 1) := by decide +kernel
theorem dX5_commonDivisor_25 : decode cX5_commonDivisor 25 = .ok (.lcmp, 1) := by decide +kernel
theorem dX5_commonDivisor_26 : decode cX5_commonDivisor 26 = .ok (.ifCond .eq 24, 3) := by decide +kernel
theorem dX5_commonDivisor_29 : decode cX5_commonDivisor 29 = .ok (.lload 4, 2) := by decide +kernel
theorem dX5_commonDivisor_31 : decode cX5_commonDivisor 31 = .ok (.lload 6, 2) := by decide +kernel
theorem dX5_commonDivisor_33 : decode cX5_commonDivisor 33 = .ok (.lrem, 1) := by decide +kernel
theorem dX5_commonDivisor_34 : decode cX5_commonDivisor 34 = .ok (.lstore 9, 2) := by decide +kernel
theorem dX5_commonDivisor_36 : decode cX5_commonDivisor 36 = .ok (.lload 6, 2) := by decide +kernel
theorem dX5_commonDivisor_38 : decode cX5_commonDivisor 38 = .ok (.lstore 4, 2) := by decide +kernel
theorem dX5_commonDivisor_40 : decode cX5_commonDivisor 40 = .ok (.lload 9, 2) := by decide +kernel
theorem dX5_commonDivisor_42 : decode cX5_commonDivisor 42 = .ok (.lstore 6, 2) := by decide +kernel
theorem dX5_commonDivisor_44 : decode cX5_commonDivisor 44 = .ok (.iinc 8 1, 3) := by decide +kernel
theorem dX5_commonDivisor_47 : decode cX5_commonDivisor 47 = .ok (.goto (-32), 3) := by decide +kernel
theorem dX5_commonDivisor_50 : decode cX5_commonDivisor 50 = .ok (.lload 4, 2) := by decide +kernel
theorem dX5_commonDivisor_52 : decode cX5_commonDivisor 52 = .ok (.lreturn, 1) := by decide +kernel
theorem dX5_mixed_0 : decode cX5_mixed 0 = .ok (.ldc2_w 350, 3) := by decide +kernel
theorem dX5_mixed_3 : decode cX5_mixed 3 = .ok (.lload_n 0, 1) := by decide +kernel
theorem dX5_mixed_4 : decode cX5_mixed 4 = .ok (.lmul, 1) := by decide +kernel
theorem dX5_mixed_5 : decode cX5_mixed 5 = .ok (.iload_n 2, 1) := by decide +kernel
theorem dX5_mixed_6 : decode cX5_mixed 6 = .ok (.i2l, 1) := by decide +kernel
theorem dX5_mixed_7 : decode cX5_mixed 7 = .ok (.ladd, 1) := by decide +kernel
theorem dX5_mixed_8 : decode cX5_mixed 8 = .ok (.lreturn, 1) := by decide +kernel
