theorem dX1_init_0 : decode cX1_init 0 = .ok (.aload_n 0, 1) := by decide +kernel
theorem dX1_init_1 : decode cX1_init 1 = .ok (.invokespecial 3, 3) := by decide +kernel
theorem dX1_init_4 : decode cX1_init 4 = .ok (.aload_n 0, 1) := by decide +kernel
theorem dX1_init_5 : decode cX1_init 5 = .ok (.bipush 12, 2) := by decide +kernel
theorem dX1_init_7 : decode cX1_init 7 = .ok (.newarray .int, 2) := by decide +kernel
theorem dX1_init_9 : decode cX1_init 9 = .ok (.putfield 9, 3) := by decide +kernel
theorem dX1_init_12 : decode cX1_init 12 = .ok (.return_, 1) := by decide +kernel
theorem dX1_copyFrom_0 : decode cX1_copyFrom 0 = .ok (.aload_n 0, 1) := by decide +kernel
theorem dX1_copyFrom_1 : decode cX1_copyFrom 1 = .ok (.aload_n 1, 1) := by decide +kernel
theorem dX1_copyFrom_2 : decode cX1_copyFrom 2 = .ok (.getfield 15, 3) := by decide +kernel
theorem dX1_copyFrom_5 : decode cX1_copyFrom 5 = .ok (.putfield 15, 3) := by decide +kernel
theorem dX1_copyFrom_8 : decode cX1_copyFrom 8 = .ok (.aload_n 0, 1) := by decide +kernel
theorem dX1_copyFrom_9 : decode cX1_copyFrom 9 = .ok (.aload_n 1, 1) := by decide +kernel
theorem dX1_copyFrom_10 : decode cX1_copyFrom 10 = .ok (.getfield 19, 3) := by decide +kernel
theorem dX1_copyFrom_13 : decode cX1_copyFrom 13 = .ok (.putfield 19, 3) := by decide +kernel
theorem dX1_copyFrom_16 : decode cX1_copyFrom 16 = .ok (.aload_n 0, 1) := by decide +kernel
theorem dX1_copyFrom_17 : decode cX1_copyFrom 17 = .ok (.aload_n 1, 1) := by decide +kernel
theorem dX1_copyFrom_18 : decode cX1_copyFrom 18 = .ok (.getfield 22, 3) := by decide +kernel
theorem dX1_copyFrom_21 : decode cX1_copyFrom 21 = .ok (.putfield 22, 3) := by decide +kernel
theorem dX1_copyFrom_24 : decode cX1_copyFrom 24 = .ok (.aload_n 0, 1) := by decide +kernel
theorem dX1_copyFrom_25 : decode cX1_copyFrom 25 = .ok (.aload_n 1, 1) := by decide +kernel
theorem dX1_copyFrom_26 : decode cX1_copyFrom 26 = .ok (.getfield 25, 3) := by decide +kernel
theorem dX1_copyFrom_29 : decode cX1_copyFrom 29 = .ok (.putfield 25, 3) := by decide +kernel
theorem dX1_copyFrom_32 : decode cX1_copyFrom 32 = .ok (.aload_n 0, 1) := by decide +kernel
theorem dX1_copyFrom_33 : decode cX1_copyFrom 33 = .ok (.aload_n 1, 1) := by decide +kernel
theorem dX1_copyFrom_34 : decode cX1_copyFrom 34 = .ok (.getfield 29, 3) := by decide +kernel
theorem dX1_copyFrom_37 : decode cX1_copyFrom 37 = .ok (.putfield 29, 3) := by decide +kernel
theorem dX1_copyFrom_40 : decode cX1_copyFrom 40 = .ok (.aload_n 0, 1) := by decide +kernel
theorem dX1_copyFrom_41 : decode cX1_copyFrom 41 = .ok (.aload_n 1, 1) := by decide +kernel
theorem dX1_copyFrom_42 : decode cX1_copyFrom 42 = .ok (.getfield 32, 3) := by decide +kernel
theorem dX1_copyFrom_45 : decode cX1_copyFrom 45 = .ok (.putfield 32, 3) := by decide +kernel
theorem dX1_copyFrom_48 : decode cX1_copyFrom 48 = .ok (.aload_n 0, 1) := by decide +kernel
theorem dX1_copyFrom_49 : decode cX1_copyFrom 49 = .ok (.aload_n 1, 1) := by decide +kernel
theorem dX1_copyFrom_50 : decode cX1_copyFrom 50 = .ok (.getfield 35, 3) := by decide +kernel
theorem dX1_copyFrom_53 : decode cX1_copyFrom 53 = .ok (.putfield 35, 3) := by decide +kernel
theorem dX1_copyFrom_56 : decode cX1_copyFrom 56 = .ok (.aload_n 1, 1) := by decide +kernel
theorem dX1_copyFrom_57 : decode cX1_copyFrom 57 = .ok (.getfield 9, 3) := by decide +kernel
theorem dX1_copyFrom_60 : decode cX1_copyFrom 60 = .ok (.iconst 0, 1) := by decide +kernel
theorem dX1_copyFrom_61 : decode cX1_copyFrom 61 = .ok (.aload_n 0, 1) := by decide +kernel
theorem dX1_copyFrom_62 : decode cX1_copyFrom 62 = .ok (.getfield 9, 3) := by decide +kernel
theorem dX1_copyFrom_65 : decode cX1_copyFrom 65 = .ok (.iconst 0, 1) := by decide +kernel
theorem dX1_copyFrom_66 : decode cX1_copyFrom 66 = .ok (.bipush 12, 2) := by decide +kernel
theorem dX1_copyFrom_68 : decode cX1_copyFrom 68 = .ok (.invokestatic 38, 3) := by decide +kernel
theorem dX1_copyFrom_71 : decode cX1_copyFrom 71 = .ok (.return_, 1) := by decide +kernel
theorem dX1_reset_0 : decode cX1_reset 0 = .ok (.aload_n 0, 1) := by decide +kernel
theorem dX1_reset_1 : decode cX1_reset 1 = .ok (.iload_n 1, 1) := by decide +kernel
theorem dX1_reset_2 : decode cX1_reset 2 = .ok (.putfield 15, 3) := by decide +kernel
theorem dX1_reset_5 : decode cX1_reset 5 = .ok (.aload_n 0, 1) := by decide +kernel
theorem dX1_reset_6 : decode cX1_reset 6 = .ok (.iload_n 2, 1) := by decide +kernel
theorem dX1_reset_7 : decode cX1_reset 7 = .ok (.putfield 19, 3) := by decide +kernel
theorem dX1_reset_10 : decode cX1_reset 10 = .ok (.aload_n 0, 1) := by decide +kernel
theorem dX1_reset_11 : decode cX1_reset 11 = .ok (.iconst 0, 1) := by decide +kernel
theorem dX1_reset_12 : decode cX1_reset 12 = .ok (.putfield 22, 3) := by decide +kernel
theorem dX1_reset_15 : decode cX1_reset 15 = .ok (.aload_n 0, 1) := by decide +kernel
theorem dX1_reset_16 : decode cX1_reset 16 = .ok (.lconst 0, 1) := by decide +kernel
theorem dX1_reset_17 : decode cX1_reset 17 = .ok (.putfield 25, 3) := by decide +kernel
theorem dX1_reset_20 : decode cX1_reset 20 = .ok (.aload_n 0, 1) := by decide +kernel
theorem dX1_reset_21 : decode cX1_reset 21 = .ok (.lconst 0, 1) := by decide +kernel
theorem dX1_reset_22 : decode cX1_reset 22 = .ok (.putfield 29, 3) := by decide +kernel
theorem dX1_reset_25 : decode cX1_reset 25 = .ok (.aload_n 0, 1) := by decide +kernel
theorem dX1_reset_26 : decode cX1_reset 26 = .ok (.lconst 0, 1) := by decide +kernel
theorem dX1_reset_27 : decode cX1_reset 27 = .ok (.putfield 32, 3) := by decide +kernel
theorem dX1_reset_30 : decode cX1_reset 30 = .ok (.aload_n 0, 1) := by decide +kernel
theorem dX1_reset_31 : decode cX1_reset 31 = .ok (.lconst 0, 1) := by decide +kernel
theorem dX1_reset_32 : decode cX1_reset 32 = .ok (.putfield 35, 3) := by decide +kernel
theorem dX1_reset_35 : decode cX1_reset 35 = .ok (.return_, 1) := by decide +kernel
theorem dX1_push_0 : decode cX1_push 0 = .ok (.aload_n 0, 1) := by decide +kernel
theorem dX1_push_1 : decode cX1_push 1 = .ok (.getfield 22, 3) := by decide +kernel
theorem dX1_push_4 : decode cX1_push 4 = .ok (.bipush 12, 2) := by decide +kernel
theorem dX1_push_6 : decode cX1_push 6 = .ok (.if_icmp .ge 85, 3) := by decide +kernel
theorem dX1_push_9 : decode cX1_push 9 = .ok (.aload_n 0, 1) := by decide +kernel
theorem dX1_push_10 : decode cX1_push 10 = .ok (.getfield 9, 3) := by decide +kernel
theorem dX1_push_13 : decode cX1_push 13 = .ok (.aload_n 0, 1) := by decide +kernel
theorem dX1_push_14 : decode cX1_push 14 = .ok (.getfield 22, 3) := by decide +kernel
theorem dX1_push_17 : decode cX1_push 17 = .ok (.iload_n 1, 1) := by decide +kernel
theorem dX1_push_18 : decode cX1_push 18 = .ok (.iastore, 1) := by decide +kernel
theorem dX1_push_19 : decode cX1_push 19 = .ok (.aload_n 0, 1) := by decide +kernel
theorem dX1_push_20 : decode cX1_push 20 = .ok (.dup, 1) := by decide +kernel
theorem dX1_push_21 : decode cX1_push 21 = .ok (.getfield 25, 3) := by decide +kernel
theorem dX1_push_24 : decode cX1_push 24 = .ok (.aload_n 0, 1) := by decide +kernel
theorem dX1_push_25 : decode cX1_push 25 = .ok (.getfield 22, 3) := by decide +kernel
theorem dX1_push_28 : decode cX1_push 28 = .ok (.i2l, 1) := by decide +kernel
theorem dX1_push_29 : decode cX1_push 29 = .ok (.ladd, 1) := by decide +kernel
theorem dX1_push_30 : decode cX1_push 30 = .ok (.putfield 25, 3) := by decide +kernel
theorem dX1_push_33 : decode cX1_push 33 = .ok (.aload_n 0, 1) := by decide +kernel
theorem dX1_push_34 : decode cX1_push 34 = .ok (.dup, 1) := by decide +kernel
theorem dX1_push_35 : decode cX1_push 35 = .ok (.getfield 29, 3) := by decide +kernel
theorem dX1_push_38 : decode cX1_push 38 = .ok (.aload_n 0, 1) := by decide +kernel
theorem dX1_push_39 : decode cX1_push 39 = .ok (.getfield 22, 3) := by decide +kernel
theorem dX1_push_42 : decode cX1_push 42 = .ok (.i2l, 1) := by decide +kernel
theorem dX1_push_43 : decode cX1_push 43 = .ok (.aload_n 0, 1) := by decide +kernel
theorem dX1_push_44 : decode cX1_push 44 = .ok (.getfield 22, 3) := by decide +kernel
theorem dX1_push_47 : decode cX1_push 47 = .ok (.i2l, 1) := by decide +kernel
theorem dX1_push_48 : decode cX1_push 48 = .ok (.lmul, 1) := by decide +kernel
theorem dX1_push_49 : decode cX1_push 49 = .ok (.ladd, 1) := by decide +kernel
theorem dX1_push_50 : decode cX1_push 50 = .ok (.putfield 29, 3) := by decide +kernel
theorem dX1_push_53 : decode cX1_push 53 = .ok (.aload_n 0, 1) := by decide +kernel
theorem dX1_push_54 : decode cX1_push 54 = .ok (.dup, 1) := by decide +kernel
theorem dX1_push_55 : decode cX1_push 55 = .ok (.getfield 32, 3) := by decide +kernel
theorem dX1_push_58 : decode cX1_push 58 = .ok (.iload_n 1, 1) := by decide +kernel
theorem dX1_push_59 : decode cX1_push 59 = .ok (.i2l, 1) := by decide +kernel
theorem dX1_push_60 : decode cX1_push 60 = .ok (.ladd, 1) := by decide +kernel
theorem dX1_push_61 : decode cX1_push 61 = .ok (.putfield 32, 3) := by decide +kernel
theorem dX1_push_64 : decode cX1_push 64 = .ok (.aload_n 0, 1) := by decide +kernel
theorem dX1_push_65 : decode cX1_push 65 = .ok (.dup, 1) := by decide +kernel
theorem dX1_push_66 : decode cX1_push 66 = .ok (.getfield 35, 3) := by decide +kernel
theorem dX1_push_69 : decode cX1_push 69 = .ok (.aload_n 0, 1) := by decide +kernel
theorem dX1_push_70 : decode cX1_push 70 = .ok (.getfield 22, 3) := by decide +kernel
theorem dX1_push_73 : decode cX1_push 73 = .ok (.i2l, 1) := by decide +kernel
theorem dX1_push_74 : decode cX1_push 74 = .ok (.iload_n 1, 1) := by decide +kernel
theorem dX1_push_75 : decode cX1_push 75 = .ok (.i2l, 1) := by decide +kernel
theorem dX1_push_76 : decode cX1_push 76 = .ok (.lmul, 1) := by decide +kernel
theorem dX1_push_77 : decode cX1_push 77 = .ok (.ladd, 1) := by decide +kernel
theorem dX1_push_78 : decode cX1_push 78 = .ok (.putfield 35, 3) := by decide +kernel
theorem dX1_push_81 : decode cX1_push 81 = .ok (.aload_n 0, 1) := by decide +kernel
theorem dX1_push_82 : decode cX1_push 82 = .ok (.dup, 1) := by decide +kernel
theorem dX1_push_83 : decode cX1_push 83 = .ok (.getfield 22, 3) := by decide +kernel
theorem dX1_push_86 : decode cX1_push 86 = .ok (.iconst 1, 1) := by decide +kernel
theorem dX1_push_87 : decode cX1_push 87 = .ok (.iadd, 1) := by decide +kernel
theorem dX1_push_88 : decode cX1_push 88 = .ok (.putfield 22, 3) := by decide +kernel
theorem dX1_push_91 : decode cX1_push 91 = .ok (.return_, 1) := by decide +kernel
theorem dX1_isMeasured_0 : decode cX1_isMeasured 0 = .ok (.aload_n 0, 1) := by decide +kernel
theorem dX1_isMeasured_1 : decode cX1_isMeasured 1 = .ok (.getfield 22, 3) := by decide +kernel
theorem dX1_isMeasured_4 : decode cX1_isMeasured 4 = .ok (.iconst 3, 1) := by decide +kernel
theorem dX1_isMeasured_5 : decode cX1_isMeasured 5 = .ok (.if_icmp .lt 7, 3) := by decide +kernel
theorem dX1_isMeasured_8 : decode cX1_isMeasured 8 = .ok (.iconst 1, 1) := by decide +kernel
theorem dX1_isMeasured_9 : decode cX1_isMeasured 9 = .ok (.goto 4, 3) := by decide +kernel
theorem dX1_isMeasured_12 : decode cX1_isMeasured 12 = .ok (.iconst 0, 1) := by decide +kernel
theorem dX1_isMeasured_13 : decode cX1_isMeasured 13 = .ok (.ireturn, 1) := by decide +kernel
theorem dX1_deviationOf_0 : decode cX1_deviationOf 0 = .ok (.iload_n 1, 1) := by decide +kernel
theorem dX1_deviationOf_1 : decode cX1_deviationOf 1 = .ok (.lookupswitch 52 #[(0, 27), (1, 32)], 27) := by decide +kernel
theorem dX1_deviationOf_28 : decode cX1_deviationOf 28 = .ok (.aload_n 0, 1) := by decide +kernel
theorem dX1_deviationOf_29 : decode cX1_deviationOf 29 = .ok (.invokevirtual 44, 3) := by decide +kernel
theorem dX1_deviationOf_32 : decode cX1_deviationOf 32 = .ok (.ireturn, 1) := by decide +kernel
theorem dX1_deviationOf_33 : decode cX1_deviationOf 33 = .ok (.aload_n 0, 1) := by decide +kernel
theorem dX1_deviationOf_34 : decode cX1_deviationOf 34 = .ok (.invokevirtual 48, 3) := by decide +kernel
theorem dX1_deviationOf_37 : decode cX1_deviationOf 37 = .ok (.aload_n 0, 1) := by decide +kernel
theorem dX1_deviationOf_38 : decode cX1_deviationOf 38 = .ok (.getfield 22, 3) := by decide +kernel
theorem dX1_deviationOf_41 : decode cX1_deviationOf 41 = .ok (.iconst 1, 1) := by decide +kernel
theorem dX1_deviationOf_42 : decode cX1_deviationOf 42 = .ok (.isub, 1) := by decide +kernel
theorem dX1_deviationOf_43 : decode cX1_deviationOf 43 = .ok (.i2l, 1) := by decide +kernel
theorem dX1_deviationOf_44 : decode cX1_deviationOf 44 = .ok (.lmul, 1) := by decide +kernel
theorem dX1_deviationOf_45 : decode cX1_deviationOf 45 = .ok (.aload_n 0, 1) := by decide +kernel
theorem dX1_deviationOf_46 : decode cX1_deviationOf 46 = .ok (.invokevirtual 52, 3) := by decide +kernel
theorem dX1_deviationOf_49 : decode cX1_deviationOf 49 = .ok (.invokestatic 55, 3) := by decide +kernel
theorem dX1_deviationOf_52 : decode cX1_deviationOf 52 = .ok (.ireturn, 1) := by decide +kernel
theorem dX1_deviationOf_53 : decode cX1_deviationOf 53 = .ok (.aload_n 0, 1) := by decide +kernel
theorem dX1_deviationOf_54 : decode cX1_deviationOf 54 = .ok (.invokevirtual 59, 3) := by decide +kernel
theorem dX1_deviationOf_57 : decode cX1_deviationOf 57 = .ok (.aload_n 0, 1) := by decide +kernel
theorem dX1_deviationOf_58 : decode cX1_deviationOf 58 = .ok (.invokevirtual 52, 3) := by decide +kernel
theorem dX1_deviationOf_61 : decode cX1_deviationOf 61 = .ok (.invokestatic 55, 3) := by decide +kernel
theorem dX1_deviationOf_64 : decode cX1_deviationOf 64 = .ok (.ireturn, 1) := by decide +kernel
theorem dX1_totalDeviation_0 : decode cX1_totalDeviation 0 = .ok (.aload_n 0, 1) := by decide +kernel
theorem dX1_totalDeviation_1 : decode cX1_totalDeviation 1 = .ok (.getfield 9, 3) := by decide +kernel
theorem dX1_totalDeviation_4 : decode cX1_totalDeviation 4 = .ok (.iconst 0, 1) := by decide +kernel
theorem dX1_totalDeviation_5 : decode cX1_totalDeviation 5 = .ok (.iaload, 1) := by decide +kernel
theorem dX1_totalDeviation_6 : decode cX1_totalDeviation 6 = .ok (.istore_n 1, 1) := by decide +kernel
theorem dX1_totalDeviation_7 : decode cX1_totalDeviation 7 = .ok (.aload_n 0, 1) := by decide +kernel
theorem dX1_totalDeviation_8 : decode cX1_totalDeviation 8 = .ok (.getfield 9, 3) := by decide +kernel
theorem dX1_totalDeviation_11 : decode cX1_totalDeviation 11 = .ok (.iconst 0, 1) := by decide +kernel
theorem dX1_totalDeviation_12 : decode cX1_totalDeviation 12 = .ok (.iaload, 1) := by decide +kernel
theorem dX1_totalDeviation_13 : decode cX1_totalDeviation 13 = .ok (.istore_n 2, 1) := by decide +kernel
theorem dX1_totalDeviation_14 : decode cX1_totalDeviation 14 = .ok (.iconst 1, 1) := by decide +kernel
theorem dX1_totalDeviation_15 : decode cX1_totalDeviation 15 = .ok (.istore_n 3, 1) := by decide +kernel
theorem dX1_totalDeviation_16 : decode cX1_totalDeviation 16 = .ok (.iload_n 3, 1) := by decide +kernel
theorem dX1_totalDeviation_17 : decode cX1_totalDeviation 17 = .ok (.aload_n 0, 1) := by decide +kernel
theorem dX1_totalDeviation_18 : decode cX1_totalDeviation 18 = .ok (.getfield 22, 3) := by decide +kernel
theorem dX1_totalDeviation_21 : decode cX1_totalDeviation 21 = .ok (.if_icmp .ge 31, 3) := by decide +kernel
theorem dX1_totalDeviation_24 : decode cX1_totalDeviation 24 = .ok (.iload_n 1, 1) := by decide +kernel
theorem dX1_totalDeviation_25 : decode cX1_totalDeviation 25 = .ok (.aload_n 0, 1) := by decide +kernel
theorem dX1_totalDeviation_26 : decode cX1_totalDeviation 26 = .ok (.getfield 9, 3) := by decide +kernel
theorem dX1_totalDeviation_29 : decode cX1_totalDeviation 29 = .ok (.iload_n 3, 1) := by decide +kernel
theorem dX1_totalDeviation_30 : decode cX1_totalDeviation 30 = .ok (.iaload, 1) := by decide +kernel
theorem dX1_totalDeviation_31 : decode cX1_totalDeviation 31 = .ok (.invokestatic 62, 3) := by decide +kernel
theorem dX1_totalDeviation_34 : decode cX1_totalDeviation 34 = .ok (.istore_n 1, 1) := by decide +kernel
theorem dX1_totalDeviation_35 : decode cX1_totalDeviation 35 = .ok (.iload_n 2, 1) := by decide +kernel
theorem dX1_totalDeviation_36 : decode cX1_totalDeviation 36 = .ok (.aload_n 0, 1) := by decide +kernel
theorem dX1_totalDeviation_37 : decode cX1_totalDeviation 37 = .ok (.getfield 9, 3) := by decide +kernel
theorem dX1_totalDeviation_40 : decode cX1_totalDeviation 40 = .ok (.iload_n 3, 1) := by decide +kernel
theorem dX1_totalDeviation_41 : decode cX1_totalDeviation 41 = .ok (.iaload, 1) := by decide +kernel
theorem dX1_totalDeviation_42 : decode cX1_totalDeviation 42 = .ok (.invokestatic 68, 3) := by decide +kernel
theorem dX1_totalDeviation_45 : decode cX1_totalDeviation 45 = .ok (.istore_n 2, 1) := by decide +kernel
theorem dX1_totalDeviation_46 : decode cX1_totalDeviation 46 = .ok (.iinc 3 1, 3) := by decide +kernel
theorem dX1_totalDeviation_49 : decode cX1_totalDeviation 49 = .ok (.goto (-33), 3) := by decide +kernel
theorem dX1_totalDeviation_52 : decode cX1_totalDeviation 52 = .ok (.iload_n 1, 1) := by decide +kernel
theorem dX1_totalDeviation_53 : decode cX1_totalDeviation 53 = .ok (.iload_n 2, 1) := by decide +kernel
theorem dX1_totalDeviation_54 : decode cX1_totalDeviation 54 = .ok (.isub, 1) := by decide +kernel
theorem dX1_totalDeviation_55 : decode cX1_totalDeviation 55 = .ok (.ireturn, 1) := by decide +kernel
theorem dX1_formNumerator_0 : decode cX1_formNumerator 0 = .ok (.aload_n 0, 1) := by decide +kernel
theorem dX1_formNumerator_1 : decode cX1_formNumerator 1 = .ok (.invokevirtual 71, 3) := by decide +kernel
theorem dX1_formNumerator_4 : decode cX1_formNumerator 4 = .ok (.lstore_n 1, 1) := by decide +kernel
theorem dX1_formNumerator_5 : decode cX1_formNumerator 5 = .ok (.aload_n 0, 1) := by decide +kernel
theorem dX1_formNumerator_6 : decode cX1_formNumerator 6 = .ok (.invokevirtual 48, 3) := by decide +kernel
theorem dX1_formNumerator_9 : decode cX1_formNumerator 9 = .ok (.lstore_n 3, 1) := by decide +kernel
theorem dX1_formNumerator_10 : decode cX1_formNumerator 10 = .ok (.aload_n 0, 1) := by decide +kernel
theorem dX1_formNumerator_11 : decode cX1_formNumerator 11 = .ok (.invokevirtual 52, 3) := by decide +kernel
theorem dX1_formNumerator_14 : decode cX1_formNumerator 14 = .ok (.lstore 5, 2) := by decide +kernel
theorem dX1_formNumerator_16 : decode cX1_formNumerator 16 = .ok (.aload_n 0, 1) := by decide +kernel
theorem dX1_formNumerator_17 : decode cX1_formNumerator 17 = .ok (.getfield 9, 3) := by decide +kernel
theorem dX1_formNumerator_20 : decode cX1_formNumerator 20 = .ok (.iconst 0, 1) := by decide +kernel
theorem dX1_formNumerator_21 : decode cX1_formNumerator 21 = .ok (.iaload, 1) := by decide +kernel
theorem dX1_formNumerator_22 : decode cX1_formNumerator 22 = .ok (.i2l, 1) := by decide +kernel
theorem dX1_formNumerator_23 : decode cX1_formNumerator 23 = .ok (.lload 5, 2) := by decide +kernel
theorem dX1_formNumerator_25 : decode cX1_formNumerator 25 = .ok (.lmul, 1) := by decide +kernel
theorem dX1_formNumerator_26 : decode cX1_formNumerator 26 = .ok (.lload_n 1, 1) := by decide +kernel
theorem dX1_formNumerator_27 : decode cX1_formNumerator 27 = .ok (.lsub, 1) := by decide +kernel
theorem dX1_formNumerator_28 : decode cX1_formNumerator 28 = .ok (.lstore 7, 2) := by decide +kernel
theorem dX1_formNumerator_30 : decode cX1_formNumerator 30 = .ok (.lload 7, 2) := by decide +kernel
theorem dX1_formNumerator_32 : decode cX1_formNumerator 32 = .ok (.lstore 9, 2) := by decide +kernel
theorem dX1_formNumerator_34 : decode cX1_formNumerator 34 = .ok (.iconst 1, 1) := by decide +kernel
theorem dX1_formNumerator_35 : decode cX1_formNumerator 35 = .ok (.istore 11, 2) := by decide +kernel
theorem dX1_formNumerator_37 : decode cX1_formNumerator 37 = .ok (.iload 11, 2) := by decide +kernel
theorem dX1_formNumerator_39 : decode cX1_formNumerator 39 = .ok (.aload_n 0, 1) := by decide +kernel
theorem dX1_formNumerator_40 : decode cX1_formNumerator 40 = .ok (.getfield 22, 3) := by decide +kernel
theorem dX1_formNumerator_43 : decode cX1_formNumerator 43 = .ok (.if_icmp .ge 48, 3) := by decide +kernel
theorem dX1_formNumerator_46 : decode cX1_formNumerator 46 = .ok (.aload_n 0, 1) := by decide +kernel
theorem dX1_formNumerator_47 : decode cX1_formNumerator 47 = .ok (.getfield 9, 3) := by decide +kernel
theorem dX1_formNumerator_50 : decode cX1_formNumerator 50 = .ok (.iload 11, 2) := by decide +kernel
theorem dX1_formNumerator_52 : decode cX1_formNumerator 52 = .ok (.iaload, 1) := by decide +kernel
theorem dX1_formNumerator_53 : decode cX1_formNumerator 53 = .ok (.i2l, 1) := by decide +kernel
theorem dX1_formNumerator_54 : decode cX1_formNumerator 54 = .ok (.lload 5, 2) := by decide +kernel
theorem dX1_formNumerator_56 : decode cX1_formNumerator 56 = .ok (.lmul, 1) := by decide +kernel
theorem dX1_formNumerator_57 : decode cX1_formNumerator 57 = .ok (.lload_n 1, 1) := by decide +kernel
theorem dX1_formNumerator_58 : decode cX1_formNumerator 58 = .ok (.lload_n 3, 1) := by decide +kernel
theorem dX1_formNumerator_59 : decode cX1_formNumerator 59 = .ok (.iload 11, 2) := by decide +kernel
theorem dX1_formNumerator_61 : decode cX1_formNumerator 61 = .ok (.i2l, 1) := by decide +kernel
theorem dX1_formNumerator_62 : decode cX1_formNumerator 62 = .ok (.lmul, 1) := by decide +kernel
theorem dX1_formNumerator_63 : decode cX1_formNumerator 63 = .ok (.ladd, 1) := by decide +kernel
theorem dX1_formNumerator_64 : decode cX1_formNumerator 64 = .ok (.lsub, 1) := by decide +kernel
theorem dX1_formNumerator_65 : decode cX1_formNumerator 65 = .ok (.lstore 12, 2) := by decide +kernel
theorem dX1_formNumerator_67 : decode cX1_formNumerator 67 = .ok (.lload 7, 2) := by decide +kernel
theorem dX1_formNumerator_69 : decode cX1_formNumerator 69 = .ok (.lload 12, 2) := by decide +kernel
theorem dX1_formNumerator_71 : decode cX1_formNumerator 71 = .ok (.invokestatic 74, 3) := by decide +kernel
theorem dX1_formNumerator_74 : decode cX1_formNumerator 74 = .ok (.lstore 7, 2) := by decide +kernel
theorem dX1_formNumerator_76 : decode cX1_formNumerator 76 = .ok (.lload 9, 2) := by decide +kernel
theorem dX1_formNumerator_78 : decode cX1_formNumerator 78 = .ok (.lload 12, 2) := by decide +kernel
theorem dX1_formNumerator_80 : decode cX1_formNumerator 80 = .ok (.invokestatic 77, 3) := by decide +kernel
theorem dX1_formNumerator_83 : decode cX1_formNumerator 83 = .ok (.lstore 9, 2) := by decide +kernel
theorem dX1_formNumerator_85 : decode cX1_formNumerator 85 = .ok (.iinc 11 1, 3) := by decide +kernel
theorem dX1_formNumerator_88 : decode cX1_formNumerator 88 = .ok (.goto (-51), 3) := by decide +kernel
theorem dX1_formNumerator_91 : decode cX1_formNumerator 91 = .ok (.lload 7, 2) := by decide +kernel
theorem dX1_formNumerator_93 : decode cX1_formNumerator 93 = .ok (.lload 9, 2) := by decide +kernel
theorem dX1_formNumerator_95 : decode cX1_formNumerator 95 = .ok (.lsub, 1) := by decide +kernel
theorem dX1_formNumerator_96 : decode cX1_formNumerator 96 = .ok (.lreturn, 1) := by decide +kernel
theorem dX1_denominator_0 : decode cX1_denominator 0 = .ok (.aload_n 0, 1) := by decide +kernel
theorem dX1_denominator_1 : decode cX1_denominator 1 = .ok (.getfield 22, 3) := by decide +kernel
theorem dX1_denominator_4 : decode cX1_denominator 4 = .ok (.i2l, 1) := by decide +kernel
theorem dX1_denominator_5 : decode cX1_denominator 5 = .ok (.aload_n 0, 1) := by decide +kernel
theorem dX1_denominator_6 : decode cX1_denominator 6 = .ok (.getfield 29, 3) := by decide +kernel
theorem dX1_denominator_9 : decode cX1_denominator 9 = .ok (.lmul, 1) := by decide +kernel
theorem dX1_denominator_10 : decode cX1_denominator 10 = .ok (.aload_n 0, 1) := by decide +kernel
theorem dX1_denominator_11 : decode cX1_denominator 11 = .ok (.getfield 25, 3) := by decide +kernel
theorem dX1_denominator_14 : decode cX1_denominator 14 = .ok (.aload_n 0, 1) := by decide +kernel
theorem dX1_denominator_15 : decode cX1_denominator 15 = .ok (.getfield 25, 3) := by decide +kernel
theorem dX1_denominator_18 : decode cX1_denominator 18 = .ok (.lmul, 1) := by decide +kernel
theorem dX1_denominator_19 : decode cX1_denominator 19 = .ok (.lsub, 1) := by decide +kernel
theorem dX1_denominator_20 : decode cX1_denominator 20 = .ok (.lreturn, 1) := by decide +kernel
theorem dX1_slopeNumerator_0 : decode cX1_slopeNumerator 0 = .ok (.aload_n 0, 1) := by decide +kernel
theorem dX1_slopeNumerator_1 : decode cX1_slopeNumerator 1 = .ok (.getfield 22, 3) := by decide +kernel
theorem dX1_slopeNumerator_4 : decode cX1_slopeNumerator 4 = .ok (.i2l, 1) := by decide +kernel
theorem dX1_slopeNumerator_5 : decode cX1_slopeNumerator 5 = .ok (.aload_n 0, 1) := by decide +kernel
theorem dX1_slopeNumerator_6 : decode cX1_slopeNumerator 6 = .ok (.getfield 35, 3) := by decide +kernel
theorem dX1_slopeNumerator_9 : decode cX1_slopeNumerator 9 = .ok (.lmul, 1) := by decide +kernel
theorem dX1_slopeNumerator_10 : decode cX1_slopeNumerator 10 = .ok (.aload_n 0, 1) := by decide +kernel
theorem dX1_slopeNumerator_11 : decode cX1_slopeNumerator 11 = .ok (.getfield 25, 3) := by decide +kernel
theorem dX1_slopeNumerator_14 : decode cX1_slopeNumerator 14 = .ok (.aload_n 0, 1) := by decide +kernel
theorem dX1_slopeNumerator_15 : decode cX1_slopeNumerator 15 = .ok (.getfield 32, 3) := by decide +kernel
theorem dX1_slopeNumerator_18 : decode cX1_slopeNumerator 18 = .ok (.lmul, 1) := by decide +kernel
theorem dX1_slopeNumerator_19 : decode cX1_slopeNumerator 19 = .ok (.lsub, 1) := by decide +kernel
theorem dX1_slopeNumerator_20 : decode cX1_slopeNumerator 20 = .ok (.lreturn, 1) := by decide +kernel
theorem dX1_interceptNumerator_0 : decode cX1_interceptNumerator 0 = .ok (.aload_n 0, 1) := by decide +kernel
theorem dX1_interceptNumerator_1 : decode cX1_interceptNumerator 1 = .ok (.getfield 29, 3) := by decide +kernel
theorem dX1_interceptNumerator_4 : decode cX1_interceptNumerator 4 = .ok (.aload_n 0, 1) := by decide +kernel
theorem dX1_interceptNumerator_5 : decode cX1_interceptNumerator 5 = .ok (.getfield 32, 3) := by decide +kernel
theorem dX1_interceptNumerator_8 : decode cX1_interceptNumerator 8 = .ok (.lmul, 1) := by decide +kernel
theorem dX1_interceptNumerator_9 : decode cX1_interceptNumerator 9 = .ok (.aload_n 0, 1) := by decide +kernel
theorem dX1_interceptNumerator_10 : decode cX1_interceptNumerator 10 = .ok (.getfield 25, 3) := by decide +kernel
theorem dX1_interceptNumerator_13 : decode cX1_interceptNumerator 13 = .ok (.aload_n 0, 1) := by decide +kernel
theorem dX1_interceptNumerator_14 : decode cX1_interceptNumerator 14 = .ok (.getfield 35, 3) := by decide +kernel
theorem dX1_interceptNumerator_17 : decode cX1_interceptNumerator 17 = .ok (.lmul, 1) := by decide +kernel
theorem dX1_interceptNumerator_18 : decode cX1_interceptNumerator 18 = .ok (.lsub, 1) := by decide +kernel
theorem dX1_interceptNumerator_19 : decode cX1_interceptNumerator 19 = .ok (.lreturn, 1) := by decide +kernel
