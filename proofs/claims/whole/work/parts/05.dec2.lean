theorem dX2_init_0 : decode cX2_init 0 = .ok (.aload_n 0, 1) := by decide +kernel
theorem dX2_init_1 : decode cX2_init 1 = .ok (.invokespecial 3, 3) := by decide +kernel
theorem dX2_init_4 : decode cX2_init 4 = .ok (.aload_n 0, 1) := by decide +kernel
theorem dX2_init_5 : decode cX2_init 5 = .ok (.iconst 1, 1) := by decide +kernel
theorem dX2_init_6 : decode cX2_init 6 = .ok (.putfield 9, 3) := by decide +kernel
theorem dX2_init_9 : decode cX2_init 9 = .ok (.aload_n 0, 1) := by decide +kernel
theorem dX2_init_10 : decode cX2_init 10 = .ok (.bipush 30, 2) := by decide +kernel
theorem dX2_init_12 : decode cX2_init 12 = .ok (.newarray .int, 2) := by decide +kernel
theorem dX2_init_14 : decode cX2_init 14 = .ok (.putfield 15, 3) := by decide +kernel
theorem dX2_init_17 : decode cX2_init 17 = .ok (.aload_n 0, 1) := by decide +kernel
theorem dX2_init_18 : decode cX2_init 18 = .ok (.bipush 30, 2) := by decide +kernel
theorem dX2_init_20 : decode cX2_init 20 = .ok (.newarray .int, 2) := by decide +kernel
theorem dX2_init_22 : decode cX2_init 22 = .ok (.putfield 19, 3) := by decide +kernel
theorem dX2_init_25 : decode cX2_init 25 = .ok (.aload_n 0, 1) := by decide +kernel
theorem dX2_init_26 : decode cX2_init 26 = .ok (.bipush 30, 2) := by decide +kernel
theorem dX2_init_28 : decode cX2_init 28 = .ok (.newarray .int, 2) := by decide +kernel
theorem dX2_init_30 : decode cX2_init 30 = .ok (.putfield 22, 3) := by decide +kernel
theorem dX2_init_33 : decode cX2_init 33 = .ok (.aload_n 0, 1) := by decide +kernel
theorem dX2_init_34 : decode cX2_init 34 = .ok (.bipush 30, 2) := by decide +kernel
theorem dX2_init_36 : decode cX2_init 36 = .ok (.newarray .int, 2) := by decide +kernel
theorem dX2_init_38 : decode cX2_init 38 = .ok (.putfield 25, 3) := by decide +kernel
theorem dX2_init_41 : decode cX2_init 41 = .ok (.return_, 1) := by decide +kernel
theorem dX2_engage_0 : decode cX2_engage 0 = .ok (.aload_n 0, 1) := by decide +kernel
theorem dX2_engage_1 : decode cX2_engage 1 = .ok (.iconst 1, 1) := by decide +kernel
theorem dX2_engage_2 : decode cX2_engage 2 = .ok (.aload_n 1, 1) := by decide +kernel
theorem dX2_engage_3 : decode cX2_engage 3 = .ok (.getfield 28, 3) := by decide +kernel
theorem dX2_engage_6 : decode cX2_engage 6 = .ok (.i2l, 1) := by decide +kernel
theorem dX2_engage_7 : decode cX2_engage 7 = .ok (.aload_n 2, 1) := by decide +kernel
theorem dX2_engage_8 : decode cX2_engage 8 = .ok (.getfield 28, 3) := by decide +kernel
theorem dX2_engage_11 : decode cX2_engage 11 = .ok (.i2l, 1) := by decide +kernel
theorem dX2_engage_12 : decode cX2_engage 12 = .ok (.invokestatic 33, 3) := by decide +kernel
theorem dX2_engage_15 : decode cX2_engage 15 = .ok (.l2i, 1) := by decide +kernel
theorem dX2_engage_16 : decode cX2_engage 16 = .ok (.invokestatic 37, 3) := by decide +kernel
theorem dX2_engage_19 : decode cX2_engage 19 = .ok (.putfield 9, 3) := by decide +kernel
theorem dX2_engage_22 : decode cX2_engage 22 = .ok (.aload_n 0, 1) := by decide +kernel
theorem dX2_engage_23 : decode cX2_engage 23 = .ok (.aload_n 1, 1) := by decide +kernel
theorem dX2_engage_24 : decode cX2_engage 24 = .ok (.iload_n 3, 1) := by decide +kernel
theorem dX2_engage_25 : decode cX2_engage 25 = .ok (.aload_n 0, 1) := by decide +kernel
theorem dX2_engage_26 : decode cX2_engage 26 = .ok (.getfield 15, 3) := by decide +kernel
theorem dX2_engage_29 : decode cX2_engage 29 = .ok (.aload_n 0, 1) := by decide +kernel
theorem dX2_engage_30 : decode cX2_engage 30 = .ok (.getfield 19, 3) := by decide +kernel
theorem dX2_engage_33 : decode cX2_engage 33 = .ok (.invokevirtual 43, 3) := by decide +kernel
theorem dX2_engage_36 : decode cX2_engage 36 = .ok (.aload_n 0, 1) := by decide +kernel
theorem dX2_engage_37 : decode cX2_engage 37 = .ok (.aload_n 2, 1) := by decide +kernel
theorem dX2_engage_38 : decode cX2_engage 38 = .ok (.iload_n 3, 1) := by decide +kernel
theorem dX2_engage_39 : decode cX2_engage 39 = .ok (.aload_n 0, 1) := by decide +kernel
theorem dX2_engage_40 : decode cX2_engage 40 = .ok (.getfield 22, 3) := by decide +kernel
theorem dX2_engage_43 : decode cX2_engage 43 = .ok (.aload_n 0, 1) := by decide +kernel
theorem dX2_engage_44 : decode cX2_engage 44 = .ok (.getfield 25, 3) := by decide +kernel
theorem dX2_engage_47 : decode cX2_engage 47 = .ok (.invokevirtual 43, 3) := by decide +kernel
theorem dX2_engage_50 : decode cX2_engage 50 = .ok (.return_, 1) := by decide +kernel
theorem dX2_sort_0 : decode cX2_sort 0 = .ok (.iconst 0, 1) := by decide +kernel
theorem dX2_sort_1 : decode cX2_sort 1 = .ok (.istore 5, 2) := by decide +kernel
theorem dX2_sort_3 : decode cX2_sort 3 = .ok (.iload 5, 2) := by decide +kernel
theorem dX2_sort_5 : decode cX2_sort 5 = .ok (.aload_n 1, 1) := by decide +kernel
theorem dX2_sort_6 : decode cX2_sort 6 = .ok (.getfield 28, 3) := by decide +kernel
theorem dX2_sort_9 : decode cX2_sort 9 = .ok (.if_icmp .ge 83, 3) := by decide +kernel
theorem dX2_sort_12 : decode cX2_sort 12 = .ok (.aload_n 1, 1) := by decide +kernel
theorem dX2_sort_13 : decode cX2_sort 13 = .ok (.iload_n 2, 1) := by decide +kernel
theorem dX2_sort_14 : decode cX2_sort 14 = .ok (.iload 5, 2) := by decide +kernel
theorem dX2_sort_16 : decode cX2_sort 16 = .ok (.invokevirtual 47, 3) := by decide +kernel
theorem dX2_sort_19 : decode cX2_sort 19 = .ok (.istore 6, 2) := by decide +kernel
theorem dX2_sort_21 : decode cX2_sort 21 = .ok (.iload 5, 2) := by decide +kernel
theorem dX2_sort_23 : decode cX2_sort 23 = .ok (.aload_n 0, 1) := by decide +kernel
theorem dX2_sort_24 : decode cX2_sort 24 = .ok (.getfield 9, 3) := by decide +kernel
theorem dX2_sort_27 : decode cX2_sort 27 = .ok (.irem, 1) := by decide +kernel
theorem dX2_sort_28 : decode cX2_sort 28 = .ok (.istore 7, 2) := by decide +kernel
theorem dX2_sort_30 : decode cX2_sort 30 = .ok (.aload_n 3, 1) := by decide +kernel
theorem dX2_sort_31 : decode cX2_sort 31 = .ok (.iload 7, 2) := by decide +kernel
theorem dX2_sort_33 : decode cX2_sort 33 = .ok (.iload 5, 2) := by decide +kernel
theorem dX2_sort_35 : decode cX2_sort 35 = .ok (.aload_n 0, 1) := by decide +kernel
theorem dX2_sort_36 : decode cX2_sort 36 = .ok (.getfield 9, 3) := by decide +kernel
theorem dX2_sort_39 : decode cX2_sort 39 = .ok (.if_icmp .ge 8, 3) := by decide +kernel
theorem dX2_sort_42 : decode cX2_sort 42 = .ok (.iload 6, 2) := by decide +kernel
theorem dX2_sort_44 : decode cX2_sort 44 = .ok (.goto 12, 3) := by decide +kernel
theorem dX2_sort_47 : decode cX2_sort 47 = .ok (.aload_n 3, 1) := by decide +kernel
theorem dX2_sort_48 : decode cX2_sort 48 = .ok (.iload 7, 2) := by decide +kernel
theorem dX2_sort_50 : decode cX2_sort 50 = .ok (.iaload, 1) := by decide +kernel
theorem dX2_sort_51 : decode cX2_sort 51 = .ok (.iload 6, 2) := by decide +kernel
theorem dX2_sort_53 : decode cX2_sort 53 = .ok (.invokestatic 37, 3) := by decide +kernel
theorem dX2_sort_56 : decode cX2_sort 56 = .ok (.iastore, 1) := by decide +kernel
theorem dX2_sort_57 : decode cX2_sort 57 = .ok (.aload 4, 2) := by decide +kernel
theorem dX2_sort_59 : decode cX2_sort 59 = .ok (.iload 7, 2) := by decide +kernel
theorem dX2_sort_61 : decode cX2_sort 61 = .ok (.iload 5, 2) := by decide +kernel
theorem dX2_sort_63 : decode cX2_sort 63 = .ok (.aload_n 0, 1) := by decide +kernel
theorem dX2_sort_64 : decode cX2_sort 64 = .ok (.getfield 9, 3) := by decide +kernel
theorem dX2_sort_67 : decode cX2_sort 67 = .ok (.if_icmp .ge 8, 3) := by decide +kernel
theorem dX2_sort_70 : decode cX2_sort 70 = .ok (.iload 6, 2) := by decide +kernel
theorem dX2_sort_72 : decode cX2_sort 72 = .ok (.goto 13, 3) := by decide +kernel
theorem dX2_sort_75 : decode cX2_sort 75 = .ok (.aload 4, 2) := by decide +kernel
theorem dX2_sort_77 : decode cX2_sort 77 = .ok (.iload 7, 2) := by decide +kernel
theorem dX2_sort_79 : decode cX2_sort 79 = .ok (.iaload, 1) := by decide +kernel
theorem dX2_sort_80 : decode cX2_sort 80 = .ok (.iload 6, 2) := by decide +kernel
theorem dX2_sort_82 : decode cX2_sort 82 = .ok (.invokestatic 50, 3) := by decide +kernel
theorem dX2_sort_85 : decode cX2_sort 85 = .ok (.iastore, 1) := by decide +kernel
theorem dX2_sort_86 : decode cX2_sort 86 = .ok (.iinc 5 1, 3) := by decide +kernel
theorem dX2_sort_89 : decode cX2_sort 89 = .ok (.goto (-86), 3) := by decide +kernel
theorem dX2_sort_92 : decode cX2_sort 92 = .ok (.return_, 1) := by decide +kernel
theorem dX2_errorAt_0 : decode cX2_errorAt 0 = .ok (.aload_n 0, 1) := by decide +kernel
theorem dX2_errorAt_1 : decode cX2_errorAt 1 = .ok (.getfield 15, 3) := by decide +kernel
theorem dX2_errorAt_4 : decode cX2_errorAt 4 = .ok (.iconst 0, 1) := by decide +kernel
theorem dX2_errorAt_5 : decode cX2_errorAt 5 = .ok (.iaload, 1) := by decide +kernel
theorem dX2_errorAt_6 : decode cX2_errorAt 6 = .ok (.aload_n 0, 1) := by decide +kernel
theorem dX2_errorAt_7 : decode cX2_errorAt 7 = .ok (.getfield 22, 3) := by decide +kernel
theorem dX2_errorAt_10 : decode cX2_errorAt 10 = .ok (.iload_n 1, 1) := by decide +kernel
theorem dX2_errorAt_11 : decode cX2_errorAt 11 = .ok (.aload_n 0, 1) := by decide +kernel
theorem dX2_errorAt_12 : decode cX2_errorAt 12 = .ok (.getfield 9, 3) := by decide +kernel
theorem dX2_errorAt_15 : decode cX2_errorAt 15 = .ok (.irem, 1) := by decide +kernel
theorem dX2_errorAt_16 : decode cX2_errorAt 16 = .ok (.iaload, 1) := by decide +kernel
theorem dX2_errorAt_17 : decode cX2_errorAt 17 = .ok (.iadd, 1) := by decide +kernel
theorem dX2_errorAt_18 : decode cX2_errorAt 18 = .ok (.istore_n 2, 1) := by decide +kernel
theorem dX2_errorAt_19 : decode cX2_errorAt 19 = .ok (.aload_n 0, 1) := by decide +kernel
theorem dX2_errorAt_20 : decode cX2_errorAt 20 = .ok (.getfield 19, 3) := by decide +kernel
theorem dX2_errorAt_23 : decode cX2_errorAt 23 = .ok (.iconst 0, 1) := by decide +kernel
theorem dX2_errorAt_24 : decode cX2_errorAt 24 = .ok (.iaload, 1) := by decide +kernel
theorem dX2_errorAt_25 : decode cX2_errorAt 25 = .ok (.aload_n 0, 1) := by decide +kernel
theorem dX2_errorAt_26 : decode cX2_errorAt 26 = .ok (.getfield 25, 3) := by decide +kernel
theorem dX2_errorAt_29 : decode cX2_errorAt 29 = .ok (.iload_n 1, 1) := by decide +kernel
theorem dX2_errorAt_30 : decode cX2_errorAt 30 = .ok (.aload_n 0, 1) := by decide +kernel
theorem dX2_errorAt_31 : decode cX2_errorAt 31 = .ok (.getfield 9, 3) := by decide +kernel
theorem dX2_errorAt_34 : decode cX2_errorAt 34 = .ok (.irem, 1) := by decide +kernel
theorem dX2_errorAt_35 : decode cX2_errorAt 35 = .ok (.iaload, 1) := by decide +kernel
theorem dX2_errorAt_36 : decode cX2_errorAt 36 = .ok (.iadd, 1) := by decide +kernel
theorem dX2_errorAt_37 : decode cX2_errorAt 37 = .ok (.istore_n 3, 1) := by decide +kernel
theorem dX2_errorAt_38 : decode cX2_errorAt 38 = .ok (.iconst 1, 1) := by decide +kernel
theorem dX2_errorAt_39 : decode cX2_errorAt 39 = .ok (.istore 4, 2) := by decide +kernel
theorem dX2_errorAt_41 : decode cX2_errorAt 41 = .ok (.iload 4, 2) := by decide +kernel
theorem dX2_errorAt_43 : decode cX2_errorAt 43 = .ok (.aload_n 0, 1) := by decide +kernel
theorem dX2_errorAt_44 : decode cX2_errorAt 44 = .ok (.getfield 9, 3) := by decide +kernel
theorem dX2_errorAt_47 : decode cX2_errorAt 47 = .ok (.if_icmp .ge 60, 3) := by decide +kernel
theorem dX2_errorAt_50 : decode cX2_errorAt 50 = .ok (.iload 4, 2) := by decide +kernel
theorem dX2_errorAt_52 : decode cX2_errorAt 52 = .ok (.iload_n 1, 1) := by decide +kernel
theorem dX2_errorAt_53 : decode cX2_errorAt 53 = .ok (.iadd, 1) := by decide +kernel
theorem dX2_errorAt_54 : decode cX2_errorAt 54 = .ok (.aload_n 0, 1) := by decide +kernel
theorem dX2_errorAt_55 : decode cX2_errorAt 55 = .ok (.getfield 9, 3) := by decide +kernel
theorem dX2_errorAt_58 : decode cX2_errorAt 58 = .ok (.irem, 1) := by decide +kernel
theorem dX2_errorAt_59 : decode cX2_errorAt 59 = .ok (.istore 5, 2) := by decide +kernel
theorem dX2_errorAt_61 : decode cX2_errorAt 61 = .ok (.iload_n 2, 1) := by decide +kernel
theorem dX2_errorAt_62 : decode cX2_errorAt 62 = .ok (.aload_n 0, 1) := by decide +kernel
theorem dX2_errorAt_63 : decode cX2_errorAt 63 = .ok (.getfield 15, 3) := by decide +kernel
theorem dX2_errorAt_66 : decode cX2_errorAt 66 = .ok (.iload 4, 2) := by decide +kernel
theorem dX2_errorAt_68 : decode cX2_errorAt 68 = .ok (.iaload, 1) := by decide +kernel
theorem dX2_errorAt_69 : decode cX2_errorAt 69 = .ok (.aload_n 0, 1) := by decide +kernel
theorem dX2_errorAt_70 : decode cX2_errorAt 70 = .ok (.getfield 22, 3) := by decide +kernel
theorem dX2_errorAt_73 : decode cX2_errorAt 73 = .ok (.iload 5, 2) := by decide +kernel
theorem dX2_errorAt_75 : decode cX2_errorAt 75 = .ok (.iaload, 1) := by decide +kernel
theorem dX2_errorAt_76 : decode cX2_errorAt 76 = .ok (.iadd, 1) := by decide +kernel
theorem dX2_errorAt_77 : decode cX2_errorAt 77 = .ok (.invokestatic 37, 3) := by decide +kernel
theorem dX2_errorAt_80 : decode cX2_errorAt 80 = .ok (.istore_n 2, 1) := by decide +kernel
theorem dX2_errorAt_81 : decode cX2_errorAt 81 = .ok (.iload_n 3, 1) := by decide +kernel
theorem dX2_errorAt_82 : decode cX2_errorAt 82 = .ok (.aload_n 0, 1) := by decide +kernel
theorem dX2_errorAt_83 : decode cX2_errorAt 83 = .ok (.getfield 19, 3) := by decide +kernel
theorem dX2_errorAt_86 : decode cX2_errorAt 86 = .ok (.iload 4, 2) := by decide +kernel
theorem dX2_errorAt_88 : decode cX2_errorAt 88 = .ok (.iaload, 1) := by decide +kernel
theorem dX2_errorAt_89 : decode cX2_errorAt 89 = .ok (.aload_n 0, 1) := by decide +kernel
theorem dX2_errorAt_90 : decode cX2_errorAt 90 = .ok (.getfield 25, 3) := by decide +kernel
theorem dX2_errorAt_93 : decode cX2_errorAt 93 = .ok (.iload 5, 2) := by decide +kernel
theorem dX2_errorAt_95 : decode cX2_errorAt 95 = .ok (.iaload, 1) := by decide +kernel
theorem dX2_errorAt_96 : decode cX2_errorAt 96 = .ok (.iadd, 1) := by decide +kernel
theorem dX2_errorAt_97 : decode cX2_errorAt 97 = .ok (.invokestatic 50, 3) := by decide +kernel
theorem dX2_errorAt_100 : decode cX2_errorAt 100 = .ok (.istore_n 3, 1) := by decide +kernel
theorem dX2_errorAt_101 : decode cX2_errorAt 101 = .ok (.iinc 4 1, 3) := by decide +kernel
theorem dX2_errorAt_104 : decode cX2_errorAt 104 = .ok (.goto (-63), 3) := by decide +kernel
theorem dX2_errorAt_107 : decode cX2_errorAt 107 = .ok (.iload_n 2, 1) := by decide +kernel
theorem dX2_errorAt_108 : decode cX2_errorAt 108 = .ok (.iload_n 3, 1) := by decide +kernel
theorem dX2_errorAt_109 : decode cX2_errorAt 109 = .ok (.isub, 1) := by decide +kernel
theorem dX2_errorAt_110 : decode cX2_errorAt 110 = .ok (.ireturn, 1) := by decide +kernel
theorem dX2_phaseOfSmallest_0 : decode cX2_phaseOfSmallest 0 = .ok (.iconst 0, 1) := by decide +kernel
theorem dX2_phaseOfSmallest_1 : decode cX2_phaseOfSmallest 1 = .ok (.istore_n 1, 1) := by decide +kernel
theorem dX2_phaseOfSmallest_2 : decode cX2_phaseOfSmallest 2 = .ok (.aload_n 0, 1) := by decide +kernel
theorem dX2_phaseOfSmallest_3 : decode cX2_phaseOfSmallest 3 = .ok (.iconst 0, 1) := by decide +kernel
theorem dX2_phaseOfSmallest_4 : decode cX2_phaseOfSmallest 4 = .ok (.invokevirtual 53, 3) := by decide +kernel
theorem dX2_phaseOfSmallest_7 : decode cX2_phaseOfSmallest 7 = .ok (.istore_n 2, 1) := by decide +kernel
theorem dX2_phaseOfSmallest_8 : decode cX2_phaseOfSmallest 8 = .ok (.iconst 1, 1) := by decide +kernel
theorem dX2_phaseOfSmallest_9 : decode cX2_phaseOfSmallest 9 = .ok (.istore_n 3, 1) := by decide +kernel
theorem dX2_phaseOfSmallest_10 : decode cX2_phaseOfSmallest 10 = .ok (.iload_n 3, 1) := by decide +kernel
theorem dX2_phaseOfSmallest_11 : decode cX2_phaseOfSmallest 11 = .ok (.aload_n 0, 1) := by decide +kernel
theorem dX2_phaseOfSmallest_12 : decode cX2_phaseOfSmallest 12 = .ok (.getfield 9, 3) := by decide +kernel
theorem dX2_phaseOfSmallest_15 : decode cX2_phaseOfSmallest 15 = .ok (.if_icmp .ge 27, 3) := by decide +kernel
theorem dX2_phaseOfSmallest_18 : decode cX2_phaseOfSmallest 18 = .ok (.aload_n 0, 1) := by decide +kernel
theorem dX2_phaseOfSmallest_19 : decode cX2_phaseOfSmallest 19 = .ok (.iload_n 3, 1) := by decide +kernel
theorem dX2_phaseOfSmallest_20 : decode cX2_phaseOfSmallest 20 = .ok (.invokevirtual 53, 3) := by decide +kernel
theorem dX2_phaseOfSmallest_23 : decode cX2_phaseOfSmallest 23 = .ok (.istore 4, 2) := by decide +kernel
theorem dX2_phaseOfSmallest_25 : decode cX2_phaseOfSmallest 25 = .ok (.iload 4, 2) := by decide +kernel
theorem dX2_phaseOfSmallest_27 : decode cX2_phaseOfSmallest 27 = .ok (.iload_n 2, 1) := by decide +kernel
theorem dX2_phaseOfSmallest_28 : decode cX2_phaseOfSmallest 28 = .ok (.if_icmp .ge 8, 3) := by decide +kernel
theorem dX2_phaseOfSmallest_31 : decode cX2_phaseOfSmallest 31 = .ok (.iload_n 3, 1) := by decide +kernel
theorem dX2_phaseOfSmallest_32 : decode cX2_phaseOfSmallest 32 = .ok (.istore_n 1, 1) := by decide +kernel
theorem dX2_phaseOfSmallest_33 : decode cX2_phaseOfSmallest 33 = .ok (.iload 4, 2) := by decide +kernel
theorem dX2_phaseOfSmallest_35 : decode cX2_phaseOfSmallest 35 = .ok (.istore_n 2, 1) := by decide +kernel
theorem dX2_phaseOfSmallest_36 : decode cX2_phaseOfSmallest 36 = .ok (.iinc 3 1, 3) := by decide +kernel
theorem dX2_phaseOfSmallest_39 : decode cX2_phaseOfSmallest 39 = .ok (.goto (-29), 3) := by decide +kernel
theorem dX2_phaseOfSmallest_42 : decode cX2_phaseOfSmallest 42 = .ok (.iload_n 1, 1) := by decide +kernel
theorem dX2_phaseOfSmallest_43 : decode cX2_phaseOfSmallest 43 = .ok (.ireturn, 1) := by decide +kernel
