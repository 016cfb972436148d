theorem dX3_init_0 : decode cX3_init 0 = .ok (.aload_n 0, 1) := by decide +kernel
theorem dX3_init_1 : decode cX3_init 1 = .ok (.invokespecial 3, 3) := by decide +kernel
theorem dX3_init_4 : decode cX3_init 4 = .ok (.aload_n 0, 1) := by decide +kernel
theorem dX3_init_5 : decode cX3_init 5 = .ok (.bipush 6, 2) := by decide +kernel
theorem dX3_init_7 : decode cX3_init 7 = .ok (.anewarray 9, 3) := by decide +kernel
theorem dX3_init_10 : decode cX3_init 10 = .ok (.putfield 11, 3) := by decide +kernel
theorem dX3_init_13 : decode cX3_init 13 = .ok (.aload_n 0, 1) := by decide +kernel
theorem dX3_init_14 : decode cX3_init 14 = .ok (.bipush 10, 2) := by decide +kernel
theorem dX3_init_16 : decode cX3_init 16 = .ok (.anewarray 17, 3) := by decide +kernel
theorem dX3_init_19 : decode cX3_init 19 = .ok (.putfield 19, 3) := by decide +kernel
theorem dX3_init_22 : decode cX3_init 22 = .ok (.iconst 0, 1) := by decide +kernel
theorem dX3_init_23 : decode cX3_init 23 = .ok (.istore_n 1, 1) := by decide +kernel
theorem dX3_init_24 : decode cX3_init 24 = .ok (.iload_n 1, 1) := by decide +kernel
theorem dX3_init_25 : decode cX3_init 25 = .ok (.bipush 6, 2) := by decide +kernel
theorem dX3_init_27 : decode cX3_init 27 = .ok (.if_icmp .ge 22, 3) := by decide +kernel
theorem dX3_init_30 : decode cX3_init 30 = .ok (.aload_n 0, 1) := by decide +kernel
theorem dX3_init_31 : decode cX3_init 31 = .ok (.getfield 11, 3) := by decide +kernel
theorem dX3_init_34 : decode cX3_init 34 = .ok (.iload_n 1, 1) := by decide +kernel
theorem dX3_init_35 : decode cX3_init 35 = .ok (.new 9, 3) := by decide +kernel
theorem dX3_init_38 : decode cX3_init 38 = .ok (.dup, 1) := by decide +kernel
theorem dX3_init_39 : decode cX3_init 39 = .ok (.invokespecial 23, 3) := by decide +kernel
theorem dX3_init_42 : decode cX3_init 42 = .ok (.aastore, 1) := by decide +kernel
theorem dX3_init_43 : decode cX3_init 43 = .ok (.iinc 1 1, 3) := by decide +kernel
theorem dX3_init_46 : decode cX3_init 46 = .ok (.goto (-22), 3) := by decide +kernel
theorem dX3_init_49 : decode cX3_init 49 = .ok (.iconst 0, 1) := by decide +kernel
theorem dX3_init_50 : decode cX3_init 50 = .ok (.istore_n 1, 1) := by decide +kernel
theorem dX3_init_51 : decode cX3_init 51 = .ok (.iload_n 1, 1) := by decide +kernel
theorem dX3_init_52 : decode cX3_init 52 = .ok (.bipush 10, 2) := by decide +kernel
theorem dX3_init_54 : decode cX3_init 54 = .ok (.if_icmp .ge 22, 3) := by decide +kernel
theorem dX3_init_57 : decode cX3_init 57 = .ok (.aload_n 0, 1) := by decide +kernel
theorem dX3_init_58 : decode cX3_init 58 = .ok (.getfield 19, 3) := by decide +kernel
theorem dX3_init_61 : decode cX3_init 61 = .ok (.iload_n 1, 1) := by decide +kernel
theorem dX3_init_62 : decode cX3_init 62 = .ok (.new 17, 3) := by decide +kernel
theorem dX3_init_65 : decode cX3_init 65 = .ok (.dup, 1) := by decide +kernel
theorem dX3_init_66 : decode cX3_init 66 = .ok (.invokespecial 24, 3) := by decide +kernel
theorem dX3_init_69 : decode cX3_init 69 = .ok (.aastore, 1) := by decide +kernel
theorem dX3_init_70 : decode cX3_init 70 = .ok (.iinc 1 1, 3) := by decide +kernel
theorem dX3_init_73 : decode cX3_init 73 = .ok (.goto (-22), 3) := by decide +kernel
theorem dX3_init_76 : decode cX3_init 76 = .ok (.return_, 1) := by decide +kernel
theorem dX3_copyFrom_0 : decode cX3_copyFrom 0 = .ok (.aload_n 0, 1) := by decide +kernel
theorem dX3_copyFrom_1 : decode cX3_copyFrom 1 = .ok (.aload_n 1, 1) := by decide +kernel
theorem dX3_copyFrom_2 : decode cX3_copyFrom 2 = .ok (.getfield 25, 3) := by decide +kernel
theorem dX3_copyFrom_5 : decode cX3_copyFrom 5 = .ok (.putfield 25, 3) := by decide +kernel
theorem dX3_copyFrom_8 : decode cX3_copyFrom 8 = .ok (.iconst 0, 1) := by decide +kernel
theorem dX3_copyFrom_9 : decode cX3_copyFrom 9 = .ok (.istore_n 2, 1) := by decide +kernel
theorem dX3_copyFrom_10 : decode cX3_copyFrom 10 = .ok (.iload_n 2, 1) := by decide +kernel
theorem dX3_copyFrom_11 : decode cX3_copyFrom 11 = .ok (.aload_n 0, 1) := by decide +kernel
theorem dX3_copyFrom_12 : decode cX3_copyFrom 12 = .ok (.getfield 25, 3) := by decide +kernel
theorem dX3_copyFrom_15 : decode cX3_copyFrom 15 = .ok (.if_icmp .ge 24, 3) := by decide +kernel
theorem dX3_copyFrom_18 : decode cX3_copyFrom 18 = .ok (.aload_n 0, 1) := by decide +kernel
theorem dX3_copyFrom_19 : decode cX3_copyFrom 19 = .ok (.getfield 11, 3) := by decide +kernel
theorem dX3_copyFrom_22 : decode cX3_copyFrom 22 = .ok (.iload_n 2, 1) := by decide +kernel
theorem dX3_copyFrom_23 : decode cX3_copyFrom 23 = .ok (.aaload, 1) := by decide +kernel
theorem dX3_copyFrom_24 : decode cX3_copyFrom 24 = .ok (.aload_n 1, 1) := by decide +kernel
theorem dX3_copyFrom_25 : decode cX3_copyFrom 25 = .ok (.getfield 11, 3) := by decide +kernel
theorem dX3_copyFrom_28 : decode cX3_copyFrom 28 = .ok (.iload_n 2, 1) := by decide +kernel
theorem dX3_copyFrom_29 : decode cX3_copyFrom 29 = .ok (.aaload, 1) := by decide +kernel
theorem dX3_copyFrom_30 : decode cX3_copyFrom 30 = .ok (.invokevirtual 29, 3) := by decide +kernel
theorem dX3_copyFrom_33 : decode cX3_copyFrom 33 = .ok (.iinc 2 1, 3) := by decide +kernel
theorem dX3_copyFrom_36 : decode cX3_copyFrom 36 = .ok (.goto (-26), 3) := by decide +kernel
theorem dX3_copyFrom_39 : decode cX3_copyFrom 39 = .ok (.aload_n 0, 1) := by decide +kernel
theorem dX3_copyFrom_40 : decode cX3_copyFrom 40 = .ok (.aload_n 1, 1) := by decide +kernel
theorem dX3_copyFrom_41 : decode cX3_copyFrom 41 = .ok (.getfield 33, 3) := by decide +kernel
theorem dX3_copyFrom_44 : decode cX3_copyFrom 44 = .ok (.putfield 33, 3) := by decide +kernel
theorem dX3_copyFrom_47 : decode cX3_copyFrom 47 = .ok (.iconst 0, 1) := by decide +kernel
theorem dX3_copyFrom_48 : decode cX3_copyFrom 48 = .ok (.istore_n 2, 1) := by decide +kernel
theorem dX3_copyFrom_49 : decode cX3_copyFrom 49 = .ok (.iload_n 2, 1) := by decide +kernel
theorem dX3_copyFrom_50 : decode cX3_copyFrom 50 = .ok (.aload_n 0, 1) := by decide +kernel
theorem dX3_copyFrom_51 : decode cX3_copyFrom 51 = .ok (.getfield 33, 3) := by decide +kernel
theorem dX3_copyFrom_54 : decode cX3_copyFrom 54 = .ok (.if_icmp .ge 24, 3) := by decide +kernel
theorem dX3_copyFrom_57 : decode cX3_copyFrom 57 = .ok (.aload_n 0, 1) := by decide +kernel
theorem dX3_copyFrom_58 : decode cX3_copyFrom 58 = .ok (.getfield 19, 3) := by decide +kernel
theorem dX3_copyFrom_61 : decode cX3_copyFrom 61 = .ok (.iload_n 2, 1) := by decide +kernel
theorem dX3_copyFrom_62 : decode cX3_copyFrom 62 = .ok (.aaload, 1) := by decide +kernel
theorem dX3_copyFrom_63 : decode cX3_copyFrom 63 = .ok (.aload_n 1, 1) := by decide +kernel
theorem dX3_copyFrom_64 : decode cX3_copyFrom 64 = .ok (.getfield 19, 3) := by decide +kernel
theorem dX3_copyFrom_67 : decode cX3_copyFrom 67 = .ok (.iload_n 2, 1) := by decide +kernel
theorem dX3_copyFrom_68 : decode cX3_copyFrom 68 = .ok (.aaload, 1) := by decide +kernel
theorem dX3_copyFrom_69 : decode cX3_copyFrom 69 = .ok (.invokevirtual 36, 3) := by decide +kernel
theorem dX3_copyFrom_72 : decode cX3_copyFrom 72 = .ok (.iinc 2 1, 3) := by decide +kernel
theorem dX3_copyFrom_75 : decode cX3_copyFrom 75 = .ok (.goto (-26), 3) := by decide +kernel
theorem dX3_copyFrom_78 : decode cX3_copyFrom 78 = .ok (.return_, 1) := by decide +kernel
theorem dX3_newGear_0 : decode cX3_newGear 0 = .ok (.aload_n 0, 1) := by decide +kernel
theorem dX3_newGear_1 : decode cX3_newGear 1 = .ok (.getfield 25, 3) := by decide +kernel
theorem dX3_newGear_4 : decode cX3_newGear 4 = .ok (.bipush 6, 2) := by decide +kernel
theorem dX3_newGear_6 : decode cX3_newGear 6 = .ok (.if_icmp .lt 5, 3) := by decide +kernel
theorem dX3_newGear_9 : decode cX3_newGear 9 = .ok (.iconst (-1), 1) := by decide +kernel
theorem dX3_newGear_10 : decode cX3_newGear 10 = .ok (.ireturn, 1) := by decide +kernel
theorem dX3_newGear_11 : decode cX3_newGear 11 = .ok (.aload_n 0, 1) := by decide +kernel
theorem dX3_newGear_12 : decode cX3_newGear 12 = .ok (.getfield 11, 3) := by decide +kernel
theorem dX3_newGear_15 : decode cX3_newGear 15 = .ok (.aload_n 0, 1) := by decide +kernel
theorem dX3_newGear_16 : decode cX3_newGear 16 = .ok (.getfield 25, 3) := by decide +kernel
theorem dX3_newGear_19 : decode cX3_newGear 19 = .ok (.aaload, 1) := by decide +kernel
theorem dX3_newGear_20 : decode cX3_newGear 20 = .ok (.iload_n 1, 1) := by decide +kernel
theorem dX3_newGear_21 : decode cX3_newGear 21 = .ok (.iload_n 2, 1) := by decide +kernel
theorem dX3_newGear_22 : decode cX3_newGear 22 = .ok (.invokevirtual 39, 3) := by decide +kernel
theorem dX3_newGear_25 : decode cX3_newGear 25 = .ok (.aload_n 0, 1) := by decide +kernel
theorem dX3_newGear_26 : decode cX3_newGear 26 = .ok (.dup, 1) := by decide +kernel
theorem dX3_newGear_27 : decode cX3_newGear 27 = .ok (.getfield 25, 3) := by decide +kernel
theorem dX3_newGear_30 : decode cX3_newGear 30 = .ok (.iconst 1, 1) := by decide +kernel
theorem dX3_newGear_31 : decode cX3_newGear 31 = .ok (.iadd, 1) := by decide +kernel
theorem dX3_newGear_32 : decode cX3_newGear 32 = .ok (.putfield 25, 3) := by decide +kernel
theorem dX3_newGear_35 : decode cX3_newGear 35 = .ok (.aload_n 0, 1) := by decide +kernel
theorem dX3_newGear_36 : decode cX3_newGear 36 = .ok (.getfield 25, 3) := by decide +kernel
theorem dX3_newGear_39 : decode cX3_newGear 39 = .ok (.iconst 1, 1) := by decide +kernel
theorem dX3_newGear_40 : decode cX3_newGear 40 = .ok (.isub, 1) := by decide +kernel
theorem dX3_newGear_41 : decode cX3_newGear 41 = .ok (.ireturn, 1) := by decide +kernel
theorem dX3_newLine_0 : decode cX3_newLine 0 = .ok (.aload_n 0, 1) := by decide +kernel
theorem dX3_newLine_1 : decode cX3_newLine 1 = .ok (.getfield 33, 3) := by decide +kernel
theorem dX3_newLine_4 : decode cX3_newLine 4 = .ok (.bipush 10, 2) := by decide +kernel
theorem dX3_newLine_6 : decode cX3_newLine 6 = .ok (.if_icmp .lt 5, 3) := by decide +kernel
theorem dX3_newLine_9 : decode cX3_newLine 9 = .ok (.iconst (-1), 1) := by decide +kernel
theorem dX3_newLine_10 : decode cX3_newLine 10 = .ok (.ireturn, 1) := by decide +kernel
theorem dX3_newLine_11 : decode cX3_newLine 11 = .ok (.aload_n 0, 1) := by decide +kernel
theorem dX3_newLine_12 : decode cX3_newLine 12 = .ok (.getfield 19, 3) := by decide +kernel
theorem dX3_newLine_15 : decode cX3_newLine 15 = .ok (.aload_n 0, 1) := by decide +kernel
theorem dX3_newLine_16 : decode cX3_newLine 16 = .ok (.getfield 33, 3) := by decide +kernel
theorem dX3_newLine_19 : decode cX3_newLine 19 = .ok (.aaload, 1) := by decide +kernel
theorem dX3_newLine_20 : decode cX3_newLine 20 = .ok (.iload_n 1, 1) := by decide +kernel
theorem dX3_newLine_21 : decode cX3_newLine 21 = .ok (.iload_n 2, 1) := by decide +kernel
theorem dX3_newLine_22 : decode cX3_newLine 22 = .ok (.invokevirtual 43, 3) := by decide +kernel
theorem dX3_newLine_25 : decode cX3_newLine 25 = .ok (.aload_n 0, 1) := by decide +kernel
theorem dX3_newLine_26 : decode cX3_newLine 26 = .ok (.dup, 1) := by decide +kernel
theorem dX3_newLine_27 : decode cX3_newLine 27 = .ok (.getfield 33, 3) := by decide +kernel
theorem dX3_newLine_30 : decode cX3_newLine 30 = .ok (.iconst 1, 1) := by decide +kernel
theorem dX3_newLine_31 : decode cX3_newLine 31 = .ok (.iadd, 1) := by decide +kernel
theorem dX3_newLine_32 : decode cX3_newLine 32 = .ok (.putfield 33, 3) := by decide +kernel
theorem dX3_newLine_35 : decode cX3_newLine 35 = .ok (.aload_n 0, 1) := by decide +kernel
theorem dX3_newLine_36 : decode cX3_newLine 36 = .ok (.getfield 33, 3) := by decide +kernel
theorem dX3_newLine_39 : decode cX3_newLine 39 = .ok (.iconst 1, 1) := by decide +kernel
theorem dX3_newLine_40 : decode cX3_newLine 40 = .ok (.isub, 1) := by decide +kernel
theorem dX3_newLine_41 : decode cX3_newLine 41 = .ok (.ireturn, 1) := by decide +kernel
theorem dX3_dropGear_0 : decode cX3_dropGear 0 = .ok (.aload_n 0, 1) := by decide +kernel
theorem dX3_dropGear_1 : decode cX3_dropGear 1 = .ok (.getfield 33, 3) := by decide +kernel
theorem dX3_dropGear_4 : decode cX3_dropGear 4 = .ok (.istore_n 2, 1) := by decide +kernel
theorem dX3_dropGear_5 : decode cX3_dropGear 5 = .ok (.aload_n 0, 1) := by decide +kernel
theorem dX3_dropGear_6 : decode cX3_dropGear 6 = .ok (.getfield 33, 3) := by decide +kernel
theorem dX3_dropGear_9 : decode cX3_dropGear 9 = .ok (.iconst 1, 1) := by decide +kernel
theorem dX3_dropGear_10 : decode cX3_dropGear 10 = .ok (.isub, 1) := by decide +kernel
theorem dX3_dropGear_11 : decode cX3_dropGear 11 = .ok (.istore_n 3, 1) := by decide +kernel
theorem dX3_dropGear_12 : decode cX3_dropGear 12 = .ok (.iload_n 3, 1) := by decide +kernel
theorem dX3_dropGear_13 : decode cX3_dropGear 13 = .ok (.ifCond .lt 27, 3) := by decide +kernel
theorem dX3_dropGear_16 : decode cX3_dropGear 16 = .ok (.aload_n 0, 1) := by decide +kernel
theorem dX3_dropGear_17 : decode cX3_dropGear 17 = .ok (.getfield 19, 3) := by decide +kernel
theorem dX3_dropGear_20 : decode cX3_dropGear 20 = .ok (.iload_n 3, 1) := by decide +kernel
theorem dX3_dropGear_21 : decode cX3_dropGear 21 = .ok (.aaload, 1) := by decide +kernel
theorem dX3_dropGear_22 : decode cX3_dropGear 22 = .ok (.getfield 44, 3) := by decide +kernel
theorem dX3_dropGear_25 : decode cX3_dropGear 25 = .ok (.iload_n 1, 1) := by decide +kernel
theorem dX3_dropGear_26 : decode cX3_dropGear 26 = .ok (.if_icmp .ne 8, 3) := by decide +kernel
theorem dX3_dropGear_29 : decode cX3_dropGear 29 = .ok (.aload_n 0, 1) := by decide +kernel
theorem dX3_dropGear_30 : decode cX3_dropGear 30 = .ok (.iload_n 3, 1) := by decide +kernel
theorem dX3_dropGear_31 : decode cX3_dropGear 31 = .ok (.invokevirtual 47, 3) := by decide +kernel
theorem dX3_dropGear_34 : decode cX3_dropGear 34 = .ok (.iinc 3 (-1), 3) := by decide +kernel
theorem dX3_dropGear_37 : decode cX3_dropGear 37 = .ok (.goto (-25), 3) := by decide +kernel
theorem dX3_dropGear_40 : decode cX3_dropGear 40 = .ok (.iconst 0, 1) := by decide +kernel
theorem dX3_dropGear_41 : decode cX3_dropGear 41 = .ok (.istore_n 3, 1) := by decide +kernel
theorem dX3_dropGear_42 : decode cX3_dropGear 42 = .ok (.iload_n 3, 1) := by decide +kernel
theorem dX3_dropGear_43 : decode cX3_dropGear 43 = .ok (.aload_n 0, 1) := by decide +kernel
theorem dX3_dropGear_44 : decode cX3_dropGear 44 = .ok (.getfield 33, 3) := by decide +kernel
theorem dX3_dropGear_47 : decode cX3_dropGear 47 = .ok (.if_icmp .ge 37, 3) := by decide +kernel
theorem dX3_dropGear_50 : decode cX3_dropGear 50 = .ok (.aload_n 0, 1) := by decide +kernel
theorem dX3_dropGear_51 : decode cX3_dropGear 51 = .ok (.getfield 19, 3) := by decide +kernel
theorem dX3_dropGear_54 : decode cX3_dropGear 54 = .ok (.iload_n 3, 1) := by decide +kernel
theorem dX3_dropGear_55 : decode cX3_dropGear 55 = .ok (.aaload, 1) := by decide +kernel
theorem dX3_dropGear_56 : decode cX3_dropGear 56 = .ok (.getfield 44, 3) := by decide +kernel
theorem dX3_dropGear_59 : decode cX3_dropGear 59 = .ok (.iload_n 1, 1) := by decide +kernel
theorem dX3_dropGear_60 : decode cX3_dropGear 60 = .ok (.if_icmp .le 18, 3) := by decide +kernel
theorem dX3_dropGear_63 : decode cX3_dropGear 63 = .ok (.aload_n 0, 1) := by decide +kernel
theorem dX3_dropGear_64 : decode cX3_dropGear 64 = .ok (.getfield 19, 3) := by decide +kernel
theorem dX3_dropGear_67 : decode cX3_dropGear 67 = .ok (.iload_n 3, 1) := by decide +kernel
theorem dX3_dropGear_68 : decode cX3_dropGear 68 = .ok (.aaload, 1) := by decide +kernel
theorem dX3_dropGear_69 : decode cX3_dropGear 69 = .ok (.dup, 1) := by decide +kernel
theorem dX3_dropGear_70 : decode cX3_dropGear 70 = .ok (.getfield 44, 3) := by decide +kernel
theorem dX3_dropGear_73 : decode cX3_dropGear 73 = .ok (.iconst 1, 1) := by decide +kernel
theorem dX3_dropGear_74 : decode cX3_dropGear 74 = .ok (.isub, 1) := by decide +kernel
theorem dX3_dropGear_75 : decode cX3_dropGear 75 = .ok (.putfield 44, 3) := by decide +kernel
theorem dX3_dropGear_78 : decode cX3_dropGear 78 = .ok (.iinc 3 1, 3) := by decide +kernel
theorem dX3_dropGear_81 : decode cX3_dropGear 81 = .ok (.goto (-39), 3) := by decide +kernel
theorem dX3_dropGear_84 : decode cX3_dropGear 84 = .ok (.aload_n 0, 1) := by decide +kernel
theorem dX3_dropGear_85 : decode cX3_dropGear 85 = .ok (.getfield 11, 3) := by decide +kernel
theorem dX3_dropGear_88 : decode cX3_dropGear 88 = .ok (.iload_n 1, 1) := by decide +kernel
theorem dX3_dropGear_89 : decode cX3_dropGear 89 = .ok (.aaload, 1) := by decide +kernel
theorem dX3_dropGear_90 : decode cX3_dropGear 90 = .ok (.astore_n 3, 1) := by decide +kernel
theorem dX3_dropGear_91 : decode cX3_dropGear 91 = .ok (.aload_n 0, 1) := by decide +kernel
theorem dX3_dropGear_92 : decode cX3_dropGear 92 = .ok (.dup, 1) := by decide +kernel
theorem dX3_dropGear_93 : decode cX3_dropGear 93 = .ok (.getfield 25, 3) := by decide +kernel
theorem dX3_dropGear_96 : decode cX3_dropGear 96 = .ok (.iconst 1, 1) := by decide +kernel
theorem dX3_dropGear_97 : decode cX3_dropGear 97 = .ok (.isub, 1) := by decide +kernel
theorem dX3_dropGear_98 : decode cX3_dropGear 98 = .ok (.putfield 25, 3) := by decide +kernel
theorem dX3_dropGear_101 : decode cX3_dropGear 101 = .ok (.iload_n 1, 1) := by decide +kernel
theorem dX3_dropGear_102 : decode cX3_dropGear 102 = .ok (.istore 4, 2) := by decide +kernel
theorem dX3_dropGear_104 : decode cX3_dropGear 104 = .ok (.iload 4, 2) := by decide +kernel
theorem dX3_dropGear_106 : decode cX3_dropGear 106 = .ok (.aload_n 0, 1) := by decide +kernel
theorem dX3_dropGear_107 : decode cX3_dropGear 107 = .ok (.getfield 25, 3) := by decide +kernel
theorem dX3_dropGear_110 : decode cX3_dropGear 110 = .ok (.if_icmp .ge 25, 3) := by decide +kernel
theorem dX3_dropGear_113 : decode cX3_dropGear 113 = .ok (.aload_n 0, 1) := by decide +kernel
theorem dX3_dropGear_114 : decode cX3_dropGear 114 = .ok (.getfield 11, 3) := by decide +kernel
theorem dX3_dropGear_117 : decode cX3_dropGear 117 = .ok (.iload 4, 2) := by decide +kernel
theorem dX3_dropGear_119 : decode cX3_dropGear 119 = .ok (.aload_n 0, 1) := by decide +kernel
theorem dX3_dropGear_120 : decode cX3_dropGear 120 = .ok (.getfield 11, 3) := by decide +kernel
theorem dX3_dropGear_123 : decode cX3_dropGear 123 = .ok (.iload 4, 2) := by decide +kernel
theorem dX3_dropGear_125 : decode cX3_dropGear 125 = .ok (.iconst 1, 1) := by decide +kernel
theorem dX3_dropGear_126 : decode cX3_dropGear 126 = .ok (.iadd, 1) := by decide +kernel
theorem dX3_dropGear_127 : decode cX3_dropGear 127 = .ok (.aaload, 1) := by decide +kernel
theorem dX3_dropGear_128 : decode cX3_dropGear 128 = .ok (.aastore, 1) := by decide +kernel
theorem dX3_dropGear_129 : decode cX3_dropGear 129 = .ok (.iinc 4 1, 3) := by decide +kernel
theorem dX3_dropGear_132 : decode cX3_dropGear 132 = .ok (.goto (-28), 3) := by decide +kernel
theorem dX3_dropGear_135 : decode cX3_dropGear 135 = .ok (.aload_n 0, 1) := by decide +kernel
theorem dX3_dropGear_136 : decode cX3_dropGear 136 = .ok (.getfield 11, 3) := by decide +kernel
theorem dX3_dropGear_139 : decode cX3_dropGear 139 = .ok (.aload_n 0, 1) := by decide +kernel
theorem dX3_dropGear_140 : decode cX3_dropGear 140 = .ok (.getfield 25, 3) := by decide +kernel
theorem dX3_dropGear_143 : decode cX3_dropGear 143 = .ok (.aload_n 3, 1) := by decide +kernel
theorem dX3_dropGear_144 : decode cX3_dropGear 144 = .ok (.aastore, 1) := by decide +kernel
theorem dX3_dropGear_145 : decode cX3_dropGear 145 = .ok (.iload_n 2, 1) := by decide +kernel
theorem dX3_dropGear_146 : decode cX3_dropGear 146 = .ok (.aload_n 0, 1) := by decide +kernel
theorem dX3_dropGear_147 : decode cX3_dropGear 147 = .ok (.getfield 33, 3) := by decide +kernel
theorem dX3_dropGear_150 : decode cX3_dropGear 150 = .ok (.isub, 1) := by decide +kernel
theorem dX3_dropGear_151 : decode cX3_dropGear 151 = .ok (.ireturn, 1) := by decide +kernel
theorem dX3_dropLine_0 : decode cX3_dropLine 0 = .ok (.aload_n 0, 1) := by decide +kernel
theorem dX3_dropLine_1 : decode cX3_dropLine 1 = .ok (.getfield 19, 3) := by decide +kernel
theorem dX3_dropLine_4 : decode cX3_dropLine 4 = .ok (.iload_n 1, 1) := by decide +kernel
theorem dX3_dropLine_5 : decode cX3_dropLine 5 = .ok (.aaload, 1) := by decide +kernel
theorem dX3_dropLine_6 : decode cX3_dropLine 6 = .ok (.astore_n 2, 1) := by decide +kernel
theorem dX3_dropLine_7 : decode cX3_dropLine 7 = .ok (.aload_n 0, 1) := by decide +kernel
theorem dX3_dropLine_8 : decode cX3_dropLine 8 = .ok (.dup, 1) := by decide +kernel
theorem dX3_dropLine_9 : decode cX3_dropLine 9 = .ok (.getfield 33, 3) := by decide +kernel
theorem dX3_dropLine_12 : decode cX3_dropLine 12 = .ok (.iconst 1, 1) := by decide +kernel
theorem dX3_dropLine_13 : decode cX3_dropLine 13 = .ok (.isub, 1) := by decide +kernel
theorem dX3_dropLine_14 : decode cX3_dropLine 14 = .ok (.putfield 33, 3) := by decide +kernel
theorem dX3_dropLine_17 : decode cX3_dropLine 17 = .ok (.iload_n 1, 1) := by decide +kernel
theorem dX3_dropLine_18 : decode cX3_dropLine 18 = .ok (.istore_n 3, 1) := by decide +kernel
theorem dX3_dropLine_19 : decode cX3_dropLine 19 = .ok (.iload_n 3, 1) := by decide +kernel
theorem dX3_dropLine_20 : decode cX3_dropLine 20 = .ok (.aload_n 0, 1) := by decide +kernel
theorem dX3_dropLine_21 : decode cX3_dropLine 21 = .ok (.getfield 33, 3) := by decide +kernel
theorem dX3_dropLine_24 : decode cX3_dropLine 24 = .ok (.if_icmp .ge 23, 3) := by decide +kernel
theorem dX3_dropLine_27 : decode cX3_dropLine 27 = .ok (.aload_n 0, 1) := by decide +kernel
theorem dX3_dropLine_28 : decode cX3_dropLine 28 = .ok (.getfield 19, 3) := by decide +kernel
theorem dX3_dropLine_31 : decode cX3_dropLine 31 = .ok (.iload_n 3, 1) := by decide +kernel
theorem dX3_dropLine_32 : decode cX3_dropLine 32 = .ok (.aload_n 0, 1) := by decide +kernel
theorem dX3_dropLine_33 : decode cX3_dropLine 33 = .ok (.getfield 19, 3) := by decide +kernel
theorem dX3_dropLine_36 : decode cX3_dropLine 36 = .ok (.iload_n 3, 1) := by decide +kernel
theorem dX3_dropLine_37 : decode cX3_dropLine 37 = .ok (.iconst 1, 1) := by decide +kernel
theorem dX3_dropLine_38 : decode cX3_dropLine 38 = .ok (.iadd, 1) := by decide +kernel
theorem dX3_dropLine_39 : decode cX3_dropLine 39 = .ok (.aaload, 1) := by decide +kernel
theorem dX3_dropLine_40 : decode cX3_dropLine 40 = .ok (.aastore, 1) := by decide +kernel
theorem dX3_dropLine_41 : decode cX3_dropLine 41 = .ok (.iinc 3 1, 3) := by decide +kernel
theorem dX3_dropLine_44 : decode cX3_dropLine 44 = .ok (.goto (-25), 3) := by decide +kernel
theorem dX3_dropLine_47 : decode cX3_dropLine 47 = .ok (.aload_n 0, 1) := by decide +kernel
theorem dX3_dropLine_48 : decode cX3_dropLine 48 = .ok (.getfield 19, 3) := by decide +kernel
theorem dX3_dropLine_51 : decode cX3_dropLine 51 = .ok (.aload_n 0, 1) := by decide +kernel
theorem dX3_dropLine_52 : decode cX3_dropLine 52 = .ok (.getfield 33, 3) := by decide +kernel
theorem dX3_dropLine_55 : decode cX3_dropLine 55 = .ok (.aload_n 2, 1) := by decide +kernel
theorem dX3_dropLine_56 : decode cX3_dropLine 56 = .ok (.aastore, 1) := by decide +kernel
theorem dX3_dropLine_57 : decode cX3_dropLine 57 = .ok (.return_, 1) := by decide +kernel
theorem dX3_linesOf_0 : decode cX3_linesOf 0 = .ok (.iconst 0, 1) := by decide +kernel
theorem dX3_linesOf_1 : decode cX3_linesOf 1 = .ok (.istore_n 2, 1) := by decide +kernel
theorem dX3_linesOf_2 : decode cX3_linesOf 2 = .ok (.iconst 0, 1) := by decide +kernel
theorem dX3_linesOf_3 : decode cX3_linesOf 3 = .ok (.istore_n 3, 1) := by decide +kernel
theorem dX3_linesOf_4 : decode cX3_linesOf 4 = .ok (.iload_n 3, 1) := by decide +kernel
theorem dX3_linesOf_5 : decode cX3_linesOf 5 = .ok (.aload_n 0, 1) := by decide +kernel
theorem dX3_linesOf_6 : decode cX3_linesOf 6 = .ok (.getfield 33, 3) := by decide +kernel
theorem dX3_linesOf_9 : decode cX3_linesOf 9 = .ok (.if_icmp .ge 25, 3) := by decide +kernel
theorem dX3_linesOf_12 : decode cX3_linesOf 12 = .ok (.aload_n 0, 1) := by decide +kernel
theorem dX3_linesOf_13 : decode cX3_linesOf 13 = .ok (.getfield 19, 3) := by decide +kernel
theorem dX3_linesOf_16 : decode cX3_linesOf 16 = .ok (.iload_n 3, 1) := by decide +kernel
theorem dX3_linesOf_17 : decode cX3_linesOf 17 = .ok (.aaload, 1) := by decide +kernel
theorem dX3_linesOf_18 : decode cX3_linesOf 18 = .ok (.getfield 44, 3) := by decide +kernel
theorem dX3_linesOf_21 : decode cX3_linesOf 21 = .ok (.iload_n 1, 1) := by decide +kernel
theorem dX3_linesOf_22 : decode cX3_linesOf 22 = .ok (.if_icmp .ne 6, 3) := by decide +kernel
theorem dX3_linesOf_25 : decode cX3_linesOf 25 = .ok (.iinc 2 1, 3) := by decide +kernel
theorem dX3_linesOf_28 : decode cX3_linesOf 28 = .ok (.iinc 3 1, 3) := by decide +kernel
theorem dX3_linesOf_31 : decode cX3_linesOf 31 = .ok (.goto (-27), 3) := by decide +kernel
theorem dX3_linesOf_34 : decode cX3_linesOf 34 = .ok (.iload_n 2, 1) := by decide +kernel
theorem dX3_linesOf_35 : decode cX3_linesOf 35 = .ok (.ireturn, 1) := by decide +kernel
theorem dX3_deviationOf_0 : decode cX3_deviationOf 0 = .ok (.aload_n 0, 1) := by decide +kernel
theorem dX3_deviationOf_1 : decode cX3_deviationOf 1 = .ok (.getfield 11, 3) := by decide +kernel
theorem dX3_deviationOf_4 : decode cX3_deviationOf 4 = .ok (.iload_n 1, 1) := by decide +kernel
theorem dX3_deviationOf_5 : decode cX3_deviationOf 5 = .ok (.aaload, 1) := by decide +kernel
theorem dX3_deviationOf_6 : decode cX3_deviationOf 6 = .ok (.astore_n 3, 1) := by decide +kernel
theorem dX3_deviationOf_7 : decode cX3_deviationOf 7 = .ok (.iload_n 2, 1) := by decide +kernel
theorem dX3_deviationOf_8 : decode cX3_deviationOf 8 = .ok (.tableswitch 61 0 2 #[28, 42, 56], 28) := by decide +kernel
theorem dX3_deviationOf_36 : decode cX3_deviationOf 36 = .ok (.aload_n 3, 1) := by decide +kernel
theorem dX3_deviationOf_37 : decode cX3_deviationOf 37 = .ok (.iconst 0, 1) := by decide +kernel
theorem dX3_deviationOf_38 : decode cX3_deviationOf 38 = .ok (.invokevirtual 51, 3) := by decide +kernel
theorem dX3_deviationOf_41 : decode cX3_deviationOf 41 = .ok (.aload_n 3, 1) := by decide +kernel
theorem dX3_deviationOf_42 : decode cX3_deviationOf 42 = .ok (.iconst 1, 1) := by decide +kernel
theorem dX3_deviationOf_43 : decode cX3_deviationOf 43 = .ok (.invokevirtual 51, 3) := by decide +kernel
theorem dX3_deviationOf_46 : decode cX3_deviationOf 46 = .ok (.invokestatic 55, 3) := by decide +kernel
theorem dX3_deviationOf_49 : decode cX3_deviationOf 49 = .ok (.ireturn, 1) := by decide +kernel
theorem dX3_deviationOf_50 : decode cX3_deviationOf 50 = .ok (.aload_n 3, 1) := by decide +kernel
theorem dX3_deviationOf_51 : decode cX3_deviationOf 51 = .ok (.iconst 0, 1) := by decide +kernel
theorem dX3_deviationOf_52 : decode cX3_deviationOf 52 = .ok (.invokevirtual 61, 3) := by decide +kernel
theorem dX3_deviationOf_55 : decode cX3_deviationOf 55 = .ok (.aload_n 3, 1) := by decide +kernel
theorem dX3_deviationOf_56 : decode cX3_deviationOf 56 = .ok (.iconst 1, 1) := by decide +kernel
theorem dX3_deviationOf_57 : decode cX3_deviationOf 57 = .ok (.invokevirtual 61, 3) := by decide +kernel
theorem dX3_deviationOf_60 : decode cX3_deviationOf 60 = .ok (.invokestatic 55, 3) := by decide +kernel
theorem dX3_deviationOf_63 : decode cX3_deviationOf 63 = .ok (.ireturn, 1) := by decide +kernel
theorem dX3_deviationOf_64 : decode cX3_deviationOf 64 = .ok (.aload_n 3, 1) := by decide +kernel
theorem dX3_deviationOf_65 : decode cX3_deviationOf 65 = .ok (.invokevirtual 64, 3) := by decide +kernel
theorem dX3_deviationOf_68 : decode cX3_deviationOf 68 = .ok (.ireturn, 1) := by decide +kernel
theorem dX3_deviationOf_69 : decode cX3_deviationOf 69 = .ok (.aload_n 0, 1) := by decide +kernel
theorem dX3_deviationOf_70 : decode cX3_deviationOf 70 = .ok (.iload_n 1, 1) := by decide +kernel
theorem dX3_deviationOf_71 : decode cX3_deviationOf 71 = .ok (.iload_n 2, 1) := by decide +kernel
theorem dX3_deviationOf_72 : decode cX3_deviationOf 72 = .ok (.iconst 3, 1) := by decide +kernel
theorem dX3_deviationOf_73 : decode cX3_deviationOf 73 = .ok (.isub, 1) := by decide +kernel
theorem dX3_deviationOf_74 : decode cX3_deviationOf 74 = .ok (.iconst 3, 1) := by decide +kernel
theorem dX3_deviationOf_75 : decode cX3_deviationOf 75 = .ok (.idiv, 1) := by decide +kernel
theorem dX3_deviationOf_76 : decode cX3_deviationOf 76 = .ok (.iload_n 2, 1) := by decide +kernel
theorem dX3_deviationOf_77 : decode cX3_deviationOf 77 = .ok (.iconst 3, 1) := by decide +kernel
theorem dX3_deviationOf_78 : decode cX3_deviationOf 78 = .ok (.isub, 1) := by decide +kernel
theorem dX3_deviationOf_79 : decode cX3_deviationOf 79 = .ok (.iconst 3, 1) := by decide +kernel
theorem dX3_deviationOf_80 : decode cX3_deviationOf 80 = .ok (.irem, 1) := by decide +kernel
theorem dX3_deviationOf_81 : decode cX3_deviationOf 81 = .ok (.invokevirtual 68, 3) := by decide +kernel
theorem dX3_deviationOf_84 : decode cX3_deviationOf 84 = .ok (.ireturn, 1) := by decide +kernel
theorem dX3_greatestOfLines_0 : decode cX3_greatestOfLines 0 = .ok (.iconst 0, 1) := by decide +kernel
theorem dX3_greatestOfLines_1 : decode cX3_greatestOfLines 1 = .ok (.istore 4, 2) := by decide +kernel
theorem dX3_greatestOfLines_3 : decode cX3_greatestOfLines 3 = .ok (.iconst 0, 1) := by decide +kernel
theorem dX3_greatestOfLines_4 : decode cX3_greatestOfLines 4 = .ok (.istore 5, 2) := by decide +kernel
theorem dX3_greatestOfLines_6 : decode cX3_greatestOfLines 6 = .ok (.iload 5, 2) := by decide +kernel
theorem dX3_greatestOfLines_8 : decode cX3_greatestOfLines 8 = .ok (.aload_n 0, 1) := by decide +kernel
theorem dX3_greatestOfLines_9 : decode cX3_greatestOfLines 9 = .ok (.getfield 33, 3) := by decide +kernel
theorem dX3_greatestOfLines_12 : decode cX3_greatestOfLines 12 = .ok (.if_icmp .ge 60, 3) := by decide +kernel
theorem dX3_greatestOfLines_15 : decode cX3_greatestOfLines 15 = .ok (.aload_n 0, 1) := by decide +kernel
theorem dX3_greatestOfLines_16 : decode cX3_greatestOfLines 16 = .ok (.getfield 19, 3) := by decide +kernel
theorem dX3_greatestOfLines_19 : decode cX3_greatestOfLines 19 = .ok (.iload 5, 2) := by decide +kernel
theorem dX3_greatestOfLines_21 : decode cX3_greatestOfLines 21 = .ok (.aaload, 1) := by decide +kernel
theorem dX3_greatestOfLines_22 : decode cX3_greatestOfLines 22 = .ok (.astore 6, 2) := by decide +kernel
theorem dX3_greatestOfLines_24 : decode cX3_greatestOfLines 24 = .ok (.aload 6, 2) := by decide +kernel
theorem dX3_greatestOfLines_26 : decode cX3_greatestOfLines 26 = .ok (.getfield 44, 3) := by decide +kernel
theorem dX3_greatestOfLines_29 : decode cX3_greatestOfLines 29 = .ok (.iload_n 1, 1) := by decide +kernel
theorem dX3_greatestOfLines_30 : decode cX3_greatestOfLines 30 = .ok (.if_icmp .ne 36, 3) := by decide +kernel
theorem dX3_greatestOfLines_33 : decode cX3_greatestOfLines 33 = .ok (.aload 6, 2) := by decide +kernel
theorem dX3_greatestOfLines_35 : decode cX3_greatestOfLines 35 = .ok (.getfield 72, 3) := by decide +kernel
theorem dX3_greatestOfLines_38 : decode cX3_greatestOfLines 38 = .ok (.iload_n 2, 1) := by decide +kernel
theorem dX3_greatestOfLines_39 : decode cX3_greatestOfLines 39 = .ok (.if_icmp .ne 27, 3) := by decide +kernel
theorem dX3_greatestOfLines_42 : decode cX3_greatestOfLines 42 = .ok (.aload 6, 2) := by decide +kernel
theorem dX3_greatestOfLines_44 : decode cX3_greatestOfLines 44 = .ok (.invokevirtual 75, 3) := by decide +kernel
theorem dX3_greatestOfLines_47 : decode cX3_greatestOfLines 47 = .ok (.ifCond .eq 19, 3) := by decide +kernel
theorem dX3_greatestOfLines_50 : decode cX3_greatestOfLines 50 = .ok (.iload 4, 2) := by decide +kernel
theorem dX3_greatestOfLines_52 : decode cX3_greatestOfLines 52 = .ok (.aload 6, 2) := by decide +kernel
theorem dX3_greatestOfLines_54 : decode cX3_greatestOfLines 54 = .ok (.iload_n 3, 1) := by decide +kernel
theorem dX3_greatestOfLines_55 : decode cX3_greatestOfLines 55 = .ok (.invokevirtual 79, 3) := by decide +kernel
theorem dX3_greatestOfLines_58 : decode cX3_greatestOfLines 58 = .ok (.invokestatic 82, 3) := by decide +kernel
theorem dX3_greatestOfLines_61 : decode cX3_greatestOfLines 61 = .ok (.invokestatic 55, 3) := by decide +kernel
theorem dX3_greatestOfLines_64 : decode cX3_greatestOfLines 64 = .ok (.istore 4, 2) := by decide +kernel
theorem dX3_greatestOfLines_66 : decode cX3_greatestOfLines 66 = .ok (.iinc 5 1, 3) := by decide +kernel
theorem dX3_greatestOfLines_69 : decode cX3_greatestOfLines 69 = .ok (.goto (-63), 3) := by decide +kernel
theorem dX3_greatestOfLines_72 : decode cX3_greatestOfLines 72 = .ok (.iload 4, 2) := by decide +kernel
theorem dX3_greatestOfLines_74 : decode cX3_greatestOfLines 74 = .ok (.ireturn, 1) := by decide +kernel
theorem dX3_carryOut_0 : decode cX3_carryOut 0 = .ok (.aload_n 1, 1) := by decide +kernel
theorem dX3_carryOut_1 : decode cX3_carryOut 1 = .ok (.getfield 85, 3) := by decide +kernel
theorem dX3_carryOut_4 : decode cX3_carryOut 4 = .ok (.tableswitch 140 102 114 #[126, 68, 140, 140, 140, 140, 112, 140, 140, 140, 133, 140, 119], 68) := by decide +kernel
theorem dX3_carryOut_72 : decode cX3_carryOut 72 = .ok (.aload_n 1, 1) := by decide +kernel
theorem dX3_carryOut_73 : decode cX3_carryOut 73 = .ok (.getfield 90, 3) := by decide +kernel
theorem dX3_carryOut_76 : decode cX3_carryOut 76 = .ok (.iconst 0, 1) := by decide +kernel
theorem dX3_carryOut_77 : decode cX3_carryOut 77 = .ok (.iaload, 1) := by decide +kernel
theorem dX3_carryOut_78 : decode cX3_carryOut 78 = .ok (.aload_n 1, 1) := by decide +kernel
theorem dX3_carryOut_79 : decode cX3_carryOut 79 = .ok (.getfield 90, 3) := by decide +kernel
theorem dX3_carryOut_82 : decode cX3_carryOut 82 = .ok (.iconst 1, 1) := by decide +kernel
theorem dX3_carryOut_83 : decode cX3_carryOut 83 = .ok (.iaload, 1) := by decide +kernel
theorem dX3_carryOut_84 : decode cX3_carryOut 84 = .ok (.invokestatic 94, 3) := by decide +kernel
theorem dX3_carryOut_87 : decode cX3_carryOut 87 = .ok (.ifCond .eq 27, 3) := by decide +kernel
theorem dX3_carryOut_90 : decode cX3_carryOut 90 = .ok (.aload_n 0, 1) := by decide +kernel
theorem dX3_carryOut_91 : decode cX3_carryOut 91 = .ok (.aload_n 1, 1) := by decide +kernel
theorem dX3_carryOut_92 : decode cX3_carryOut 92 = .ok (.getfield 90, 3) := by decide +kernel
theorem dX3_carryOut_95 : decode cX3_carryOut 95 = .ok (.iconst 0, 1) := by decide +kernel
theorem dX3_carryOut_96 : decode cX3_carryOut 96 = .ok (.iaload, 1) := by decide +kernel
theorem dX3_carryOut_97 : decode cX3_carryOut 97 = .ok (.aload_n 1, 1) := by decide +kernel
theorem dX3_carryOut_98 : decode cX3_carryOut 98 = .ok (.getfield 90, 3) := by decide +kernel
theorem dX3_carryOut_101 : decode cX3_carryOut 101 = .ok (.iconst 1, 1) := by decide +kernel
theorem dX3_carryOut_102 : decode cX3_carryOut 102 = .ok (.iaload, 1) := by decide +kernel
theorem dX3_carryOut_103 : decode cX3_carryOut 103 = .ok (.invokevirtual 98, 3) := by decide +kernel
theorem dX3_carryOut_106 : decode cX3_carryOut 106 = .ok (.iconst (-1), 1) := by decide +kernel
theorem dX3_carryOut_107 : decode cX3_carryOut 107 = .ok (.if_icmp .eq 7, 3) := by decide +kernel
theorem dX3_carryOut_110 : decode cX3_carryOut 110 = .ok (.iconst 1, 1) := by decide +kernel
theorem dX3_carryOut_111 : decode cX3_carryOut 111 = .ok (.goto 4, 3) := by decide +kernel
theorem dX3_carryOut_114 : decode cX3_carryOut 114 = .ok (.iconst 0, 1) := by decide +kernel
theorem dX3_carryOut_115 : decode cX3_carryOut 115 = .ok (.ireturn, 1) := by decide +kernel
theorem dX3_carryOut_116 : decode cX3_carryOut 116 = .ok (.aload_n 0, 1) := by decide +kernel
theorem dX3_carryOut_117 : decode cX3_carryOut 117 = .ok (.iconst 0, 1) := by decide +kernel
theorem dX3_carryOut_118 : decode cX3_carryOut 118 = .ok (.aload_n 1, 1) := by decide +kernel
theorem dX3_carryOut_119 : decode cX3_carryOut 119 = .ok (.invokevirtual 101, 3) := by decide +kernel
theorem dX3_carryOut_122 : decode cX3_carryOut 122 = .ok (.ireturn, 1) := by decide +kernel
theorem dX3_carryOut_123 : decode cX3_carryOut 123 = .ok (.aload_n 0, 1) := by decide +kernel
theorem dX3_carryOut_124 : decode cX3_carryOut 124 = .ok (.iconst 1, 1) := by decide +kernel
theorem dX3_carryOut_125 : decode cX3_carryOut 125 = .ok (.aload_n 1, 1) := by decide +kernel
theorem dX3_carryOut_126 : decode cX3_carryOut 126 = .ok (.invokevirtual 101, 3) := by decide +kernel
theorem dX3_carryOut_129 : decode cX3_carryOut 129 = .ok (.ireturn, 1) := by decide +kernel
theorem dX3_carryOut_130 : decode cX3_carryOut 130 = .ok (.aload_n 0, 1) := by decide +kernel
theorem dX3_carryOut_131 : decode cX3_carryOut 131 = .ok (.iconst 2, 1) := by decide +kernel
theorem dX3_carryOut_132 : decode cX3_carryOut 132 = .ok (.aload_n 1, 1) := by decide +kernel
theorem dX3_carryOut_133 : decode cX3_carryOut 133 = .ok (.invokevirtual 101, 3) := by decide +kernel
theorem dX3_carryOut_136 : decode cX3_carryOut 136 = .ok (.ireturn, 1) := by decide +kernel
theorem dX3_carryOut_137 : decode cX3_carryOut 137 = .ok (.aload_n 0, 1) := by decide +kernel
theorem dX3_carryOut_138 : decode cX3_carryOut 138 = .ok (.iconst 0, 1) := by decide +kernel
theorem dX3_carryOut_139 : decode cX3_carryOut 139 = .ok (.aload_n 1, 1) := by decide +kernel
theorem dX3_carryOut_140 : decode cX3_carryOut 140 = .ok (.invokevirtual 105, 3) := by decide +kernel
theorem dX3_carryOut_143 : decode cX3_carryOut 143 = .ok (.ireturn, 1) := by decide +kernel
theorem dX3_carryOut_144 : decode cX3_carryOut 144 = .ok (.aload_n 0, 1) := by decide +kernel
theorem dX3_carryOut_145 : decode cX3_carryOut 145 = .ok (.iconst 1, 1) := by decide +kernel
theorem dX3_carryOut_146 : decode cX3_carryOut 146 = .ok (.aload_n 1, 1) := by decide +kernel
theorem dX3_carryOut_147 : decode cX3_carryOut 147 = .ok (.invokevirtual 105, 3) := by decide +kernel
theorem dX3_carryOut_150 : decode cX3_carryOut 150 = .ok (.ireturn, 1) := by decide +kernel
theorem dX3_takeSeries_0 : decode cX3_takeSeries 0 = .ok (.aload_n 0, 1) := by decide +kernel
theorem dX3_takeSeries_1 : decode cX3_takeSeries 1 = .ok (.getfield 25, 3) := by decide +kernel
theorem dX3_takeSeries_4 : decode cX3_takeSeries 4 = .ok (.iconst 1, 1) := by decide +kernel
theorem dX3_takeSeries_5 : decode cX3_takeSeries 5 = .ok (.if_icmp .lt 10, 3) := by decide +kernel
theorem dX3_takeSeries_8 : decode cX3_takeSeries 8 = .ok (.aload_n 2, 1) := by decide +kernel
theorem dX3_takeSeries_9 : decode cX3_takeSeries 9 = .ok (.invokevirtual 108, 3) := by decide +kernel
theorem dX3_takeSeries_12 : decode cX3_takeSeries 12 = .ok (.ifCond .ne 5, 3) := by decide +kernel
theorem dX3_takeSeries_15 : decode cX3_takeSeries 15 = .ok (.iconst 0, 1) := by decide +kernel
theorem dX3_takeSeries_16 : decode cX3_takeSeries 16 = .ok (.ireturn, 1) := by decide +kernel
theorem dX3_takeSeries_17 : decode cX3_takeSeries 17 = .ok (.aload_n 0, 1) := by decide +kernel
theorem dX3_takeSeries_18 : decode cX3_takeSeries 18 = .ok (.getfield 11, 3) := by decide +kernel
theorem dX3_takeSeries_21 : decode cX3_takeSeries 21 = .ok (.aload_n 0, 1) := by decide +kernel
theorem dX3_takeSeries_22 : decode cX3_takeSeries 22 = .ok (.getfield 25, 3) := by decide +kernel
theorem dX3_takeSeries_25 : decode cX3_takeSeries 25 = .ok (.iconst 1, 1) := by decide +kernel
theorem dX3_takeSeries_26 : decode cX3_takeSeries 26 = .ok (.isub, 1) := by decide +kernel
theorem dX3_takeSeries_27 : decode cX3_takeSeries 27 = .ok (.aaload, 1) := by decide +kernel
theorem dX3_takeSeries_28 : decode cX3_takeSeries 28 = .ok (.astore_n 3, 1) := by decide +kernel
theorem dX3_takeSeries_29 : decode cX3_takeSeries 29 = .ok (.aload_n 2, 1) := by decide +kernel
theorem dX3_takeSeries_30 : decode cX3_takeSeries 30 = .ok (.getfield 111, 3) := by decide +kernel
theorem dX3_takeSeries_33 : decode cX3_takeSeries 33 = .ok (.aload_n 3, 1) := by decide +kernel
theorem dX3_takeSeries_34 : decode cX3_takeSeries 34 = .ok (.iload_n 1, 1) := by decide +kernel
theorem dX3_takeSeries_35 : decode cX3_takeSeries 35 = .ok (.invokevirtual 114, 3) := by decide +kernel
theorem dX3_takeSeries_38 : decode cX3_takeSeries 38 = .ok (.if_icmp .eq 5, 3) := by decide +kernel
theorem dX3_takeSeries_41 : decode cX3_takeSeries 41 = .ok (.iconst 0, 1) := by decide +kernel
theorem dX3_takeSeries_42 : decode cX3_takeSeries 42 = .ok (.ireturn, 1) := by decide +kernel
theorem dX3_takeSeries_43 : decode cX3_takeSeries 43 = .ok (.aload_n 2, 1) := by decide +kernel
theorem dX3_takeSeries_44 : decode cX3_takeSeries 44 = .ok (.getfield 90, 3) := by decide +kernel
theorem dX3_takeSeries_47 : decode cX3_takeSeries 47 = .ok (.iconst 0, 1) := by decide +kernel
theorem dX3_takeSeries_48 : decode cX3_takeSeries 48 = .ok (.aload_n 3, 1) := by decide +kernel
theorem dX3_takeSeries_49 : decode cX3_takeSeries 49 = .ok (.getfield 117, 3) := by decide +kernel
theorem dX3_takeSeries_52 : decode cX3_takeSeries 52 = .ok (.iload_n 1, 1) := by decide +kernel
theorem dX3_takeSeries_53 : decode cX3_takeSeries 53 = .ok (.aaload, 1) := by decide +kernel
theorem dX3_takeSeries_54 : decode cX3_takeSeries 54 = .ok (.iconst 0, 1) := by decide +kernel
theorem dX3_takeSeries_55 : decode cX3_takeSeries 55 = .ok (.aload_n 2, 1) := by decide +kernel
theorem dX3_takeSeries_56 : decode cX3_takeSeries 56 = .ok (.getfield 111, 3) := by decide +kernel
theorem dX3_takeSeries_59 : decode cX3_takeSeries 59 = .ok (.invokestatic 121, 3) := by decide +kernel
theorem dX3_takeSeries_62 : decode cX3_takeSeries 62 = .ok (.iconst 1, 1) := by decide +kernel
theorem dX3_takeSeries_63 : decode cX3_takeSeries 63 = .ok (.ireturn, 1) := by decide +kernel
theorem dX3_takeLine_0 : decode cX3_takeLine 0 = .ok (.aload_n 0, 1) := by decide +kernel
theorem dX3_takeLine_1 : decode cX3_takeLine 1 = .ok (.getfield 25, 3) := by decide +kernel
theorem dX3_takeLine_4 : decode cX3_takeLine 4 = .ok (.iconst 1, 1) := by decide +kernel
theorem dX3_takeLine_5 : decode cX3_takeLine 5 = .ok (.if_icmp .lt 10, 3) := by decide +kernel
theorem dX3_takeLine_8 : decode cX3_takeLine 8 = .ok (.aload_n 2, 1) := by decide +kernel
theorem dX3_takeLine_9 : decode cX3_takeLine 9 = .ok (.invokevirtual 108, 3) := by decide +kernel
theorem dX3_takeLine_12 : decode cX3_takeLine 12 = .ok (.ifCond .ne 5, 3) := by decide +kernel
theorem dX3_takeLine_15 : decode cX3_takeLine 15 = .ok (.iconst 0, 1) := by decide +kernel
theorem dX3_takeLine_16 : decode cX3_takeLine 16 = .ok (.ireturn, 1) := by decide +kernel
theorem dX3_takeLine_17 : decode cX3_takeLine 17 = .ok (.aload_n 0, 1) := by decide +kernel
theorem dX3_takeLine_18 : decode cX3_takeLine 18 = .ok (.aload_n 0, 1) := by decide +kernel
theorem dX3_takeLine_19 : decode cX3_takeLine 19 = .ok (.getfield 25, 3) := by decide +kernel
theorem dX3_takeLine_22 : decode cX3_takeLine 22 = .ok (.iconst 1, 1) := by decide +kernel
theorem dX3_takeLine_23 : decode cX3_takeLine 23 = .ok (.isub, 1) := by decide +kernel
theorem dX3_takeLine_24 : decode cX3_takeLine 24 = .ok (.iload_n 1, 1) := by decide +kernel
theorem dX3_takeLine_25 : decode cX3_takeLine 25 = .ok (.invokevirtual 127, 3) := by decide +kernel
theorem dX3_takeLine_28 : decode cX3_takeLine 28 = .ok (.istore_n 3, 1) := by decide +kernel
theorem dX3_takeLine_29 : decode cX3_takeLine 29 = .ok (.iload_n 3, 1) := by decide +kernel
theorem dX3_takeLine_30 : decode cX3_takeLine 30 = .ok (.iconst (-1), 1) := by decide +kernel
theorem dX3_takeLine_31 : decode cX3_takeLine 31 = .ok (.if_icmp .ne 5, 3) := by decide +kernel
theorem dX3_takeLine_34 : decode cX3_takeLine 34 = .ok (.iconst 0, 1) := by decide +kernel
theorem dX3_takeLine_35 : decode cX3_takeLine 35 = .ok (.ireturn, 1) := by decide +kernel
theorem dX3_takeLine_36 : decode cX3_takeLine 36 = .ok (.iconst 0, 1) := by decide +kernel
theorem dX3_takeLine_37 : decode cX3_takeLine 37 = .ok (.istore 4, 2) := by decide +kernel
theorem dX3_takeLine_39 : decode cX3_takeLine 39 = .ok (.iload 4, 2) := by decide +kernel
theorem dX3_takeLine_41 : decode cX3_takeLine 41 = .ok (.aload_n 2, 1) := by decide +kernel
theorem dX3_takeLine_42 : decode cX3_takeLine 42 = .ok (.getfield 111, 3) := by decide +kernel
theorem dX3_takeLine_45 : decode cX3_takeLine 45 = .ok (.if_icmp .ge 25, 3) := by decide +kernel
theorem dX3_takeLine_48 : decode cX3_takeLine 48 = .ok (.aload_n 0, 1) := by decide +kernel
theorem dX3_takeLine_49 : decode cX3_takeLine 49 = .ok (.getfield 19, 3) := by decide +kernel
theorem dX3_takeLine_52 : decode cX3_takeLine 52 = .ok (.iload_n 3, 1) := by decide +kernel
theorem dX3_takeLine_53 : decode cX3_takeLine 53 = .ok (.aaload, 1) := by decide +kernel
theorem dX3_takeLine_54 : decode cX3_takeLine 54 = .ok (.aload_n 2, 1) := by decide +kernel
theorem dX3_takeLine_55 : decode cX3_takeLine 55 = .ok (.getfield 90, 3) := by decide +kernel
theorem dX3_takeLine_58 : decode cX3_takeLine 58 = .ok (.iload 4, 2) := by decide +kernel
theorem dX3_takeLine_60 : decode cX3_takeLine 60 = .ok (.iaload, 1) := by decide +kernel
theorem dX3_takeLine_61 : decode cX3_takeLine 61 = .ok (.invokevirtual 130, 3) := by decide +kernel
theorem dX3_takeLine_64 : decode cX3_takeLine 64 = .ok (.iinc 4 1, 3) := by decide +kernel
theorem dX3_takeLine_67 : decode cX3_takeLine 67 = .ok (.goto (-28), 3) := by decide +kernel
theorem dX3_takeLine_70 : decode cX3_takeLine 70 = .ok (.iconst 1, 1) := by decide +kernel
theorem dX3_takeLine_71 : decode cX3_takeLine 71 = .ok (.ireturn, 1) := by decide +kernel
