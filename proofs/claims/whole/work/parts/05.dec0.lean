theorem dX0_init_0 : decode cX0_init 0 = .ok (.aload_n 0, 1) := by decide +kernel
theorem dX0_init_1 : decode cX0_init 1 = .ok (.invokespecial 3, 3) := by decide +kernel
theorem dX0_init_4 : decode cX0_init 4 = .ok (.aload_n 0, 1) := by decide +kernel
theorem dX0_init_5 : decode cX0_init 5 = .ok (.iconst 3, 1) := by decide +kernel
theorem dX0_init_6 : decode cX0_init 6 = .ok (.bipush 31, 2) := by decide +kernel
theorem dX0_init_8 : decode cX0_init 8 = .ok (.multianewarray 9 2, 4) := by decide +kernel
theorem dX0_init_12 : decode cX0_init 12 = .ok (.putfield 11, 3) := by decide +kernel
theorem dX0_init_15 : decode cX0_init 15 = .ok (.return_, 1) := by decide +kernel
theorem dX0_copyFrom_0 : decode cX0_copyFrom 0 = .ok (.aload_n 0, 1) := by decide +kernel
theorem dX0_copyFrom_1 : decode cX0_copyFrom 1 = .ok (.aload_n 1, 1) := by decide +kernel
theorem dX0_copyFrom_2 : decode cX0_copyFrom 2 = .ok (.getfield 16, 3) := by decide +kernel
theorem dX0_copyFrom_5 : decode cX0_copyFrom 5 = .ok (.putfield 16, 3) := by decide +kernel
theorem dX0_copyFrom_8 : decode cX0_copyFrom 8 = .ok (.aload_n 0, 1) := by decide +kernel
theorem dX0_copyFrom_9 : decode cX0_copyFrom 9 = .ok (.aload_n 1, 1) := by decide +kernel
theorem dX0_copyFrom_10 : decode cX0_copyFrom 10 = .ok (.getfield 20, 3) := by decide +kernel
theorem dX0_copyFrom_13 : decode cX0_copyFrom 13 = .ok (.putfield 20, 3) := by decide +kernel
theorem dX0_copyFrom_16 : decode cX0_copyFrom 16 = .ok (.iconst 0, 1) := by decide +kernel
theorem dX0_copyFrom_17 : decode cX0_copyFrom 17 = .ok (.istore_n 2, 1) := by decide +kernel
theorem dX0_copyFrom_18 : decode cX0_copyFrom 18 = .ok (.iload_n 2, 1) := by decide +kernel
theorem dX0_copyFrom_19 : decode cX0_copyFrom 19 = .ok (.iconst 3, 1) := by decide +kernel
theorem dX0_copyFrom_20 : decode cX0_copyFrom 20 = .ok (.if_icmp .ge 31, 3) := by decide +kernel
theorem dX0_copyFrom_23 : decode cX0_copyFrom 23 = .ok (.aload_n 1, 1) := by decide +kernel
theorem dX0_copyFrom_24 : decode cX0_copyFrom 24 = .ok (.getfield 11, 3) := by decide +kernel
theorem dX0_copyFrom_27 : decode cX0_copyFrom 27 = .ok (.iload_n 2, 1) := by decide +kernel
theorem dX0_copyFrom_28 : decode cX0_copyFrom 28 = .ok (.aaload, 1) := by decide +kernel
theorem dX0_copyFrom_29 : decode cX0_copyFrom 29 = .ok (.iconst 0, 1) := by decide +kernel
theorem dX0_copyFrom_30 : decode cX0_copyFrom 30 = .ok (.aload_n 0, 1) := by decide +kernel
theorem dX0_copyFrom_31 : decode cX0_copyFrom 31 = .ok (.getfield 11, 3) := by decide +kernel
theorem dX0_copyFrom_34 : decode cX0_copyFrom 34 = .ok (.iload_n 2, 1) := by decide +kernel
theorem dX0_copyFrom_35 : decode cX0_copyFrom 35 = .ok (.aaload, 1) := by decide +kernel
theorem dX0_copyFrom_36 : decode cX0_copyFrom 36 = .ok (.iconst 0, 1) := by decide +kernel
theorem dX0_copyFrom_37 : decode cX0_copyFrom 37 = .ok (.aload_n 0, 1) := by decide +kernel
theorem dX0_copyFrom_38 : decode cX0_copyFrom 38 = .ok (.iload_n 2, 1) := by decide +kernel
theorem dX0_copyFrom_39 : decode cX0_copyFrom 39 = .ok (.invokevirtual 23, 3) := by decide +kernel
theorem dX0_copyFrom_42 : decode cX0_copyFrom 42 = .ok (.invokestatic 27, 3) := by decide +kernel
theorem dX0_copyFrom_45 : decode cX0_copyFrom 45 = .ok (.iinc 2 1, 3) := by decide +kernel
theorem dX0_copyFrom_48 : decode cX0_copyFrom 48 = .ok (.goto (-30), 3) := by decide +kernel
theorem dX0_copyFrom_51 : decode cX0_copyFrom 51 = .ok (.return_, 1) := by decide +kernel
theorem dX0_reset_0 : decode cX0_reset 0 = .ok (.aload_n 0, 1) := by decide +kernel
theorem dX0_reset_1 : decode cX0_reset 1 = .ok (.iload_n 1, 1) := by decide +kernel
theorem dX0_reset_2 : decode cX0_reset 2 = .ok (.putfield 16, 3) := by decide +kernel
theorem dX0_reset_5 : decode cX0_reset 5 = .ok (.aload_n 0, 1) := by decide +kernel
theorem dX0_reset_6 : decode cX0_reset 6 = .ok (.iload_n 2, 1) := by decide +kernel
theorem dX0_reset_7 : decode cX0_reset 7 = .ok (.putfield 20, 3) := by decide +kernel
theorem dX0_reset_10 : decode cX0_reset 10 = .ok (.iconst 0, 1) := by decide +kernel
theorem dX0_reset_11 : decode cX0_reset 11 = .ok (.istore_n 3, 1) := by decide +kernel
theorem dX0_reset_12 : decode cX0_reset 12 = .ok (.iload_n 3, 1) := by decide +kernel
theorem dX0_reset_13 : decode cX0_reset 13 = .ok (.iconst 3, 1) := by decide +kernel
theorem dX0_reset_14 : decode cX0_reset 14 = .ok (.if_icmp .ge 35, 3) := by decide +kernel
theorem dX0_reset_17 : decode cX0_reset 17 = .ok (.iconst 0, 1) := by decide +kernel
theorem dX0_reset_18 : decode cX0_reset 18 = .ok (.istore 4, 2) := by decide +kernel
theorem dX0_reset_20 : decode cX0_reset 20 = .ok (.iload 4, 2) := by decide +kernel
theorem dX0_reset_22 : decode cX0_reset 22 = .ok (.bipush 30, 2) := by decide +kernel
theorem dX0_reset_24 : decode cX0_reset 24 = .ok (.if_icmp .gt 19, 3) := by decide +kernel
theorem dX0_reset_27 : decode cX0_reset 27 = .ok (.aload_n 0, 1) := by decide +kernel
theorem dX0_reset_28 : decode cX0_reset 28 = .ok (.getfield 11, 3) := by decide +kernel
theorem dX0_reset_31 : decode cX0_reset 31 = .ok (.iload_n 3, 1) := by decide +kernel
theorem dX0_reset_32 : decode cX0_reset 32 = .ok (.aaload, 1) := by decide +kernel
theorem dX0_reset_33 : decode cX0_reset 33 = .ok (.iload 4, 2) := by decide +kernel
theorem dX0_reset_35 : decode cX0_reset 35 = .ok (.iconst 0, 1) := by decide +kernel
theorem dX0_reset_36 : decode cX0_reset 36 = .ok (.iastore, 1) := by decide +kernel
theorem dX0_reset_37 : decode cX0_reset 37 = .ok (.iinc 4 1, 3) := by decide +kernel
theorem dX0_reset_40 : decode cX0_reset 40 = .ok (.goto (-20), 3) := by decide +kernel
theorem dX0_reset_43 : decode cX0_reset 43 = .ok (.iinc 3 1, 3) := by decide +kernel
theorem dX0_reset_46 : decode cX0_reset 46 = .ok (.goto (-34), 3) := by decide +kernel
theorem dX0_reset_49 : decode cX0_reset 49 = .ok (.return_, 1) := by decide +kernel
theorem dX0_sizeOf_0 : decode cX0_sizeOf 0 = .ok (.iload_n 1, 1) := by decide +kernel
theorem dX0_sizeOf_1 : decode cX0_sizeOf 1 = .ok (.iconst 2, 1) := by decide +kernel
theorem dX0_sizeOf_2 : decode cX0_sizeOf 2 = .ok (.if_icmp .ne 10, 3) := by decide +kernel
theorem dX0_sizeOf_5 : decode cX0_sizeOf 5 = .ok (.aload_n 0, 1) := by decide +kernel
theorem dX0_sizeOf_6 : decode cX0_sizeOf 6 = .ok (.getfield 16, 3) := by decide +kernel
theorem dX0_sizeOf_9 : decode cX0_sizeOf 9 = .ok (.goto 9, 3) := by decide +kernel
theorem dX0_sizeOf_12 : decode cX0_sizeOf 12 = .ok (.aload_n 0, 1) := by decide +kernel
theorem dX0_sizeOf_13 : decode cX0_sizeOf 13 = .ok (.getfield 16, 3) := by decide +kernel
theorem dX0_sizeOf_16 : decode cX0_sizeOf 16 = .ok (.iconst 1, 1) := by decide +kernel
theorem dX0_sizeOf_17 : decode cX0_sizeOf 17 = .ok (.iadd, 1) := by decide +kernel
theorem dX0_sizeOf_18 : decode cX0_sizeOf 18 = .ok (.ireturn, 1) := by decide +kernel
theorem dX0_closingError_0 : decode cX0_closingError 0 = .ok (.aload_n 0, 1) := by decide +kernel
theorem dX0_closingError_1 : decode cX0_closingError 1 = .ok (.getfield 11, 3) := by decide +kernel
theorem dX0_closingError_4 : decode cX0_closingError 4 = .ok (.iload_n 1, 1) := by decide +kernel
theorem dX0_closingError_5 : decode cX0_closingError 5 = .ok (.aaload, 1) := by decide +kernel
theorem dX0_closingError_6 : decode cX0_closingError 6 = .ok (.aload_n 0, 1) := by decide +kernel
theorem dX0_closingError_7 : decode cX0_closingError 7 = .ok (.getfield 16, 3) := by decide +kernel
theorem dX0_closingError_10 : decode cX0_closingError 10 = .ok (.iaload, 1) := by decide +kernel
theorem dX0_closingError_11 : decode cX0_closingError 11 = .ok (.aload_n 0, 1) := by decide +kernel
theorem dX0_closingError_12 : decode cX0_closingError 12 = .ok (.getfield 11, 3) := by decide +kernel
theorem dX0_closingError_15 : decode cX0_closingError 15 = .ok (.iload_n 1, 1) := by decide +kernel
theorem dX0_closingError_16 : decode cX0_closingError 16 = .ok (.aaload, 1) := by decide +kernel
theorem dX0_closingError_17 : decode cX0_closingError 17 = .ok (.iconst 0, 1) := by decide +kernel
theorem dX0_closingError_18 : decode cX0_closingError 18 = .ok (.iaload, 1) := by decide +kernel
theorem dX0_closingError_19 : decode cX0_closingError 19 = .ok (.isub, 1) := by decide +kernel
theorem dX0_closingError_20 : decode cX0_closingError 20 = .ok (.ireturn, 1) := by decide +kernel
theorem dX0_scatter_0 : decode cX0_scatter 0 = .ok (.iload_n 1, 1) := by decide +kernel
theorem dX0_scatter_1 : decode cX0_scatter 1 = .ok (.i2l, 1) := by decide +kernel
theorem dX0_scatter_2 : decode cX0_scatter 2 = .ok (.lstore_n 3, 1) := by decide +kernel
theorem dX0_scatter_3 : decode cX0_scatter 3 = .ok (.iconst 0, 1) := by decide +kernel
theorem dX0_scatter_4 : decode cX0_scatter 4 = .ok (.istore 5, 2) := by decide +kernel
theorem dX0_scatter_6 : decode cX0_scatter 6 = .ok (.iload 5, 2) := by decide +kernel
theorem dX0_scatter_8 : decode cX0_scatter 8 = .ok (.iconst 3, 1) := by decide +kernel
theorem dX0_scatter_9 : decode cX0_scatter 9 = .ok (.if_icmp .ge 70, 3) := by decide +kernel
theorem dX0_scatter_12 : decode cX0_scatter 12 = .ok (.iconst 0, 1) := by decide +kernel
theorem dX0_scatter_13 : decode cX0_scatter 13 = .ok (.istore 6, 2) := by decide +kernel
theorem dX0_scatter_15 : decode cX0_scatter 15 = .ok (.iload 6, 2) := by decide +kernel
theorem dX0_scatter_17 : decode cX0_scatter 17 = .ok (.aload_n 0, 1) := by decide +kernel
theorem dX0_scatter_18 : decode cX0_scatter 18 = .ok (.iload 5, 2) := by decide +kernel
theorem dX0_scatter_20 : decode cX0_scatter 20 = .ok (.invokevirtual 23, 3) := by decide +kernel
theorem dX0_scatter_23 : decode cX0_scatter 23 = .ok (.if_icmp .ge 50, 3) := by decide +kernel
theorem dX0_scatter_26 : decode cX0_scatter 26 = .ok (.ldc2_w 33, 3) := by decide +kernel
theorem dX0_scatter_29 : decode cX0_scatter 29 = .ok (.lload_n 3, 1) := by decide +kernel
theorem dX0_scatter_30 : decode cX0_scatter 30 = .ok (.lmul, 1) := by decide +kernel
theorem dX0_scatter_31 : decode cX0_scatter 31 = .ok (.ldc2_w 35, 3) := by decide +kernel
theorem dX0_scatter_34 : decode cX0_scatter 34 = .ok (.ladd, 1) := by decide +kernel
theorem dX0_scatter_35 : decode cX0_scatter 35 = .ok (.ldc2_w 37, 3) := by decide +kernel
theorem dX0_scatter_38 : decode cX0_scatter 38 = .ok (.lrem, 1) := by decide +kernel
theorem dX0_scatter_39 : decode cX0_scatter 39 = .ok (.lstore_n 3, 1) := by decide +kernel
theorem dX0_scatter_40 : decode cX0_scatter 40 = .ok (.aload_n 0, 1) := by decide +kernel
theorem dX0_scatter_41 : decode cX0_scatter 41 = .ok (.getfield 11, 3) := by decide +kernel
theorem dX0_scatter_44 : decode cX0_scatter 44 = .ok (.iload 5, 2) := by decide +kernel
theorem dX0_scatter_46 : decode cX0_scatter 46 = .ok (.aaload, 1) := by decide +kernel
theorem dX0_scatter_47 : decode cX0_scatter 47 = .ok (.iload 6, 2) := by decide +kernel
theorem dX0_scatter_49 : decode cX0_scatter 49 = .ok (.lload_n 3, 1) := by decide +kernel
theorem dX0_scatter_50 : decode cX0_scatter 50 = .ok (.ldc2_w 39, 3) := by decide +kernel
theorem dX0_scatter_53 : decode cX0_scatter 53 = .ok (.ldiv, 1) := by decide +kernel
theorem dX0_scatter_54 : decode cX0_scatter 54 = .ok (.ldc2_w 41, 3) := by decide +kernel
theorem dX0_scatter_57 : decode cX0_scatter 57 = .ok (.iload_n 2, 1) := by decide +kernel
theorem dX0_scatter_58 : decode cX0_scatter 58 = .ok (.i2l, 1) := by decide +kernel
theorem dX0_scatter_59 : decode cX0_scatter 59 = .ok (.lmul, 1) := by decide +kernel
theorem dX0_scatter_60 : decode cX0_scatter 60 = .ok (.lconst 1, 1) := by decide +kernel
theorem dX0_scatter_61 : decode cX0_scatter 61 = .ok (.ladd, 1) := by decide +kernel
theorem dX0_scatter_62 : decode cX0_scatter 62 = .ok (.lrem, 1) := by decide +kernel
theorem dX0_scatter_63 : decode cX0_scatter 63 = .ok (.l2i, 1) := by decide +kernel
theorem dX0_scatter_64 : decode cX0_scatter 64 = .ok (.iload_n 2, 1) := by decide +kernel
theorem dX0_scatter_65 : decode cX0_scatter 65 = .ok (.isub, 1) := by decide +kernel
theorem dX0_scatter_66 : decode cX0_scatter 66 = .ok (.iastore, 1) := by decide +kernel
theorem dX0_scatter_67 : decode cX0_scatter 67 = .ok (.iinc 6 1, 3) := by decide +kernel
theorem dX0_scatter_70 : decode cX0_scatter 70 = .ok (.goto (-55), 3) := by decide +kernel
theorem dX0_scatter_73 : decode cX0_scatter 73 = .ok (.iinc 5 1, 3) := by decide +kernel
theorem dX0_scatter_76 : decode cX0_scatter 76 = .ok (.goto (-70), 3) := by decide +kernel
theorem dX0_scatter_79 : decode cX0_scatter 79 = .ok (.return_, 1) := by decide +kernel
theorem dX0_becomeTurned_0 : decode cX0_becomeTurned 0 = .ok (.aload_n 0, 1) := by decide +kernel
theorem dX0_becomeTurned_1 : decode cX0_becomeTurned 1 = .ok (.aload_n 1, 1) := by decide +kernel
theorem dX0_becomeTurned_2 : decode cX0_becomeTurned 2 = .ok (.getfield 16, 3) := by decide +kernel
theorem dX0_becomeTurned_5 : decode cX0_becomeTurned 5 = .ok (.putfield 16, 3) := by decide +kernel
theorem dX0_becomeTurned_8 : decode cX0_becomeTurned 8 = .ok (.aload_n 0, 1) := by decide +kernel
theorem dX0_becomeTurned_9 : decode cX0_becomeTurned 9 = .ok (.aload_n 1, 1) := by decide +kernel
theorem dX0_becomeTurned_10 : decode cX0_becomeTurned 10 = .ok (.getfield 20, 3) := by decide +kernel
theorem dX0_becomeTurned_13 : decode cX0_becomeTurned 13 = .ok (.putfield 20, 3) := by decide +kernel
theorem dX0_becomeTurned_16 : decode cX0_becomeTurned 16 = .ok (.iconst 0, 1) := by decide +kernel
theorem dX0_becomeTurned_17 : decode cX0_becomeTurned 17 = .ok (.istore_n 3, 1) := by decide +kernel
theorem dX0_becomeTurned_18 : decode cX0_becomeTurned 18 = .ok (.iload_n 3, 1) := by decide +kernel
theorem dX0_becomeTurned_19 : decode cX0_becomeTurned 19 = .ok (.iconst 3, 1) := by decide +kernel
theorem dX0_becomeTurned_20 : decode cX0_becomeTurned 20 = .ok (.if_icmp .ge 115, 3) := by decide +kernel
theorem dX0_becomeTurned_23 : decode cX0_becomeTurned 23 = .ok (.iload_n 3, 1) := by decide +kernel
theorem dX0_becomeTurned_24 : decode cX0_becomeTurned 24 = .ok (.iconst 2, 1) := by decide +kernel
theorem dX0_becomeTurned_25 : decode cX0_becomeTurned 25 = .ok (.if_icmp .ne 7, 3) := by decide +kernel
theorem dX0_becomeTurned_28 : decode cX0_becomeTurned 28 = .ok (.iconst 0, 1) := by decide +kernel
theorem dX0_becomeTurned_29 : decode cX0_becomeTurned 29 = .ok (.goto 8, 3) := by decide +kernel
theorem dX0_becomeTurned_32 : decode cX0_becomeTurned 32 = .ok (.aload_n 1, 1) := by decide +kernel
theorem dX0_becomeTurned_33 : decode cX0_becomeTurned 33 = .ok (.iload_n 3, 1) := by decide +kernel
theorem dX0_becomeTurned_34 : decode cX0_becomeTurned 34 = .ok (.invokevirtual 43, 3) := by decide +kernel
theorem dX0_becomeTurned_37 : decode cX0_becomeTurned 37 = .ok (.istore 4, 2) := by decide +kernel
theorem dX0_becomeTurned_39 : decode cX0_becomeTurned 39 = .ok (.iconst 0, 1) := by decide +kernel
theorem dX0_becomeTurned_40 : decode cX0_becomeTurned 40 = .ok (.istore 5, 2) := by decide +kernel
theorem dX0_becomeTurned_42 : decode cX0_becomeTurned 42 = .ok (.iload 5, 2) := by decide +kernel
theorem dX0_becomeTurned_44 : decode cX0_becomeTurned 44 = .ok (.aload_n 0, 1) := by decide +kernel
theorem dX0_becomeTurned_45 : decode cX0_becomeTurned 45 = .ok (.iload_n 3, 1) := by decide +kernel
theorem dX0_becomeTurned_46 : decode cX0_becomeTurned 46 = .ok (.invokevirtual 23, 3) := by decide +kernel
theorem dX0_becomeTurned_49 : decode cX0_becomeTurned 49 = .ok (.if_icmp .ge 80, 3) := by decide +kernel
theorem dX0_becomeTurned_52 : decode cX0_becomeTurned 52 = .ok (.iload_n 2, 1) := by decide +kernel
theorem dX0_becomeTurned_53 : decode cX0_becomeTurned 53 = .ok (.iload 5, 2) := by decide +kernel
theorem dX0_becomeTurned_55 : decode cX0_becomeTurned 55 = .ok (.iadd, 1) := by decide +kernel
theorem dX0_becomeTurned_56 : decode cX0_becomeTurned 56 = .ok (.aload_n 0, 1) := by decide +kernel
theorem dX0_becomeTurned_57 : decode cX0_becomeTurned 57 = .ok (.getfield 16, 3) := by decide +kernel
theorem dX0_becomeTurned_60 : decode cX0_becomeTurned 60 = .ok (.if_icmp .lt 7, 3) := by decide +kernel
theorem dX0_becomeTurned_63 : decode cX0_becomeTurned 63 = .ok (.iconst 1, 1) := by decide +kernel
theorem dX0_becomeTurned_64 : decode cX0_becomeTurned 64 = .ok (.goto 4, 3) := by decide +kernel
theorem dX0_becomeTurned_67 : decode cX0_becomeTurned 67 = .ok (.iconst 0, 1) := by decide +kernel
theorem dX0_becomeTurned_68 : decode cX0_becomeTurned 68 = .ok (.istore 6, 2) := by decide +kernel
theorem dX0_becomeTurned_70 : decode cX0_becomeTurned 70 = .ok (.iload 6, 2) := by decide +kernel
theorem dX0_becomeTurned_72 : decode cX0_becomeTurned 72 = .ok (.ifCond .eq 15, 3) := by decide +kernel
theorem dX0_becomeTurned_75 : decode cX0_becomeTurned 75 = .ok (.iload_n 2, 1) := by decide +kernel
theorem dX0_becomeTurned_76 : decode cX0_becomeTurned 76 = .ok (.iload 5, 2) := by decide +kernel
theorem dX0_becomeTurned_78 : decode cX0_becomeTurned 78 = .ok (.iadd, 1) := by decide +kernel
theorem dX0_becomeTurned_79 : decode cX0_becomeTurned 79 = .ok (.aload_n 0, 1) := by decide +kernel
theorem dX0_becomeTurned_80 : decode cX0_becomeTurned 80 = .ok (.getfield 16, 3) := by decide +kernel
theorem dX0_becomeTurned_83 : decode cX0_becomeTurned 83 = .ok (.isub, 1) := by decide +kernel
theorem dX0_becomeTurned_84 : decode cX0_becomeTurned 84 = .ok (.goto 7, 3) := by decide +kernel
theorem dX0_becomeTurned_87 : decode cX0_becomeTurned 87 = .ok (.iload_n 2, 1) := by decide +kernel
theorem dX0_becomeTurned_88 : decode cX0_becomeTurned 88 = .ok (.iload 5, 2) := by decide +kernel
theorem dX0_becomeTurned_90 : decode cX0_becomeTurned 90 = .ok (.iadd, 1) := by decide +kernel
theorem dX0_becomeTurned_91 : decode cX0_becomeTurned 91 = .ok (.istore 7, 2) := by decide +kernel
theorem dX0_becomeTurned_93 : decode cX0_becomeTurned 93 = .ok (.aload_n 0, 1) := by decide +kernel
theorem dX0_becomeTurned_94 : decode cX0_becomeTurned 94 = .ok (.getfield 11, 3) := by decide +kernel
theorem dX0_becomeTurned_97 : decode cX0_becomeTurned 97 = .ok (.iload_n 3, 1) := by decide +kernel
theorem dX0_becomeTurned_98 : decode cX0_becomeTurned 98 = .ok (.aaload, 1) := by decide +kernel
theorem dX0_becomeTurned_99 : decode cX0_becomeTurned 99 = .ok (.iload 5, 2) := by decide +kernel
theorem dX0_becomeTurned_101 : decode cX0_becomeTurned 101 = .ok (.aload_n 1, 1) := by decide +kernel
theorem dX0_becomeTurned_102 : decode cX0_becomeTurned 102 = .ok (.getfield 11, 3) := by decide +kernel
theorem dX0_becomeTurned_105 : decode cX0_becomeTurned 105 = .ok (.iload_n 3, 1) := by decide +kernel
theorem dX0_becomeTurned_106 : decode cX0_becomeTurned 106 = .ok (.aaload, 1) := by decide +kernel
theorem dX0_becomeTurned_107 : decode cX0_becomeTurned 107 = .ok (.iload 7, 2) := by decide +kernel
theorem dX0_becomeTurned_109 : decode cX0_becomeTurned 109 = .ok (.iaload, 1) := by decide +kernel
theorem dX0_becomeTurned_110 : decode cX0_becomeTurned 110 = .ok (.iload 6, 2) := by decide +kernel
theorem dX0_becomeTurned_112 : decode cX0_becomeTurned 112 = .ok (.ifCond .eq 8, 3) := by decide +kernel
theorem dX0_becomeTurned_115 : decode cX0_becomeTurned 115 = .ok (.iload 4, 2) := by decide +kernel
theorem dX0_becomeTurned_117 : decode cX0_becomeTurned 117 = .ok (.goto 4, 3) := by decide +kernel
theorem dX0_becomeTurned_120 : decode cX0_becomeTurned 120 = .ok (.iconst 0, 1) := by decide +kernel
theorem dX0_becomeTurned_121 : decode cX0_becomeTurned 121 = .ok (.iadd, 1) := by decide +kernel
theorem dX0_becomeTurned_122 : decode cX0_becomeTurned 122 = .ok (.iastore, 1) := by decide +kernel
theorem dX0_becomeTurned_123 : decode cX0_becomeTurned 123 = .ok (.iinc 5 1, 3) := by decide +kernel
theorem dX0_becomeTurned_126 : decode cX0_becomeTurned 126 = .ok (.goto (-84), 3) := by decide +kernel
theorem dX0_becomeTurned_129 : decode cX0_becomeTurned 129 = .ok (.iinc 3 1, 3) := by decide +kernel
theorem dX0_becomeTurned_132 : decode cX0_becomeTurned 132 = .ok (.goto (-114), 3) := by decide +kernel
theorem dX0_becomeTurned_135 : decode cX0_becomeTurned 135 = .ok (.return_, 1) := by decide +kernel
theorem dX0_isInRange_0 : decode cX0_isInRange 0 = .ok (.iconst 0, 1) := by decide +kernel
theorem dX0_isInRange_1 : decode cX0_isInRange 1 = .ok (.istore_n 1, 1) := by decide +kernel
theorem dX0_isInRange_2 : decode cX0_isInRange 2 = .ok (.iload_n 1, 1) := by decide +kernel
theorem dX0_isInRange_3 : decode cX0_isInRange 3 = .ok (.iconst 3, 1) := by decide +kernel
theorem dX0_isInRange_4 : decode cX0_isInRange 4 = .ok (.if_icmp .ge 42, 3) := by decide +kernel
theorem dX0_isInRange_7 : decode cX0_isInRange 7 = .ok (.iconst 0, 1) := by decide +kernel
theorem dX0_isInRange_8 : decode cX0_isInRange 8 = .ok (.istore_n 2, 1) := by decide +kernel
theorem dX0_isInRange_9 : decode cX0_isInRange 9 = .ok (.iload_n 2, 1) := by decide +kernel
theorem dX0_isInRange_10 : decode cX0_isInRange 10 = .ok (.aload_n 0, 1) := by decide +kernel
theorem dX0_isInRange_11 : decode cX0_isInRange 11 = .ok (.iload_n 1, 1) := by decide +kernel
theorem dX0_isInRange_12 : decode cX0_isInRange 12 = .ok (.invokevirtual 23, 3) := by decide +kernel
theorem dX0_isInRange_15 : decode cX0_isInRange 15 = .ok (.if_icmp .ge 25, 3) := by decide +kernel
theorem dX0_isInRange_18 : decode cX0_isInRange 18 = .ok (.aload_n 0, 1) := by decide +kernel
theorem dX0_isInRange_19 : decode cX0_isInRange 19 = .ok (.getfield 11, 3) := by decide +kernel
theorem dX0_isInRange_22 : decode cX0_isInRange 22 = .ok (.iload_n 1, 1) := by decide +kernel
theorem dX0_isInRange_23 : decode cX0_isInRange 23 = .ok (.aaload, 1) := by decide +kernel
theorem dX0_isInRange_24 : decode cX0_isInRange 24 = .ok (.iload_n 2, 1) := by decide +kernel
theorem dX0_isInRange_25 : decode cX0_isInRange 25 = .ok (.iaload, 1) := by decide +kernel
theorem dX0_isInRange_26 : decode cX0_isInRange 26 = .ok (.invokestatic 46, 3) := by decide +kernel
theorem dX0_isInRange_29 : decode cX0_isInRange 29 = .ok (.ifCond .ne 5, 3) := by decide +kernel
theorem dX0_isInRange_32 : decode cX0_isInRange 32 = .ok (.iconst 0, 1) := by decide +kernel
theorem dX0_isInRange_33 : decode cX0_isInRange 33 = .ok (.ireturn, 1) := by decide +kernel
theorem dX0_isInRange_34 : decode cX0_isInRange 34 = .ok (.iinc 2 1, 3) := by decide +kernel
theorem dX0_isInRange_37 : decode cX0_isInRange 37 = .ok (.goto (-28), 3) := by decide +kernel
theorem dX0_isInRange_40 : decode cX0_isInRange 40 = .ok (.iinc 1 1, 3) := by decide +kernel
theorem dX0_isInRange_43 : decode cX0_isInRange 43 = .ok (.goto (-41), 3) := by decide +kernel
theorem dX0_isInRange_46 : decode cX0_isInRange 46 = .ok (.iconst 1, 1) := by decide +kernel
theorem dX0_isInRange_47 : decode cX0_isInRange 47 = .ok (.ireturn, 1) := by decide +kernel
theorem dX0_indexAt_0 : decode cX0_indexAt 0 = .ok (.aload_n 0, 1) := by decide +kernel
theorem dX0_indexAt_1 : decode cX0_indexAt 1 = .ok (.getfield 11, 3) := by decide +kernel
theorem dX0_indexAt_4 : decode cX0_indexAt 4 = .ok (.iload_n 1, 1) := by decide +kernel
theorem dX0_indexAt_5 : decode cX0_indexAt 5 = .ok (.aaload, 1) := by decide +kernel
theorem dX0_indexAt_6 : decode cX0_indexAt 6 = .ok (.astore_n 3, 1) := by decide +kernel
theorem dX0_indexAt_7 : decode cX0_indexAt 7 = .ok (.aload_n 3, 1) := by decide +kernel
theorem dX0_indexAt_8 : decode cX0_indexAt 8 = .ok (.iload_n 2, 1) := by decide +kernel
theorem dX0_indexAt_9 : decode cX0_indexAt 9 = .ok (.iaload, 1) := by decide +kernel
theorem dX0_indexAt_10 : decode cX0_indexAt 10 = .ok (.aload_n 3, 1) := by decide +kernel
theorem dX0_indexAt_11 : decode cX0_indexAt 11 = .ok (.iconst 0, 1) := by decide +kernel
theorem dX0_indexAt_12 : decode cX0_indexAt 12 = .ok (.iaload, 1) := by decide +kernel
theorem dX0_indexAt_13 : decode cX0_indexAt 13 = .ok (.isub, 1) := by decide +kernel
theorem dX0_indexAt_14 : decode cX0_indexAt 14 = .ok (.aload_n 0, 1) := by decide +kernel
theorem dX0_indexAt_15 : decode cX0_indexAt 15 = .ok (.iload_n 1, 1) := by decide +kernel
theorem dX0_indexAt_16 : decode cX0_indexAt 16 = .ok (.invokevirtual 43, 3) := by decide +kernel
theorem dX0_indexAt_19 : decode cX0_indexAt 19 = .ok (.i2l, 1) := by decide +kernel
theorem dX0_indexAt_20 : decode cX0_indexAt 20 = .ok (.iload_n 2, 1) := by decide +kernel
theorem dX0_indexAt_21 : decode cX0_indexAt 21 = .ok (.i2l, 1) := by decide +kernel
theorem dX0_indexAt_22 : decode cX0_indexAt 22 = .ok (.lmul, 1) := by decide +kernel
theorem dX0_indexAt_23 : decode cX0_indexAt 23 = .ok (.aload_n 0, 1) := by decide +kernel
theorem dX0_indexAt_24 : decode cX0_indexAt 24 = .ok (.getfield 16, 3) := by decide +kernel
theorem dX0_indexAt_27 : decode cX0_indexAt 27 = .ok (.i2l, 1) := by decide +kernel
theorem dX0_indexAt_28 : decode cX0_indexAt 28 = .ok (.invokestatic 50, 3) := by decide +kernel
theorem dX0_indexAt_31 : decode cX0_indexAt 31 = .ok (.isub, 1) := by decide +kernel
theorem dX0_indexAt_32 : decode cX0_indexAt 32 = .ok (.ireturn, 1) := by decide +kernel
theorem dX0_greatestPitch_0 : decode cX0_greatestPitch 0 = .ok (.iconst 0, 1) := by decide +kernel
theorem dX0_greatestPitch_1 : decode cX0_greatestPitch 1 = .ok (.istore_n 2, 1) := by decide +kernel
theorem dX0_greatestPitch_2 : decode cX0_greatestPitch 2 = .ok (.iconst 0, 1) := by decide +kernel
theorem dX0_greatestPitch_3 : decode cX0_greatestPitch 3 = .ok (.istore_n 3, 1) := by decide +kernel
theorem dX0_greatestPitch_4 : decode cX0_greatestPitch 4 = .ok (.iconst 1, 1) := by decide +kernel
theorem dX0_greatestPitch_5 : decode cX0_greatestPitch 5 = .ok (.istore 4, 2) := by decide +kernel
theorem dX0_greatestPitch_7 : decode cX0_greatestPitch 7 = .ok (.iload 4, 2) := by decide +kernel
theorem dX0_greatestPitch_9 : decode cX0_greatestPitch 9 = .ok (.aload_n 0, 1) := by decide +kernel
theorem dX0_greatestPitch_10 : decode cX0_greatestPitch 10 = .ok (.getfield 16, 3) := by decide +kernel
theorem dX0_greatestPitch_13 : decode cX0_greatestPitch 13 = .ok (.if_icmp .gt 33, 3) := by decide +kernel
theorem dX0_greatestPitch_16 : decode cX0_greatestPitch 16 = .ok (.aload_n 0, 1) := by decide +kernel
theorem dX0_greatestPitch_17 : decode cX0_greatestPitch 17 = .ok (.iload_n 1, 1) := by decide +kernel
theorem dX0_greatestPitch_18 : decode cX0_greatestPitch 18 = .ok (.iload 4, 2) := by decide +kernel
theorem dX0_greatestPitch_20 : decode cX0_greatestPitch 20 = .ok (.invokevirtual 54, 3) := by decide +kernel
theorem dX0_greatestPitch_23 : decode cX0_greatestPitch 23 = .ok (.istore 5, 2) := by decide +kernel
theorem dX0_greatestPitch_25 : decode cX0_greatestPitch 25 = .ok (.iload_n 2, 1) := by decide +kernel
theorem dX0_greatestPitch_26 : decode cX0_greatestPitch 26 = .ok (.iload 5, 2) := by decide +kernel
theorem dX0_greatestPitch_28 : decode cX0_greatestPitch 28 = .ok (.iload_n 3, 1) := by decide +kernel
theorem dX0_greatestPitch_29 : decode cX0_greatestPitch 29 = .ok (.isub, 1) := by decide +kernel
theorem dX0_greatestPitch_30 : decode cX0_greatestPitch 30 = .ok (.invokestatic 58, 3) := by decide +kernel
theorem dX0_greatestPitch_33 : decode cX0_greatestPitch 33 = .ok (.invokestatic 63, 3) := by decide +kernel
theorem dX0_greatestPitch_36 : decode cX0_greatestPitch 36 = .ok (.istore_n 2, 1) := by decide +kernel
theorem dX0_greatestPitch_37 : decode cX0_greatestPitch 37 = .ok (.iload 5, 2) := by decide +kernel
theorem dX0_greatestPitch_39 : decode cX0_greatestPitch 39 = .ok (.istore_n 3, 1) := by decide +kernel
theorem dX0_greatestPitch_40 : decode cX0_greatestPitch 40 = .ok (.iinc 4 1, 3) := by decide +kernel
theorem dX0_greatestPitch_43 : decode cX0_greatestPitch 43 = .ok (.goto (-36), 3) := by decide +kernel
theorem dX0_greatestPitch_46 : decode cX0_greatestPitch 46 = .ok (.iload_n 2, 1) := by decide +kernel
theorem dX0_greatestPitch_47 : decode cX0_greatestPitch 47 = .ok (.ireturn, 1) := by decide +kernel
theorem dX0_indexRange_0 : decode cX0_indexRange 0 = .ok (.iconst 0, 1) := by decide +kernel
theorem dX0_indexRange_1 : decode cX0_indexRange 1 = .ok (.istore_n 2, 1) := by decide +kernel
theorem dX0_indexRange_2 : decode cX0_indexRange 2 = .ok (.iconst 0, 1) := by decide +kernel
theorem dX0_indexRange_3 : decode cX0_indexRange 3 = .ok (.istore_n 3, 1) := by decide +kernel
theorem dX0_indexRange_4 : decode cX0_indexRange 4 = .ok (.iconst 1, 1) := by decide +kernel
theorem dX0_indexRange_5 : decode cX0_indexRange 5 = .ok (.istore 4, 2) := by decide +kernel
theorem dX0_indexRange_7 : decode cX0_indexRange 7 = .ok (.iload 4, 2) := by decide +kernel
theorem dX0_indexRange_9 : decode cX0_indexRange 9 = .ok (.aload_n 0, 1) := by decide +kernel
theorem dX0_indexRange_10 : decode cX0_indexRange 10 = .ok (.getfield 16, 3) := by decide +kernel
theorem dX0_indexRange_13 : decode cX0_indexRange 13 = .ok (.if_icmp .gt 32, 3) := by decide +kernel
theorem dX0_indexRange_16 : decode cX0_indexRange 16 = .ok (.aload_n 0, 1) := by decide +kernel
theorem dX0_indexRange_17 : decode cX0_indexRange 17 = .ok (.iload_n 1, 1) := by decide +kernel
theorem dX0_indexRange_18 : decode cX0_indexRange 18 = .ok (.iload 4, 2) := by decide +kernel
theorem dX0_indexRange_20 : decode cX0_indexRange 20 = .ok (.invokevirtual 54, 3) := by decide +kernel
theorem dX0_indexRange_23 : decode cX0_indexRange 23 = .ok (.istore 5, 2) := by decide +kernel
theorem dX0_indexRange_25 : decode cX0_indexRange 25 = .ok (.iload_n 2, 1) := by decide +kernel
theorem dX0_indexRange_26 : decode cX0_indexRange 26 = .ok (.iload 5, 2) := by decide +kernel
theorem dX0_indexRange_28 : decode cX0_indexRange 28 = .ok (.invokestatic 63, 3) := by decide +kernel
theorem dX0_indexRange_31 : decode cX0_indexRange 31 = .ok (.istore_n 2, 1) := by decide +kernel
theorem dX0_indexRange_32 : decode cX0_indexRange 32 = .ok (.iload_n 3, 1) := by decide +kernel
theorem dX0_indexRange_33 : decode cX0_indexRange 33 = .ok (.iload 5, 2) := by decide +kernel
theorem dX0_indexRange_35 : decode cX0_indexRange 35 = .ok (.invokestatic 66, 3) := by decide +kernel
theorem dX0_indexRange_38 : decode cX0_indexRange 38 = .ok (.istore_n 3, 1) := by decide +kernel
theorem dX0_indexRange_39 : decode cX0_indexRange 39 = .ok (.iinc 4 1, 3) := by decide +kernel
theorem dX0_indexRange_42 : decode cX0_indexRange 42 = .ok (.goto (-35), 3) := by decide +kernel
theorem dX0_indexRange_45 : decode cX0_indexRange 45 = .ok (.iload_n 2, 1) := by decide +kernel
theorem dX0_indexRange_46 : decode cX0_indexRange 46 = .ok (.iload_n 3, 1) := by decide +kernel
theorem dX0_indexRange_47 : decode cX0_indexRange 47 = .ok (.isub, 1) := by decide +kernel
theorem dX0_indexRange_48 : decode cX0_indexRange 48 = .ok (.ireturn, 1) := by decide +kernel
theorem dX0_greatestSpan_0 : decode cX0_greatestSpan 0 = .ok (.iconst 0, 1) := by decide +kernel
theorem dX0_greatestSpan_1 : decode cX0_greatestSpan 1 = .ok (.istore_n 3, 1) := by decide +kernel
theorem dX0_greatestSpan_2 : decode cX0_greatestSpan 2 = .ok (.iconst 0, 1) := by decide +kernel
theorem dX0_greatestSpan_3 : decode cX0_greatestSpan 3 = .ok (.istore 4, 2) := by decide +kernel
theorem dX0_greatestSpan_5 : decode cX0_greatestSpan 5 = .ok (.iload 4, 2) := by decide +kernel
theorem dX0_greatestSpan_7 : decode cX0_greatestSpan 7 = .ok (.aload_n 0, 1) := by decide +kernel
theorem dX0_greatestSpan_8 : decode cX0_greatestSpan 8 = .ok (.getfield 16, 3) := by decide +kernel
theorem dX0_greatestSpan_11 : decode cX0_greatestSpan 11 = .ok (.if_icmp .ge 42, 3) := by decide +kernel
theorem dX0_greatestSpan_14 : decode cX0_greatestSpan 14 = .ok (.aload_n 0, 1) := by decide +kernel
theorem dX0_greatestSpan_15 : decode cX0_greatestSpan 15 = .ok (.iload_n 1, 1) := by decide +kernel
theorem dX0_greatestSpan_16 : decode cX0_greatestSpan 16 = .ok (.aload_n 0, 1) := by decide +kernel
theorem dX0_greatestSpan_17 : decode cX0_greatestSpan 17 = .ok (.iload 4, 2) := by decide +kernel
theorem dX0_greatestSpan_19 : decode cX0_greatestSpan 19 = .ok (.iload_n 2, 1) := by decide +kernel
theorem dX0_greatestSpan_20 : decode cX0_greatestSpan 20 = .ok (.iadd, 1) := by decide +kernel
theorem dX0_greatestSpan_21 : decode cX0_greatestSpan 21 = .ok (.invokevirtual 69, 3) := by decide +kernel
theorem dX0_greatestSpan_24 : decode cX0_greatestSpan 24 = .ok (.invokevirtual 54, 3) := by decide +kernel
theorem dX0_greatestSpan_27 : decode cX0_greatestSpan 27 = .ok (.aload_n 0, 1) := by decide +kernel
theorem dX0_greatestSpan_28 : decode cX0_greatestSpan 28 = .ok (.iload_n 1, 1) := by decide +kernel
theorem dX0_greatestSpan_29 : decode cX0_greatestSpan 29 = .ok (.iload 4, 2) := by decide +kernel
theorem dX0_greatestSpan_31 : decode cX0_greatestSpan 31 = .ok (.invokevirtual 54, 3) := by decide +kernel
theorem dX0_greatestSpan_34 : decode cX0_greatestSpan 34 = .ok (.isub, 1) := by decide +kernel
theorem dX0_greatestSpan_35 : decode cX0_greatestSpan 35 = .ok (.istore 5, 2) := by decide +kernel
theorem dX0_greatestSpan_37 : decode cX0_greatestSpan 37 = .ok (.iload_n 3, 1) := by decide +kernel
theorem dX0_greatestSpan_38 : decode cX0_greatestSpan 38 = .ok (.iload 5, 2) := by decide +kernel
theorem dX0_greatestSpan_40 : decode cX0_greatestSpan 40 = .ok (.invokestatic 58, 3) := by decide +kernel
theorem dX0_greatestSpan_43 : decode cX0_greatestSpan 43 = .ok (.invokestatic 63, 3) := by decide +kernel
theorem dX0_greatestSpan_46 : decode cX0_greatestSpan 46 = .ok (.istore_n 3, 1) := by decide +kernel
theorem dX0_greatestSpan_47 : decode cX0_greatestSpan 47 = .ok (.iinc 4 1, 3) := by decide +kernel
theorem dX0_greatestSpan_50 : decode cX0_greatestSpan 50 = .ok (.goto (-45), 3) := by decide +kernel
theorem dX0_greatestSpan_53 : decode cX0_greatestSpan 53 = .ok (.iload_n 3, 1) := by decide +kernel
theorem dX0_greatestSpan_54 : decode cX0_greatestSpan 54 = .ok (.ireturn, 1) := by decide +kernel
theorem dX0_thicknessAt_0 : decode cX0_thicknessAt 0 = .ok (.aload_n 0, 1) := by decide +kernel
theorem dX0_thicknessAt_1 : decode cX0_thicknessAt 1 = .ok (.iconst 0, 1) := by decide +kernel
theorem dX0_thicknessAt_2 : decode cX0_thicknessAt 2 = .ok (.iload_n 1, 1) := by decide +kernel
theorem dX0_thicknessAt_3 : decode cX0_thicknessAt 3 = .ok (.invokevirtual 54, 3) := by decide +kernel
theorem dX0_thicknessAt_6 : decode cX0_thicknessAt 6 = .ok (.aload_n 0, 1) := by decide +kernel
theorem dX0_thicknessAt_7 : decode cX0_thicknessAt 7 = .ok (.iconst 1, 1) := by decide +kernel
theorem dX0_thicknessAt_8 : decode cX0_thicknessAt 8 = .ok (.iload_n 1, 1) := by decide +kernel
theorem dX0_thicknessAt_9 : decode cX0_thicknessAt 9 = .ok (.invokevirtual 54, 3) := by decide +kernel
theorem dX0_thicknessAt_12 : decode cX0_thicknessAt 12 = .ok (.isub, 1) := by decide +kernel
theorem dX0_thicknessAt_13 : decode cX0_thicknessAt 13 = .ok (.ireturn, 1) := by decide +kernel
theorem dX0_thicknessRange_0 : decode cX0_thicknessRange 0 = .ok (.aload_n 0, 1) := by decide +kernel
theorem dX0_thicknessRange_1 : decode cX0_thicknessRange 1 = .ok (.iconst 0, 1) := by decide +kernel
theorem dX0_thicknessRange_2 : decode cX0_thicknessRange 2 = .ok (.invokevirtual 72, 3) := by decide +kernel
theorem dX0_thicknessRange_5 : decode cX0_thicknessRange 5 = .ok (.istore_n 1, 1) := by decide +kernel
theorem dX0_thicknessRange_6 : decode cX0_thicknessRange 6 = .ok (.iload_n 1, 1) := by decide +kernel
theorem dX0_thicknessRange_7 : decode cX0_thicknessRange 7 = .ok (.istore_n 2, 1) := by decide +kernel
theorem dX0_thicknessRange_8 : decode cX0_thicknessRange 8 = .ok (.iconst 1, 1) := by decide +kernel
theorem dX0_thicknessRange_9 : decode cX0_thicknessRange 9 = .ok (.istore_n 3, 1) := by decide +kernel
theorem dX0_thicknessRange_10 : decode cX0_thicknessRange 10 = .ok (.iload_n 3, 1) := by decide +kernel
theorem dX0_thicknessRange_11 : decode cX0_thicknessRange 11 = .ok (.aload_n 0, 1) := by decide +kernel
theorem dX0_thicknessRange_12 : decode cX0_thicknessRange 12 = .ok (.getfield 16, 3) := by decide +kernel
theorem dX0_thicknessRange_15 : decode cX0_thicknessRange 15 = .ok (.if_icmp .ge 30, 3) := by decide +kernel
theorem dX0_thicknessRange_18 : decode cX0_thicknessRange 18 = .ok (.aload_n 0, 1) := by decide +kernel
theorem dX0_thicknessRange_19 : decode cX0_thicknessRange 19 = .ok (.iload_n 3, 1) := by decide +kernel
theorem dX0_thicknessRange_20 : decode cX0_thicknessRange 20 = .ok (.invokevirtual 72, 3) := by decide +kernel
theorem dX0_thicknessRange_23 : decode cX0_thicknessRange 23 = .ok (.istore 4, 2) := by decide +kernel
theorem dX0_thicknessRange_25 : decode cX0_thicknessRange 25 = .ok (.iload_n 1, 1) := by decide +kernel
theorem dX0_thicknessRange_26 : decode cX0_thicknessRange 26 = .ok (.iload 4, 2) := by decide +kernel
theorem dX0_thicknessRange_28 : decode cX0_thicknessRange 28 = .ok (.invokestatic 63, 3) := by decide +kernel
theorem dX0_thicknessRange_31 : decode cX0_thicknessRange 31 = .ok (.istore_n 1, 1) := by decide +kernel
theorem dX0_thicknessRange_32 : decode cX0_thicknessRange 32 = .ok (.iload_n 2, 1) := by decide +kernel
theorem dX0_thicknessRange_33 : decode cX0_thicknessRange 33 = .ok (.iload 4, 2) := by decide +kernel
theorem dX0_thicknessRange_35 : decode cX0_thicknessRange 35 = .ok (.invokestatic 66, 3) := by decide +kernel
theorem dX0_thicknessRange_38 : decode cX0_thicknessRange 38 = .ok (.istore_n 2, 1) := by decide +kernel
theorem dX0_thicknessRange_39 : decode cX0_thicknessRange 39 = .ok (.iinc 3 1, 3) := by decide +kernel
theorem dX0_thicknessRange_42 : decode cX0_thicknessRange 42 = .ok (.goto (-32), 3) := by decide +kernel
theorem dX0_thicknessRange_45 : decode cX0_thicknessRange 45 = .ok (.iload_n 1, 1) := by decide +kernel
theorem dX0_thicknessRange_46 : decode cX0_thicknessRange 46 = .ok (.iload_n 2, 1) := by decide +kernel
theorem dX0_thicknessRange_47 : decode cX0_thicknessRange 47 = .ok (.isub, 1) := by decide +kernel
theorem dX0_thicknessRange_48 : decode cX0_thicknessRange 48 = .ok (.ireturn, 1) := by decide +kernel
theorem dX0_runout_0 : decode cX0_runout 0 = .ok (.aload_n 0, 1) := by decide +kernel
theorem dX0_runout_1 : decode cX0_runout 1 = .ok (.getfield 11, 3) := by decide +kernel
theorem dX0_runout_4 : decode cX0_runout 4 = .ok (.iconst 2, 1) := by decide +kernel
theorem dX0_runout_5 : decode cX0_runout 5 = .ok (.aaload, 1) := by decide +kernel
theorem dX0_runout_6 : decode cX0_runout 6 = .ok (.iconst 0, 1) := by decide +kernel
theorem dX0_runout_7 : decode cX0_runout 7 = .ok (.iaload, 1) := by decide +kernel
theorem dX0_runout_8 : decode cX0_runout 8 = .ok (.istore_n 1, 1) := by decide +kernel
theorem dX0_runout_9 : decode cX0_runout 9 = .ok (.iload_n 1, 1) := by decide +kernel
theorem dX0_runout_10 : decode cX0_runout 10 = .ok (.istore_n 2, 1) := by decide +kernel
theorem dX0_runout_11 : decode cX0_runout 11 = .ok (.iconst 1, 1) := by decide +kernel
theorem dX0_runout_12 : decode cX0_runout 12 = .ok (.istore_n 3, 1) := by decide +kernel
theorem dX0_runout_13 : decode cX0_runout 13 = .ok (.iload_n 3, 1) := by decide +kernel
theorem dX0_runout_14 : decode cX0_runout 14 = .ok (.aload_n 0, 1) := by decide +kernel
theorem dX0_runout_15 : decode cX0_runout 15 = .ok (.getfield 16, 3) := by decide +kernel
theorem dX0_runout_18 : decode cX0_runout 18 = .ok (.if_icmp .ge 35, 3) := by decide +kernel
theorem dX0_runout_21 : decode cX0_runout 21 = .ok (.iload_n 1, 1) := by decide +kernel
theorem dX0_runout_22 : decode cX0_runout 22 = .ok (.aload_n 0, 1) := by decide +kernel
theorem dX0_runout_23 : decode cX0_runout 23 = .ok (.getfield 11, 3) := by decide +kernel
theorem dX0_runout_26 : decode cX0_runout 26 = .ok (.iconst 2, 1) := by decide +kernel
theorem dX0_runout_27 : decode cX0_runout 27 = .ok (.aaload, 1) := by decide +kernel
theorem dX0_runout_28 : decode cX0_runout 28 = .ok (.iload_n 3, 1) := by decide +kernel
theorem dX0_runout_29 : decode cX0_runout 29 = .ok (.iaload, 1) := by decide +kernel
theorem dX0_runout_30 : decode cX0_runout 30 = .ok (.invokestatic 63, 3) := by decide +kernel
theorem dX0_runout_33 : decode cX0_runout 33 = .ok (.istore_n 1, 1) := by decide +kernel
theorem dX0_runout_34 : decode cX0_runout 34 = .ok (.iload_n 2, 1) := by decide +kernel
theorem dX0_runout_35 : decode cX0_runout 35 = .ok (.aload_n 0, 1) := by decide +kernel
theorem dX0_runout_36 : decode cX0_runout 36 = .ok (.getfield 11, 3) := by decide +kernel
theorem dX0_runout_39 : decode cX0_runout 39 = .ok (.iconst 2, 1) := by decide +kernel
theorem dX0_runout_40 : decode cX0_runout 40 = .ok (.aaload, 1) := by decide +kernel
theorem dX0_runout_41 : decode cX0_runout 41 = .ok (.iload_n 3, 1) := by decide +kernel
theorem dX0_runout_42 : decode cX0_runout 42 = .ok (.iaload, 1) := by decide +kernel
theorem dX0_runout_43 : decode cX0_runout 43 = .ok (.invokestatic 66, 3) := by decide +kernel
theorem dX0_runout_46 : decode cX0_runout 46 = .ok (.istore_n 2, 1) := by decide +kernel
theorem dX0_runout_47 : decode cX0_runout 47 = .ok (.iinc 3 1, 3) := by decide +kernel
theorem dX0_runout_50 : decode cX0_runout 50 = .ok (.goto (-37), 3) := by decide +kernel
theorem dX0_runout_53 : decode cX0_runout 53 = .ok (.iload_n 1, 1) := by decide +kernel
theorem dX0_runout_54 : decode cX0_runout 54 = .ok (.iload_n 2, 1) := by decide +kernel
theorem dX0_runout_55 : decode cX0_runout 55 = .ok (.isub, 1) := by decide +kernel
theorem dX0_runout_56 : decode cX0_runout 56 = .ok (.ireturn, 1) := by decide +kernel
theorem dX0_greatestOpposite_0 : decode cX0_greatestOpposite 0 = .ok (.iconst 0, 1) := by decide +kernel
theorem dX0_greatestOpposite_1 : decode cX0_greatestOpposite 1 = .ok (.istore_n 1, 1) := by decide +kernel
theorem dX0_greatestOpposite_2 : decode cX0_greatestOpposite 2 = .ok (.iconst 0, 1) := by decide +kernel
theorem dX0_greatestOpposite_3 : decode cX0_greatestOpposite 3 = .ok (.istore_n 2, 1) := by decide +kernel
theorem dX0_greatestOpposite_4 : decode cX0_greatestOpposite 4 = .ok (.iload_n 2, 1) := by decide +kernel
theorem dX0_greatestOpposite_5 : decode cX0_greatestOpposite 5 = .ok (.aload_n 0, 1) := by decide +kernel
theorem dX0_greatestOpposite_6 : decode cX0_greatestOpposite 6 = .ok (.getfield 16, 3) := by decide +kernel
theorem dX0_greatestOpposite_9 : decode cX0_greatestOpposite 9 = .ok (.if_icmp .ge 47, 3) := by decide +kernel
theorem dX0_greatestOpposite_12 : decode cX0_greatestOpposite 12 = .ok (.aload_n 0, 1) := by decide +kernel
theorem dX0_greatestOpposite_13 : decode cX0_greatestOpposite 13 = .ok (.getfield 11, 3) := by decide +kernel
theorem dX0_greatestOpposite_16 : decode cX0_greatestOpposite 16 = .ok (.iconst 2, 1) := by decide +kernel
theorem dX0_greatestOpposite_17 : decode cX0_greatestOpposite 17 = .ok (.aaload, 1) := by decide +kernel
theorem dX0_greatestOpposite_18 : decode cX0_greatestOpposite 18 = .ok (.aload_n 0, 1) := by decide +kernel
theorem dX0_greatestOpposite_19 : decode cX0_greatestOpposite 19 = .ok (.iload_n 2, 1) := by decide +kernel
theorem dX0_greatestOpposite_20 : decode cX0_greatestOpposite 20 = .ok (.aload_n 0, 1) := by decide +kernel
theorem dX0_greatestOpposite_21 : decode cX0_greatestOpposite 21 = .ok (.getfield 16, 3) := by decide +kernel
theorem dX0_greatestOpposite_24 : decode cX0_greatestOpposite 24 = .ok (.iconst 2, 1) := by decide +kernel
theorem dX0_greatestOpposite_25 : decode cX0_greatestOpposite 25 = .ok (.idiv, 1) := by decide +kernel
theorem dX0_greatestOpposite_26 : decode cX0_greatestOpposite 26 = .ok (.iadd, 1) := by decide +kernel
theorem dX0_greatestOpposite_27 : decode cX0_greatestOpposite 27 = .ok (.invokevirtual 69, 3) := by decide +kernel
theorem dX0_greatestOpposite_30 : decode cX0_greatestOpposite 30 = .ok (.iaload, 1) := by decide +kernel
theorem dX0_greatestOpposite_31 : decode cX0_greatestOpposite 31 = .ok (.aload_n 0, 1) := by decide +kernel
theorem dX0_greatestOpposite_32 : decode cX0_greatestOpposite 32 = .ok (.getfield 11, 3) := by decide +kernel
theorem dX0_greatestOpposite_35 : decode cX0_greatestOpposite 35 = .ok (.iconst 2, 1) := by decide +kernel
theorem dX0_greatestOpposite_36 : decode cX0_greatestOpposite 36 = .ok (.aaload, 1) := by decide +kernel
theorem dX0_greatestOpposite_37 : decode cX0_greatestOpposite 37 = .ok (.iload_n 2, 1) := by decide +kernel
theorem dX0_greatestOpposite_38 : decode cX0_greatestOpposite 38 = .ok (.iaload, 1) := by decide +kernel
theorem dX0_greatestOpposite_39 : decode cX0_greatestOpposite 39 = .ok (.isub, 1) := by decide +kernel
theorem dX0_greatestOpposite_40 : decode cX0_greatestOpposite 40 = .ok (.istore_n 3, 1) := by decide +kernel
theorem dX0_greatestOpposite_41 : decode cX0_greatestOpposite 41 = .ok (.iload_n 1, 1) := by decide +kernel
theorem dX0_greatestOpposite_42 : decode cX0_greatestOpposite 42 = .ok (.iload_n 3, 1) := by decide +kernel
theorem dX0_greatestOpposite_43 : decode cX0_greatestOpposite 43 = .ok (.invokestatic 58, 3) := by decide +kernel
theorem dX0_greatestOpposite_46 : decode cX0_greatestOpposite 46 = .ok (.invokestatic 63, 3) := by decide +kernel
theorem dX0_greatestOpposite_49 : decode cX0_greatestOpposite 49 = .ok (.istore_n 1, 1) := by decide +kernel
theorem dX0_greatestOpposite_50 : decode cX0_greatestOpposite 50 = .ok (.iinc 2 1, 3) := by decide +kernel
theorem dX0_greatestOpposite_53 : decode cX0_greatestOpposite 53 = .ok (.goto (-49), 3) := by decide +kernel
theorem dX0_greatestOpposite_56 : decode cX0_greatestOpposite 56 = .ok (.iload_n 1, 1) := by decide +kernel
theorem dX0_greatestOpposite_57 : decode cX0_greatestOpposite 57 = .ok (.ireturn, 1) := by decide +kernel
theorem dX0_around_0 : decode cX0_around 0 = .ok (.iload_n 1, 1) := by decide +kernel
theorem dX0_around_1 : decode cX0_around 1 = .ok (.aload_n 0, 1) := by decide +kernel
theorem dX0_around_2 : decode cX0_around 2 = .ok (.getfield 16, 3) := by decide +kernel
theorem dX0_around_5 : decode cX0_around 5 = .ok (.if_icmp .ge 7, 3) := by decide +kernel
theorem dX0_around_8 : decode cX0_around 8 = .ok (.iload_n 1, 1) := by decide +kernel
theorem dX0_around_9 : decode cX0_around 9 = .ok (.goto 9, 3) := by decide +kernel
theorem dX0_around_12 : decode cX0_around 12 = .ok (.iload_n 1, 1) := by decide +kernel
theorem dX0_around_13 : decode cX0_around 13 = .ok (.aload_n 0, 1) := by decide +kernel
theorem dX0_around_14 : decode cX0_around 14 = .ok (.getfield 16, 3) := by decide +kernel
theorem dX0_around_17 : decode cX0_around 17 = .ok (.isub, 1) := by decide +kernel
theorem dX0_around_18 : decode cX0_around 18 = .ok (.ireturn, 1) := by decide +kernel
