theorem dX4_init_0 : decode cX4_init 0 = .ok (.aload_n 0, 1) := by decide +kernel
theorem dX4_init_1 : decode cX4_init 1 = .ok (.invokespecial 3, 3) := by decide +kernel
theorem dX4_init_4 : decode cX4_init 4 = .ok (.aload_n 0, 1) := by decide +kernel
theorem dX4_init_5 : decode cX4_init 5 = .ok (.sipush 160, 3) := by decide +kernel
theorem dX4_init_8 : decode cX4_init 8 = .ok (.newarray .int, 2) := by decide +kernel
theorem dX4_init_10 : decode cX4_init 10 = .ok (.putfield 9, 3) := by decide +kernel
theorem dX4_init_13 : decode cX4_init 13 = .ok (.aload_n 0, 1) := by decide +kernel
theorem dX4_init_14 : decode cX4_init 14 = .ok (.sipush 160, 3) := by decide +kernel
theorem dX4_init_17 : decode cX4_init 17 = .ok (.newarray .int, 2) := by decide +kernel
theorem dX4_init_19 : decode cX4_init 19 = .ok (.putfield 15, 3) := by decide +kernel
theorem dX4_init_22 : decode cX4_init 22 = .ok (.return_, 1) := by decide +kernel
theorem dX4_syntaxError_0 : decode cX4_syntaxError 0 = .ok (.aload_n 0, 1) := by decide +kernel
theorem dX4_syntaxError_1 : decode cX4_syntaxError 1 = .ok (.iconst 0, 1) := by decide +kernel
theorem dX4_syntaxError_2 : decode cX4_syntaxError 2 = .ok (.putfield 18, 3) := by decide +kernel
theorem dX4_syntaxError_5 : decode cX4_syntaxError 5 = .ok (.iconst 0, 1) := by decide +kernel
theorem dX4_syntaxError_6 : decode cX4_syntaxError 6 = .ok (.istore_n 1, 1) := by decide +kernel
theorem dX4_syntaxError_7 : decode cX4_syntaxError 7 = .ok (.iload_n 1, 1) := by decide +kernel
theorem dX4_syntaxError_8 : decode cX4_syntaxError 8 = .ok (.aload_n 0, 1) := by decide +kernel
theorem dX4_syntaxError_9 : decode cX4_syntaxError 9 = .ok (.getfield 22, 3) := by decide +kernel
theorem dX4_syntaxError_12 : decode cX4_syntaxError 12 = .ok (.if_icmp .ge 53, 3) := by decide +kernel
theorem dX4_syntaxError_15 : decode cX4_syntaxError 15 = .ok (.aload_n 0, 1) := by decide +kernel
theorem dX4_syntaxError_16 : decode cX4_syntaxError 16 = .ok (.aload_n 0, 1) := by decide +kernel
theorem dX4_syntaxError_17 : decode cX4_syntaxError 17 = .ok (.getfield 9, 3) := by decide +kernel
theorem dX4_syntaxError_20 : decode cX4_syntaxError 20 = .ok (.iload_n 1, 1) := by decide +kernel
theorem dX4_syntaxError_21 : decode cX4_syntaxError 21 = .ok (.iaload, 1) := by decide +kernel
theorem dX4_syntaxError_22 : decode cX4_syntaxError 22 = .ok (.invokevirtual 25, 3) := by decide +kernel
theorem dX4_syntaxError_25 : decode cX4_syntaxError 25 = .ok (.ifCond .ne 5, 3) := by decide +kernel
theorem dX4_syntaxError_28 : decode cX4_syntaxError 28 = .ok (.iload_n 1, 1) := by decide +kernel
theorem dX4_syntaxError_29 : decode cX4_syntaxError 29 = .ok (.ireturn, 1) := by decide +kernel
theorem dX4_syntaxError_30 : decode cX4_syntaxError 30 = .ok (.aload_n 0, 1) := by decide +kernel
theorem dX4_syntaxError_31 : decode cX4_syntaxError 31 = .ok (.getfield 9, 3) := by decide +kernel
theorem dX4_syntaxError_34 : decode cX4_syntaxError 34 = .ok (.iload_n 1, 1) := by decide +kernel
theorem dX4_syntaxError_35 : decode cX4_syntaxError 35 = .ok (.iaload, 1) := by decide +kernel
theorem dX4_syntaxError_36 : decode cX4_syntaxError 36 = .ok (.bipush 59, 2) := by decide +kernel
theorem dX4_syntaxError_38 : decode cX4_syntaxError 38 = .ok (.if_icmp .ne 11, 3) := by decide +kernel
theorem dX4_syntaxError_41 : decode cX4_syntaxError 41 = .ok (.aload_n 0, 1) := by decide +kernel
theorem dX4_syntaxError_42 : decode cX4_syntaxError 42 = .ok (.iconst 0, 1) := by decide +kernel
theorem dX4_syntaxError_43 : decode cX4_syntaxError 43 = .ok (.putfield 18, 3) := by decide +kernel
theorem dX4_syntaxError_46 : decode cX4_syntaxError 46 = .ok (.goto 13, 3) := by decide +kernel
theorem dX4_syntaxError_49 : decode cX4_syntaxError 49 = .ok (.aload_n 0, 1) := by decide +kernel
theorem dX4_syntaxError_50 : decode cX4_syntaxError 50 = .ok (.aload_n 0, 1) := by decide +kernel
theorem dX4_syntaxError_51 : decode cX4_syntaxError 51 = .ok (.getfield 9, 3) := by decide +kernel
theorem dX4_syntaxError_54 : decode cX4_syntaxError 54 = .ok (.iload_n 1, 1) := by decide +kernel
theorem dX4_syntaxError_55 : decode cX4_syntaxError 55 = .ok (.iaload, 1) := by decide +kernel
theorem dX4_syntaxError_56 : decode cX4_syntaxError 56 = .ok (.invokevirtual 29, 3) := by decide +kernel
theorem dX4_syntaxError_59 : decode cX4_syntaxError 59 = .ok (.iinc 1 1, 3) := by decide +kernel
theorem dX4_syntaxError_62 : decode cX4_syntaxError 62 = .ok (.goto (-55), 3) := by decide +kernel
theorem dX4_syntaxError_65 : decode cX4_syntaxError 65 = .ok (.aload_n 0, 1) := by decide +kernel
theorem dX4_syntaxError_66 : decode cX4_syntaxError 66 = .ok (.getfield 18, 3) := by decide +kernel
theorem dX4_syntaxError_69 : decode cX4_syntaxError 69 = .ok (.ifCond .ne 7, 3) := by decide +kernel
theorem dX4_syntaxError_72 : decode cX4_syntaxError 72 = .ok (.iconst (-1), 1) := by decide +kernel
theorem dX4_syntaxError_73 : decode cX4_syntaxError 73 = .ok (.goto 7, 3) := by decide +kernel
theorem dX4_syntaxError_76 : decode cX4_syntaxError 76 = .ok (.aload_n 0, 1) := by decide +kernel
theorem dX4_syntaxError_77 : decode cX4_syntaxError 77 = .ok (.getfield 22, 3) := by decide +kernel
theorem dX4_syntaxError_80 : decode cX4_syntaxError 80 = .ok (.ireturn, 1) := by decide +kernel
theorem dX4_rewind_0 : decode cX4_rewind 0 = .ok (.aload_n 0, 1) := by decide +kernel
theorem dX4_rewind_1 : decode cX4_rewind 1 = .ok (.iconst 0, 1) := by decide +kernel
theorem dX4_rewind_2 : decode cX4_rewind 2 = .ok (.putfield 33, 3) := by decide +kernel
theorem dX4_rewind_5 : decode cX4_rewind 5 = .ok (.return_, 1) := by decide +kernel
theorem dX4_readCommand_0 : decode cX4_readCommand 0 = .ok (.aload_n 0, 1) := by decide +kernel
theorem dX4_readCommand_1 : decode cX4_readCommand 1 = .ok (.iconst 0, 1) := by decide +kernel
theorem dX4_readCommand_2 : decode cX4_readCommand 2 = .ok (.putfield 18, 3) := by decide +kernel
theorem dX4_readCommand_5 : decode cX4_readCommand 5 = .ok (.aload_n 0, 1) := by decide +kernel
theorem dX4_readCommand_6 : decode cX4_readCommand 6 = .ok (.getfield 33, 3) := by decide +kernel
theorem dX4_readCommand_9 : decode cX4_readCommand 9 = .ok (.aload_n 0, 1) := by decide +kernel
theorem dX4_readCommand_10 : decode cX4_readCommand 10 = .ok (.getfield 22, 3) := by decide +kernel
theorem dX4_readCommand_13 : decode cX4_readCommand 13 = .ok (.if_icmp .ge 39, 3) := by decide +kernel
theorem dX4_readCommand_16 : decode cX4_readCommand 16 = .ok (.aload_n 0, 1) := by decide +kernel
theorem dX4_readCommand_17 : decode cX4_readCommand 17 = .ok (.getfield 9, 3) := by decide +kernel
theorem dX4_readCommand_20 : decode cX4_readCommand 20 = .ok (.aload_n 0, 1) := by decide +kernel
theorem dX4_readCommand_21 : decode cX4_readCommand 21 = .ok (.getfield 33, 3) := by decide +kernel
theorem dX4_readCommand_24 : decode cX4_readCommand 24 = .ok (.iaload, 1) := by decide +kernel
theorem dX4_readCommand_25 : decode cX4_readCommand 25 = .ok (.istore_n 1, 1) := by decide +kernel
theorem dX4_readCommand_26 : decode cX4_readCommand 26 = .ok (.aload_n 0, 1) := by decide +kernel
theorem dX4_readCommand_27 : decode cX4_readCommand 27 = .ok (.dup, 1) := by decide +kernel
theorem dX4_readCommand_28 : decode cX4_readCommand 28 = .ok (.getfield 33, 3) := by decide +kernel
theorem dX4_readCommand_31 : decode cX4_readCommand 31 = .ok (.iconst 1, 1) := by decide +kernel
theorem dX4_readCommand_32 : decode cX4_readCommand 32 = .ok (.iadd, 1) := by decide +kernel
theorem dX4_readCommand_33 : decode cX4_readCommand 33 = .ok (.putfield 33, 3) := by decide +kernel
theorem dX4_readCommand_36 : decode cX4_readCommand 36 = .ok (.iload_n 1, 1) := by decide +kernel
theorem dX4_readCommand_37 : decode cX4_readCommand 37 = .ok (.bipush 59, 2) := by decide +kernel
theorem dX4_readCommand_39 : decode cX4_readCommand 39 = .ok (.if_icmp .ne 5, 3) := by decide +kernel
theorem dX4_readCommand_42 : decode cX4_readCommand 42 = .ok (.iconst 1, 1) := by decide +kernel
theorem dX4_readCommand_43 : decode cX4_readCommand 43 = .ok (.ireturn, 1) := by decide +kernel
theorem dX4_readCommand_44 : decode cX4_readCommand 44 = .ok (.aload_n 0, 1) := by decide +kernel
theorem dX4_readCommand_45 : decode cX4_readCommand 45 = .ok (.iload_n 1, 1) := by decide +kernel
theorem dX4_readCommand_46 : decode cX4_readCommand 46 = .ok (.invokevirtual 29, 3) := by decide +kernel
theorem dX4_readCommand_49 : decode cX4_readCommand 49 = .ok (.goto (-44), 3) := by decide +kernel
theorem dX4_readCommand_52 : decode cX4_readCommand 52 = .ok (.iconst 0, 1) := by decide +kernel
theorem dX4_readCommand_53 : decode cX4_readCommand 53 = .ok (.ireturn, 1) := by decide +kernel
theorem dX4_isInRange_0 : decode cX4_isInRange 0 = .ok (.iconst 0, 1) := by decide +kernel
theorem dX4_isInRange_1 : decode cX4_isInRange 1 = .ok (.istore_n 1, 1) := by decide +kernel
theorem dX4_isInRange_2 : decode cX4_isInRange 2 = .ok (.iload_n 1, 1) := by decide +kernel
theorem dX4_isInRange_3 : decode cX4_isInRange 3 = .ok (.aload_n 0, 1) := by decide +kernel
theorem dX4_isInRange_4 : decode cX4_isInRange 4 = .ok (.getfield 36, 3) := by decide +kernel
theorem dX4_isInRange_7 : decode cX4_isInRange 7 = .ok (.if_icmp .ge 23, 3) := by decide +kernel
theorem dX4_isInRange_10 : decode cX4_isInRange 10 = .ok (.aload_n 0, 1) := by decide +kernel
theorem dX4_isInRange_11 : decode cX4_isInRange 11 = .ok (.getfield 15, 3) := by decide +kernel
theorem dX4_isInRange_14 : decode cX4_isInRange 14 = .ok (.iload_n 1, 1) := by decide +kernel
theorem dX4_isInRange_15 : decode cX4_isInRange 15 = .ok (.iaload, 1) := by decide +kernel
theorem dX4_isInRange_16 : decode cX4_isInRange 16 = .ok (.invokestatic 39, 3) := by decide +kernel
theorem dX4_isInRange_19 : decode cX4_isInRange 19 = .ok (.ifCond .ne 5, 3) := by decide +kernel
theorem dX4_isInRange_22 : decode cX4_isInRange 22 = .ok (.iconst 0, 1) := by decide +kernel
theorem dX4_isInRange_23 : decode cX4_isInRange 23 = .ok (.ireturn, 1) := by decide +kernel
theorem dX4_isInRange_24 : decode cX4_isInRange 24 = .ok (.iinc 1 1, 3) := by decide +kernel
theorem dX4_isInRange_27 : decode cX4_isInRange 27 = .ok (.goto (-25), 3) := by decide +kernel
theorem dX4_isInRange_30 : decode cX4_isInRange 30 = .ok (.iconst 1, 1) := by decide +kernel
theorem dX4_isInRange_31 : decode cX4_isInRange 31 = .ok (.ireturn, 1) := by decide +kernel
theorem dX4_isPossible_0 : decode cX4_isPossible 0 = .ok (.aload_n 0, 1) := by decide +kernel
theorem dX4_isPossible_1 : decode cX4_isPossible 1 = .ok (.getfield 18, 3) := by decide +kernel
theorem dX4_isPossible_4 : decode cX4_isPossible 4 = .ok (.ifCond .ne 45, 3) := by decide +kernel
theorem dX4_isPossible_7 : decode cX4_isPossible 7 = .ok (.iload_n 1, 1) := by decide +kernel
theorem dX4_isPossible_8 : decode cX4_isPossible 8 = .ok (.bipush 103, 2) := by decide +kernel
theorem dX4_isPossible_10 : decode cX4_isPossible 10 = .ok (.if_icmp .eq 33, 3) := by decide +kernel
theorem dX4_isPossible_13 : decode cX4_isPossible 13 = .ok (.iload_n 1, 1) := by decide +kernel
theorem dX4_isPossible_14 : decode cX4_isPossible 14 = .ok (.bipush 108, 2) := by decide +kernel
theorem dX4_isPossible_16 : decode cX4_isPossible 16 = .ok (.if_icmp .eq 27, 3) := by decide +kernel
theorem dX4_isPossible_19 : decode cX4_isPossible 19 = .ok (.iload_n 1, 1) := by decide +kernel
theorem dX4_isPossible_20 : decode cX4_isPossible 20 = .ok (.bipush 114, 2) := by decide +kernel
theorem dX4_isPossible_22 : decode cX4_isPossible 22 = .ok (.if_icmp .eq 21, 3) := by decide +kernel
theorem dX4_isPossible_25 : decode cX4_isPossible 25 = .ok (.iload_n 1, 1) := by decide +kernel
theorem dX4_isPossible_26 : decode cX4_isPossible 26 = .ok (.bipush 102, 2) := by decide +kernel
theorem dX4_isPossible_28 : decode cX4_isPossible 28 = .ok (.if_icmp .eq 15, 3) := by decide +kernel
theorem dX4_isPossible_31 : decode cX4_isPossible 31 = .ok (.iload_n 1, 1) := by decide +kernel
theorem dX4_isPossible_32 : decode cX4_isPossible 32 = .ok (.bipush 112, 2) := by decide +kernel
theorem dX4_isPossible_34 : decode cX4_isPossible 34 = .ok (.if_icmp .eq 9, 3) := by decide +kernel
theorem dX4_isPossible_37 : decode cX4_isPossible 37 = .ok (.iload_n 1, 1) := by decide +kernel
theorem dX4_isPossible_38 : decode cX4_isPossible 38 = .ok (.bipush 104, 2) := by decide +kernel
theorem dX4_isPossible_40 : decode cX4_isPossible 40 = .ok (.if_icmp .ne 7, 3) := by decide +kernel
theorem dX4_isPossible_43 : decode cX4_isPossible 43 = .ok (.iconst 1, 1) := by decide +kernel
theorem dX4_isPossible_44 : decode cX4_isPossible 44 = .ok (.goto 4, 3) := by decide +kernel
theorem dX4_isPossible_47 : decode cX4_isPossible 47 = .ok (.iconst 0, 1) := by decide +kernel
theorem dX4_isPossible_48 : decode cX4_isPossible 48 = .ok (.ireturn, 1) := by decide +kernel
theorem dX4_isPossible_49 : decode cX4_isPossible 49 = .ok (.iload_n 1, 1) := by decide +kernel
theorem dX4_isPossible_50 : decode cX4_isPossible 50 = .ok (.bipush 48, 2) := by decide +kernel
theorem dX4_isPossible_52 : decode cX4_isPossible 52 = .ok (.if_icmp .lt 23, 3) := by decide +kernel
theorem dX4_isPossible_55 : decode cX4_isPossible 55 = .ok (.iload_n 1, 1) := by decide +kernel
theorem dX4_isPossible_56 : decode cX4_isPossible 56 = .ok (.bipush 57, 2) := by decide +kernel
theorem dX4_isPossible_58 : decode cX4_isPossible 58 = .ok (.if_icmp .gt 17, 3) := by decide +kernel
theorem dX4_isPossible_61 : decode cX4_isPossible 61 = .ok (.aload_n 0, 1) := by decide +kernel
theorem dX4_isPossible_62 : decode cX4_isPossible 62 = .ok (.getfield 42, 3) := by decide +kernel
theorem dX4_isPossible_65 : decode cX4_isPossible 65 = .ok (.iconst 4, 1) := by decide +kernel
theorem dX4_isPossible_66 : decode cX4_isPossible 66 = .ok (.if_icmp .ge 7, 3) := by decide +kernel
theorem dX4_isPossible_69 : decode cX4_isPossible 69 = .ok (.iconst 1, 1) := by decide +kernel
theorem dX4_isPossible_70 : decode cX4_isPossible 70 = .ok (.goto 4, 3) := by decide +kernel
theorem dX4_isPossible_73 : decode cX4_isPossible 73 = .ok (.iconst 0, 1) := by decide +kernel
theorem dX4_isPossible_74 : decode cX4_isPossible 74 = .ok (.ireturn, 1) := by decide +kernel
theorem dX4_isPossible_75 : decode cX4_isPossible 75 = .ok (.iload_n 1, 1) := by decide +kernel
theorem dX4_isPossible_76 : decode cX4_isPossible 76 = .ok (.lookupswitch 104 #[(44, 56), (45, 36), (59, 80)], 36) := by decide +kernel
theorem dX4_isPossible_112 : decode cX4_isPossible 112 = .ok (.aload_n 0, 1) := by decide +kernel
theorem dX4_isPossible_113 : decode cX4_isPossible 113 = .ok (.getfield 42, 3) := by decide +kernel
theorem dX4_isPossible_116 : decode cX4_isPossible 116 = .ok (.ifCond .ne 14, 3) := by decide +kernel
theorem dX4_isPossible_119 : decode cX4_isPossible 119 = .ok (.aload_n 0, 1) := by decide +kernel
theorem dX4_isPossible_120 : decode cX4_isPossible 120 = .ok (.getfield 45, 3) := by decide +kernel
theorem dX4_isPossible_123 : decode cX4_isPossible 123 = .ok (.ifCond .ne 7, 3) := by decide +kernel
theorem dX4_isPossible_126 : decode cX4_isPossible 126 = .ok (.iconst 1, 1) := by decide +kernel
theorem dX4_isPossible_127 : decode cX4_isPossible 127 = .ok (.goto 4, 3) := by decide +kernel
theorem dX4_isPossible_130 : decode cX4_isPossible 130 = .ok (.iconst 0, 1) := by decide +kernel
theorem dX4_isPossible_131 : decode cX4_isPossible 131 = .ok (.ireturn, 1) := by decide +kernel
theorem dX4_isPossible_132 : decode cX4_isPossible 132 = .ok (.aload_n 0, 1) := by decide +kernel
theorem dX4_isPossible_133 : decode cX4_isPossible 133 = .ok (.getfield 42, 3) := by decide +kernel
theorem dX4_isPossible_136 : decode cX4_isPossible 136 = .ok (.ifCond .le 18, 3) := by decide +kernel
theorem dX4_isPossible_139 : decode cX4_isPossible 139 = .ok (.aload_n 0, 1) := by decide +kernel
theorem dX4_isPossible_140 : decode cX4_isPossible 140 = .ok (.getfield 36, 3) := by decide +kernel
theorem dX4_isPossible_143 : decode cX4_isPossible 143 = .ok (.aload_n 0, 1) := by decide +kernel
theorem dX4_isPossible_144 : decode cX4_isPossible 144 = .ok (.invokevirtual 49, 3) := by decide +kernel
theorem dX4_isPossible_147 : decode cX4_isPossible 147 = .ok (.if_icmp .ge 7, 3) := by decide +kernel
theorem dX4_isPossible_150 : decode cX4_isPossible 150 = .ok (.iconst 1, 1) := by decide +kernel
theorem dX4_isPossible_151 : decode cX4_isPossible 151 = .ok (.goto 4, 3) := by decide +kernel
theorem dX4_isPossible_154 : decode cX4_isPossible 154 = .ok (.iconst 0, 1) := by decide +kernel
theorem dX4_isPossible_155 : decode cX4_isPossible 155 = .ok (.ireturn, 1) := by decide +kernel
theorem dX4_isPossible_156 : decode cX4_isPossible 156 = .ok (.aload_n 0, 1) := by decide +kernel
theorem dX4_isPossible_157 : decode cX4_isPossible 157 = .ok (.getfield 42, 3) := by decide +kernel
theorem dX4_isPossible_160 : decode cX4_isPossible 160 = .ok (.ifCond .le 18, 3) := by decide +kernel
theorem dX4_isPossible_163 : decode cX4_isPossible 163 = .ok (.aload_n 0, 1) := by decide +kernel
theorem dX4_isPossible_164 : decode cX4_isPossible 164 = .ok (.getfield 36, 3) := by decide +kernel
theorem dX4_isPossible_167 : decode cX4_isPossible 167 = .ok (.aload_n 0, 1) := by decide +kernel
theorem dX4_isPossible_168 : decode cX4_isPossible 168 = .ok (.invokevirtual 53, 3) := by decide +kernel
theorem dX4_isPossible_171 : decode cX4_isPossible 171 = .ok (.if_icmp .lt 7, 3) := by decide +kernel
theorem dX4_isPossible_174 : decode cX4_isPossible 174 = .ok (.iconst 1, 1) := by decide +kernel
theorem dX4_isPossible_175 : decode cX4_isPossible 175 = .ok (.goto 4, 3) := by decide +kernel
theorem dX4_isPossible_178 : decode cX4_isPossible 178 = .ok (.iconst 0, 1) := by decide +kernel
theorem dX4_isPossible_179 : decode cX4_isPossible 179 = .ok (.ireturn, 1) := by decide +kernel
theorem dX4_isPossible_180 : decode cX4_isPossible 180 = .ok (.iconst 0, 1) := by decide +kernel
theorem dX4_isPossible_181 : decode cX4_isPossible 181 = .ok (.ireturn, 1) := by decide +kernel
theorem dX4_leastNumbers_0 : decode cX4_leastNumbers 0 = .ok (.aload_n 0, 1) := by decide +kernel
theorem dX4_leastNumbers_1 : decode cX4_leastNumbers 1 = .ok (.getfield 18, 3) := by decide +kernel
theorem dX4_leastNumbers_4 : decode cX4_leastNumbers 4 = .ok (.lookupswitch 40 #[(103, 36), (104, 38), (112, 38)], 36) := by decide +kernel
theorem dX4_leastNumbers_40 : decode cX4_leastNumbers 40 = .ok (.iconst 2, 1) := by decide +kernel
theorem dX4_leastNumbers_41 : decode cX4_leastNumbers 41 = .ok (.ireturn, 1) := by decide +kernel
theorem dX4_leastNumbers_42 : decode cX4_leastNumbers 42 = .ok (.iconst 3, 1) := by decide +kernel
theorem dX4_leastNumbers_43 : decode cX4_leastNumbers 43 = .ok (.ireturn, 1) := by decide +kernel
theorem dX4_leastNumbers_44 : decode cX4_leastNumbers 44 = .ok (.iconst 1, 1) := by decide +kernel
theorem dX4_leastNumbers_45 : decode cX4_leastNumbers 45 = .ok (.ireturn, 1) := by decide +kernel
theorem dX4_mostNumbers_0 : decode cX4_mostNumbers 0 = .ok (.aload_n 0, 1) := by decide +kernel
theorem dX4_mostNumbers_1 : decode cX4_mostNumbers 1 = .ok (.getfield 18, 3) := by decide +kernel
theorem dX4_mostNumbers_4 : decode cX4_mostNumbers 4 = .ok (.lookupswitch 41 #[(103, 36), (104, 38), (112, 38)], 36) := by decide +kernel
theorem dX4_mostNumbers_40 : decode cX4_mostNumbers 40 = .ok (.iconst 2, 1) := by decide +kernel
theorem dX4_mostNumbers_41 : decode cX4_mostNumbers 41 = .ok (.ireturn, 1) := by decide +kernel
theorem dX4_mostNumbers_42 : decode cX4_mostNumbers 42 = .ok (.bipush 12, 2) := by decide +kernel
theorem dX4_mostNumbers_44 : decode cX4_mostNumbers 44 = .ok (.ireturn, 1) := by decide +kernel
theorem dX4_mostNumbers_45 : decode cX4_mostNumbers 45 = .ok (.sipush 160, 3) := by decide +kernel
theorem dX4_mostNumbers_48 : decode cX4_mostNumbers 48 = .ok (.ireturn, 1) := by decide +kernel
theorem dX4_take_0 : decode cX4_take 0 = .ok (.aload_n 0, 1) := by decide +kernel
theorem dX4_take_1 : decode cX4_take 1 = .ok (.getfield 18, 3) := by decide +kernel
theorem dX4_take_4 : decode cX4_take 4 = .ok (.ifCond .ne 20, 3) := by decide +kernel
theorem dX4_take_7 : decode cX4_take 7 = .ok (.aload_n 0, 1) := by decide +kernel
theorem dX4_take_8 : decode cX4_take 8 = .ok (.iload_n 1, 1) := by decide +kernel
theorem dX4_take_9 : decode cX4_take 9 = .ok (.putfield 18, 3) := by decide +kernel
theorem dX4_take_12 : decode cX4_take 12 = .ok (.aload_n 0, 1) := by decide +kernel
theorem dX4_take_13 : decode cX4_take 13 = .ok (.iconst 0, 1) := by decide +kernel
theorem dX4_take_14 : decode cX4_take 14 = .ok (.putfield 36, 3) := by decide +kernel
theorem dX4_take_17 : decode cX4_take 17 = .ok (.aload_n 0, 1) := by decide +kernel
theorem dX4_take_18 : decode cX4_take 18 = .ok (.invokevirtual 56, 3) := by decide +kernel
theorem dX4_take_21 : decode cX4_take 21 = .ok (.goto 91, 3) := by decide +kernel
theorem dX4_take_24 : decode cX4_take 24 = .ok (.iload_n 1, 1) := by decide +kernel
theorem dX4_take_25 : decode cX4_take 25 = .ok (.bipush 44, 2) := by decide +kernel
theorem dX4_take_27 : decode cX4_take 27 = .ok (.if_icmp .ne 10, 3) := by decide +kernel
theorem dX4_take_30 : decode cX4_take 30 = .ok (.aload_n 0, 1) := by decide +kernel
theorem dX4_take_31 : decode cX4_take 31 = .ok (.invokevirtual 56, 3) := by decide +kernel
theorem dX4_take_34 : decode cX4_take 34 = .ok (.goto 78, 3) := by decide +kernel
theorem dX4_take_37 : decode cX4_take 37 = .ok (.iload_n 1, 1) := by decide +kernel
theorem dX4_take_38 : decode cX4_take 38 = .ok (.bipush 45, 2) := by decide +kernel
theorem dX4_take_40 : decode cX4_take 40 = .ok (.if_icmp .ne 11, 3) := by decide +kernel
theorem dX4_take_43 : decode cX4_take 43 = .ok (.aload_n 0, 1) := by decide +kernel
theorem dX4_take_44 : decode cX4_take 44 = .ok (.iconst 1, 1) := by decide +kernel
theorem dX4_take_45 : decode cX4_take 45 = .ok (.putfield 45, 3) := by decide +kernel
theorem dX4_take_48 : decode cX4_take 48 = .ok (.goto 64, 3) := by decide +kernel
theorem dX4_take_51 : decode cX4_take 51 = .ok (.aload_n 0, 1) := by decide +kernel
theorem dX4_take_52 : decode cX4_take 52 = .ok (.getfield 36, 3) := by decide +kernel
theorem dX4_take_55 : decode cX4_take 55 = .ok (.ifCond .le 57, 3) := by decide +kernel
theorem dX4_take_58 : decode cX4_take 58 = .ok (.iload_n 1, 1) := by decide +kernel
theorem dX4_take_59 : decode cX4_take 59 = .ok (.bipush 48, 2) := by decide +kernel
theorem dX4_take_61 : decode cX4_take 61 = .ok (.isub, 1) := by decide +kernel
theorem dX4_take_62 : decode cX4_take 62 = .ok (.istore_n 2, 1) := by decide +kernel
theorem dX4_take_63 : decode cX4_take 63 = .ok (.aload_n 0, 1) := by decide +kernel
theorem dX4_take_64 : decode cX4_take 64 = .ok (.getfield 15, 3) := by decide +kernel
theorem dX4_take_67 : decode cX4_take 67 = .ok (.aload_n 0, 1) := by decide +kernel
theorem dX4_take_68 : decode cX4_take 68 = .ok (.getfield 36, 3) := by decide +kernel
theorem dX4_take_71 : decode cX4_take 71 = .ok (.iconst 1, 1) := by decide +kernel
theorem dX4_take_72 : decode cX4_take 72 = .ok (.isub, 1) := by decide +kernel
theorem dX4_take_73 : decode cX4_take 73 = .ok (.aload_n 0, 1) := by decide +kernel
theorem dX4_take_74 : decode cX4_take 74 = .ok (.getfield 15, 3) := by decide +kernel
theorem dX4_take_77 : decode cX4_take 77 = .ok (.aload_n 0, 1) := by decide +kernel
theorem dX4_take_78 : decode cX4_take 78 = .ok (.getfield 36, 3) := by decide +kernel
theorem dX4_take_81 : decode cX4_take 81 = .ok (.iconst 1, 1) := by decide +kernel
theorem dX4_take_82 : decode cX4_take 82 = .ok (.isub, 1) := by decide +kernel
theorem dX4_take_83 : decode cX4_take 83 = .ok (.iaload, 1) := by decide +kernel
theorem dX4_take_84 : decode cX4_take 84 = .ok (.bipush 10, 2) := by decide +kernel
theorem dX4_take_86 : decode cX4_take 86 = .ok (.imul, 1) := by decide +kernel
theorem dX4_take_87 : decode cX4_take 87 = .ok (.aload_n 0, 1) := by decide +kernel
theorem dX4_take_88 : decode cX4_take 88 = .ok (.getfield 45, 3) := by decide +kernel
theorem dX4_take_91 : decode cX4_take 91 = .ok (.ifCond .eq 8, 3) := by decide +kernel
theorem dX4_take_94 : decode cX4_take 94 = .ok (.iload_n 2, 1) := by decide +kernel
theorem dX4_take_95 : decode cX4_take 95 = .ok (.ineg, 1) := by decide +kernel
theorem dX4_take_96 : decode cX4_take 96 = .ok (.goto 4, 3) := by decide +kernel
theorem dX4_take_99 : decode cX4_take 99 = .ok (.iload_n 2, 1) := by decide +kernel
theorem dX4_take_100 : decode cX4_take 100 = .ok (.iadd, 1) := by decide +kernel
theorem dX4_take_101 : decode cX4_take 101 = .ok (.iastore, 1) := by decide +kernel
theorem dX4_take_102 : decode cX4_take 102 = .ok (.aload_n 0, 1) := by decide +kernel
theorem dX4_take_103 : decode cX4_take 103 = .ok (.dup, 1) := by decide +kernel
theorem dX4_take_104 : decode cX4_take 104 = .ok (.getfield 42, 3) := by decide +kernel
theorem dX4_take_107 : decode cX4_take 107 = .ok (.iconst 1, 1) := by decide +kernel
theorem dX4_take_108 : decode cX4_take 108 = .ok (.iadd, 1) := by decide +kernel
theorem dX4_take_109 : decode cX4_take 109 = .ok (.putfield 42, 3) := by decide +kernel
theorem dX4_take_112 : decode cX4_take 112 = .ok (.return_, 1) := by decide +kernel
theorem dX4_startNumber_0 : decode cX4_startNumber 0 = .ok (.aload_n 0, 1) := by decide +kernel
theorem dX4_startNumber_1 : decode cX4_startNumber 1 = .ok (.getfield 36, 3) := by decide +kernel
theorem dX4_startNumber_4 : decode cX4_startNumber 4 = .ok (.sipush 160, 3) := by decide +kernel
theorem dX4_startNumber_7 : decode cX4_startNumber 7 = .ok (.if_icmp .ge 23, 3) := by decide +kernel
theorem dX4_startNumber_10 : decode cX4_startNumber 10 = .ok (.aload_n 0, 1) := by decide +kernel
theorem dX4_startNumber_11 : decode cX4_startNumber 11 = .ok (.getfield 15, 3) := by decide +kernel
theorem dX4_startNumber_14 : decode cX4_startNumber 14 = .ok (.aload_n 0, 1) := by decide +kernel
theorem dX4_startNumber_15 : decode cX4_startNumber 15 = .ok (.getfield 36, 3) := by decide +kernel
theorem dX4_startNumber_18 : decode cX4_startNumber 18 = .ok (.iconst 0, 1) := by decide +kernel
theorem dX4_startNumber_19 : decode cX4_startNumber 19 = .ok (.iastore, 1) := by decide +kernel
theorem dX4_startNumber_20 : decode cX4_startNumber 20 = .ok (.aload_n 0, 1) := by decide +kernel
theorem dX4_startNumber_21 : decode cX4_startNumber 21 = .ok (.dup, 1) := by decide +kernel
theorem dX4_startNumber_22 : decode cX4_startNumber 22 = .ok (.getfield 36, 3) := by decide +kernel
theorem dX4_startNumber_25 : decode cX4_startNumber 25 = .ok (.iconst 1, 1) := by decide +kernel
theorem dX4_startNumber_26 : decode cX4_startNumber 26 = .ok (.iadd, 1) := by decide +kernel
theorem dX4_startNumber_27 : decode cX4_startNumber 27 = .ok (.putfield 36, 3) := by decide +kernel
theorem dX4_startNumber_30 : decode cX4_startNumber 30 = .ok (.aload_n 0, 1) := by decide +kernel
theorem dX4_startNumber_31 : decode cX4_startNumber 31 = .ok (.iconst 0, 1) := by decide +kernel
theorem dX4_startNumber_32 : decode cX4_startNumber 32 = .ok (.putfield 42, 3) := by decide +kernel
theorem dX4_startNumber_35 : decode cX4_startNumber 35 = .ok (.aload_n 0, 1) := by decide +kernel
theorem dX4_startNumber_36 : decode cX4_startNumber 36 = .ok (.iconst 0, 1) := by decide +kernel
theorem dX4_startNumber_37 : decode cX4_startNumber 37 = .ok (.putfield 45, 3) := by decide +kernel
theorem dX4_startNumber_40 : decode cX4_startNumber 40 = .ok (.return_, 1) := by decide +kernel
