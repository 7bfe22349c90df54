theorem d_Bus_init_0 : decode b_Bus_init 0 = .ok (.aload_n 0, 1) := by decide +kernel
theorem d_Bus_init_1 : decode b_Bus_init 1 = .ok (.invokespecial 1, 3) := by decide +kernel
theorem d_Bus_init_4 : decode b_Bus_init 4 = .ok (.aload_n 0, 1) := by decide +kernel
theorem d_Bus_init_5 : decode b_Bus_init 5 = .ok (.bipush 6, 2) := by decide +kernel
theorem d_Bus_init_7 : decode b_Bus_init 7 = .ok (.anewarray 9, 3) := by decide +kernel
theorem d_Bus_init_10 : decode b_Bus_init 10 = .ok (.putfield 11, 3) := by decide +kernel
theorem d_Bus_init_13 : decode b_Bus_init 13 = .ok (.aload_n 0, 1) := by decide +kernel
theorem d_Bus_init_14 : decode b_Bus_init 14 = .ok (.bipush 6, 2) := by decide +kernel
theorem d_Bus_init_16 : decode b_Bus_init 16 = .ok (.anewarray 15, 3) := by decide +kernel
theorem d_Bus_init_19 : decode b_Bus_init 19 = .ok (.putfield 17, 3) := by decide +kernel
theorem d_Bus_init_22 : decode b_Bus_init 22 = .ok (.aload_n 0, 1) := by decide +kernel
theorem d_Bus_init_23 : decode b_Bus_init 23 = .ok (.iconst 4, 1) := by decide +kernel
theorem d_Bus_init_24 : decode b_Bus_init 24 = .ok (.anewarray 21, 3) := by decide +kernel
theorem d_Bus_init_27 : decode b_Bus_init 27 = .ok (.putfield 23, 3) := by decide +kernel
theorem d_Bus_init_30 : decode b_Bus_init 30 = .ok (.aload_n 0, 1) := by decide +kernel
theorem d_Bus_init_31 : decode b_Bus_init 31 = .ok (.bipush 6, 2) := by decide +kernel
theorem d_Bus_init_33 : decode b_Bus_init 33 = .ok (.anewarray 27, 3) := by decide +kernel
theorem d_Bus_init_36 : decode b_Bus_init 36 = .ok (.putfield 29, 3) := by decide +kernel
theorem d_Bus_init_39 : decode b_Bus_init 39 = .ok (.aload_n 0, 1) := by decide +kernel
theorem d_Bus_init_40 : decode b_Bus_init 40 = .ok (.new 33, 3) := by decide +kernel
theorem d_Bus_init_43 : decode b_Bus_init 43 = .ok (.dup, 1) := by decide +kernel
theorem d_Bus_init_44 : decode b_Bus_init 44 = .ok (.invokespecial 35, 3) := by decide +kernel
theorem d_Bus_init_47 : decode b_Bus_init 47 = .ok (.putfield 36, 3) := by decide +kernel
theorem d_Bus_init_50 : decode b_Bus_init 50 = .ok (.aload_n 0, 1) := by decide +kernel
theorem d_Bus_init_51 : decode b_Bus_init 51 = .ok (.new 40, 3) := by decide +kernel
theorem d_Bus_init_54 : decode b_Bus_init 54 = .ok (.dup, 1) := by decide +kernel
theorem d_Bus_init_55 : decode b_Bus_init 55 = .ok (.invokespecial 42, 3) := by decide +kernel
theorem d_Bus_init_58 : decode b_Bus_init 58 = .ok (.putfield 43, 3) := by decide +kernel
theorem d_Bus_init_61 : decode b_Bus_init 61 = .ok (.aload_n 0, 1) := by decide +kernel
theorem d_Bus_init_62 : decode b_Bus_init 62 = .ok (.iconst 0, 1) := by decide +kernel
theorem d_Bus_init_63 : decode b_Bus_init 63 = .ok (.putfield 47, 3) := by decide +kernel
theorem d_Bus_init_66 : decode b_Bus_init 66 = .ok (.aload_n 0, 1) := by decide +kernel
theorem d_Bus_init_67 : decode b_Bus_init 67 = .ok (.iconst 0, 1) := by decide +kernel
theorem d_Bus_init_68 : decode b_Bus_init 68 = .ok (.putfield 51, 3) := by decide +kernel
theorem d_Bus_init_71 : decode b_Bus_init 71 = .ok (.aload_n 0, 1) := by decide +kernel
theorem d_Bus_init_72 : decode b_Bus_init 72 = .ok (.iconst 0, 1) := by decide +kernel
theorem d_Bus_init_73 : decode b_Bus_init 73 = .ok (.putfield 54, 3) := by decide +kernel
theorem d_Bus_init_76 : decode b_Bus_init 76 = .ok (.aload_n 0, 1) := by decide +kernel
theorem d_Bus_init_77 : decode b_Bus_init 77 = .ok (.iconst 0, 1) := by decide +kernel
theorem d_Bus_init_78 : decode b_Bus_init 78 = .ok (.putfield 57, 3) := by decide +kernel
theorem d_Bus_init_81 : decode b_Bus_init 81 = .ok (.aload_n 0, 1) := by decide +kernel
theorem d_Bus_init_82 : decode b_Bus_init 82 = .ok (.iconst 0, 1) := by decide +kernel
theorem d_Bus_init_83 : decode b_Bus_init 83 = .ok (.putfield 60, 3) := by decide +kernel
theorem d_Bus_init_86 : decode b_Bus_init 86 = .ok (.aload_n 0, 1) := by decide +kernel
theorem d_Bus_init_87 : decode b_Bus_init 87 = .ok (.iconst 0, 1) := by decide +kernel
theorem d_Bus_init_88 : decode b_Bus_init 88 = .ok (.putfield 63, 3) := by decide +kernel
theorem d_Bus_init_91 : decode b_Bus_init 91 = .ok (.aload_n 0, 1) := by decide +kernel
theorem d_Bus_init_92 : decode b_Bus_init 92 = .ok (.dconst 0, 1) := by decide +kernel
theorem d_Bus_init_93 : decode b_Bus_init 93 = .ok (.putfield 66, 3) := by decide +kernel
theorem d_Bus_init_96 : decode b_Bus_init 96 = .ok (.iconst 0, 1) := by decide +kernel
theorem d_Bus_init_97 : decode b_Bus_init 97 = .ok (.istore_n 1, 1) := by decide +kernel
theorem d_Bus_init_98 : decode b_Bus_init 98 = .ok (.iload_n 1, 1) := by decide +kernel
theorem d_Bus_init_99 : decode b_Bus_init 99 = .ok (.bipush 6, 2) := by decide +kernel
theorem d_Bus_init_101 : decode b_Bus_init 101 = .ok (.if_icmp .ge 22, 3) := by decide +kernel
theorem d_Bus_init_104 : decode b_Bus_init 104 = .ok (.aload_n 0, 1) := by decide +kernel
theorem d_Bus_init_105 : decode b_Bus_init 105 = .ok (.getfield 11, 3) := by decide +kernel
theorem d_Bus_init_108 : decode b_Bus_init 108 = .ok (.iload_n 1, 1) := by decide +kernel
theorem d_Bus_init_109 : decode b_Bus_init 109 = .ok (.new 9, 3) := by decide +kernel
theorem d_Bus_init_112 : decode b_Bus_init 112 = .ok (.dup, 1) := by decide +kernel
theorem d_Bus_init_113 : decode b_Bus_init 113 = .ok (.invokespecial 70, 3) := by decide +kernel
theorem d_Bus_init_116 : decode b_Bus_init 116 = .ok (.aastore, 1) := by decide +kernel
theorem d_Bus_init_117 : decode b_Bus_init 117 = .ok (.iinc 1 1, 3) := by decide +kernel
theorem d_Bus_init_120 : decode b_Bus_init 120 = .ok (.goto (-22), 3) := by decide +kernel
theorem d_Bus_init_123 : decode b_Bus_init 123 = .ok (.iconst 0, 1) := by decide +kernel
theorem d_Bus_init_124 : decode b_Bus_init 124 = .ok (.istore_n 1, 1) := by decide +kernel
theorem d_Bus_init_125 : decode b_Bus_init 125 = .ok (.iload_n 1, 1) := by decide +kernel
theorem d_Bus_init_126 : decode b_Bus_init 126 = .ok (.bipush 6, 2) := by decide +kernel
theorem d_Bus_init_128 : decode b_Bus_init 128 = .ok (.if_icmp .ge 22, 3) := by decide +kernel
theorem d_Bus_init_131 : decode b_Bus_init 131 = .ok (.aload_n 0, 1) := by decide +kernel
theorem d_Bus_init_132 : decode b_Bus_init 132 = .ok (.getfield 17, 3) := by decide +kernel
theorem d_Bus_init_135 : decode b_Bus_init 135 = .ok (.iload_n 1, 1) := by decide +kernel
theorem d_Bus_init_136 : decode b_Bus_init 136 = .ok (.new 15, 3) := by decide +kernel
theorem d_Bus_init_139 : decode b_Bus_init 139 = .ok (.dup, 1) := by decide +kernel
theorem d_Bus_init_140 : decode b_Bus_init 140 = .ok (.invokespecial 71, 3) := by decide +kernel
theorem d_Bus_init_143 : decode b_Bus_init 143 = .ok (.aastore, 1) := by decide +kernel
theorem d_Bus_init_144 : decode b_Bus_init 144 = .ok (.iinc 1 1, 3) := by decide +kernel
theorem d_Bus_init_147 : decode b_Bus_init 147 = .ok (.goto (-22), 3) := by decide +kernel
theorem d_Bus_init_150 : decode b_Bus_init 150 = .ok (.iconst 0, 1) := by decide +kernel
theorem d_Bus_init_151 : decode b_Bus_init 151 = .ok (.istore_n 1, 1) := by decide +kernel
theorem d_Bus_init_152 : decode b_Bus_init 152 = .ok (.iload_n 1, 1) := by decide +kernel
theorem d_Bus_init_153 : decode b_Bus_init 153 = .ok (.iconst 4, 1) := by decide +kernel
theorem d_Bus_init_154 : decode b_Bus_init 154 = .ok (.if_icmp .ge 22, 3) := by decide +kernel
theorem d_Bus_init_157 : decode b_Bus_init 157 = .ok (.aload_n 0, 1) := by decide +kernel
theorem d_Bus_init_158 : decode b_Bus_init 158 = .ok (.getfield 23, 3) := by decide +kernel
theorem d_Bus_init_161 : decode b_Bus_init 161 = .ok (.iload_n 1, 1) := by decide +kernel
theorem d_Bus_init_162 : decode b_Bus_init 162 = .ok (.new 21, 3) := by decide +kernel
theorem d_Bus_init_165 : decode b_Bus_init 165 = .ok (.dup, 1) := by decide +kernel
theorem d_Bus_init_166 : decode b_Bus_init 166 = .ok (.invokespecial 72, 3) := by decide +kernel
theorem d_Bus_init_169 : decode b_Bus_init 169 = .ok (.aastore, 1) := by decide +kernel
theorem d_Bus_init_170 : decode b_Bus_init 170 = .ok (.iinc 1 1, 3) := by decide +kernel
theorem d_Bus_init_173 : decode b_Bus_init 173 = .ok (.goto (-21), 3) := by decide +kernel
theorem d_Bus_init_176 : decode b_Bus_init 176 = .ok (.iconst 0, 1) := by decide +kernel
theorem d_Bus_init_177 : decode b_Bus_init 177 = .ok (.istore_n 1, 1) := by decide +kernel
theorem d_Bus_init_178 : decode b_Bus_init 178 = .ok (.iload_n 1, 1) := by decide +kernel
theorem d_Bus_init_179 : decode b_Bus_init 179 = .ok (.bipush 6, 2) := by decide +kernel
theorem d_Bus_init_181 : decode b_Bus_init 181 = .ok (.if_icmp .ge 22, 3) := by decide +kernel
theorem d_Bus_init_184 : decode b_Bus_init 184 = .ok (.aload_n 0, 1) := by decide +kernel
theorem d_Bus_init_185 : decode b_Bus_init 185 = .ok (.getfield 29, 3) := by decide +kernel
theorem d_Bus_init_188 : decode b_Bus_init 188 = .ok (.iload_n 1, 1) := by decide +kernel
theorem d_Bus_init_189 : decode b_Bus_init 189 = .ok (.new 27, 3) := by decide +kernel
theorem d_Bus_init_192 : decode b_Bus_init 192 = .ok (.dup, 1) := by decide +kernel
theorem d_Bus_init_193 : decode b_Bus_init 193 = .ok (.invokespecial 73, 3) := by decide +kernel
theorem d_Bus_init_196 : decode b_Bus_init 196 = .ok (.aastore, 1) := by decide +kernel
theorem d_Bus_init_197 : decode b_Bus_init 197 = .ok (.iinc 1 1, 3) := by decide +kernel
theorem d_Bus_init_200 : decode b_Bus_init 200 = .ok (.goto (-22), 3) := by decide +kernel
theorem d_Bus_init_203 : decode b_Bus_init 203 = .ok (.return_, 1) := by decide +kernel
theorem d_Bus_lastY_0 : decode b_Bus_lastY 0 = .ok (.aload_n 0, 1) := by decide +kernel
theorem d_Bus_lastY_1 : decode b_Bus_lastY 1 = .ok (.getfield 66, 3) := by decide +kernel
theorem d_Bus_lastY_4 : decode b_Bus_lastY 4 = .ok (.dreturn, 1) := by decide +kernel
theorem d_Bus_join_0 : decode b_Bus_join 0 = .ok (.iload_n 1, 1) := by decide +kernel
theorem d_Bus_join_1 : decode b_Bus_join 1 = .ok (.bipush 6, 2) := by decide +kernel
theorem d_Bus_join_3 : decode b_Bus_join 3 = .ok (.invokestatic 74, 3) := by decide +kernel
theorem d_Bus_join_6 : decode b_Bus_join 6 = .ok (.ifCond .ne 13, 3) := by decide +kernel
theorem d_Bus_join_9 : decode b_Bus_join 9 = .ok (.new 78, 3) := by decide +kernel
theorem d_Bus_join_12 : decode b_Bus_join 12 = .ok (.dup, 1) := by decide +kernel
theorem d_Bus_join_13 : decode b_Bus_join 13 = .ok (.ldc 80, 2) := by decide +kernel
theorem d_Bus_join_15 : decode b_Bus_join 15 = .ok (.invokespecial 82, 3) := by decide +kernel
theorem d_Bus_join_18 : decode b_Bus_join 18 = .ok (.athrow, 1) := by decide +kernel
theorem d_Bus_join_19 : decode b_Bus_join 19 = .ok (.aload_n 0, 1) := by decide +kernel
theorem d_Bus_join_20 : decode b_Bus_join 20 = .ok (.getfield 11, 3) := by decide +kernel
theorem d_Bus_join_23 : decode b_Bus_join 23 = .ok (.iload_n 1, 1) := by decide +kernel
theorem d_Bus_join_24 : decode b_Bus_join 24 = .ok (.aaload, 1) := by decide +kernel
theorem d_Bus_join_25 : decode b_Bus_join 25 = .ok (.getfield 85, 3) := by decide +kernel
theorem d_Bus_join_28 : decode b_Bus_join 28 = .ok (.ifCond .eq 13, 3) := by decide +kernel
theorem d_Bus_join_31 : decode b_Bus_join 31 = .ok (.new 89, 3) := by decide +kernel
theorem d_Bus_join_34 : decode b_Bus_join 34 = .ok (.dup, 1) := by decide +kernel
theorem d_Bus_join_35 : decode b_Bus_join 35 = .ok (.ldc 91, 2) := by decide +kernel
theorem d_Bus_join_37 : decode b_Bus_join 37 = .ok (.invokespecial 93, 3) := by decide +kernel
theorem d_Bus_join_40 : decode b_Bus_join 40 = .ok (.athrow, 1) := by decide +kernel
theorem d_Bus_join_41 : decode b_Bus_join 41 = .ok (.aload_n 0, 1) := by decide +kernel
theorem d_Bus_join_42 : decode b_Bus_join 42 = .ok (.getfield 11, 3) := by decide +kernel
theorem d_Bus_join_45 : decode b_Bus_join 45 = .ok (.iload_n 1, 1) := by decide +kernel
theorem d_Bus_join_46 : decode b_Bus_join 46 = .ok (.aaload, 1) := by decide +kernel
theorem d_Bus_join_47 : decode b_Bus_join 47 = .ok (.iconst 1, 1) := by decide +kernel
theorem d_Bus_join_48 : decode b_Bus_join 48 = .ok (.putfield 85, 3) := by decide +kernel
theorem d_Bus_join_51 : decode b_Bus_join 51 = .ok (.iconst 1, 1) := by decide +kernel
theorem d_Bus_join_52 : decode b_Bus_join 52 = .ok (.ireturn, 1) := by decide +kernel
theorem d_Bus_isBelow_0 : decode b_Bus_isBelow 0 = .ok (.iload_n 0, 1) := by decide +kernel
theorem d_Bus_isBelow_1 : decode b_Bus_isBelow 1 = .ok (.ifCond .lt 12, 3) := by decide +kernel
theorem d_Bus_isBelow_4 : decode b_Bus_isBelow 4 = .ok (.iload_n 0, 1) := by decide +kernel
theorem d_Bus_isBelow_5 : decode b_Bus_isBelow 5 = .ok (.iload_n 1, 1) := by decide +kernel
theorem d_Bus_isBelow_6 : decode b_Bus_isBelow 6 = .ok (.if_icmp .ge 7, 3) := by decide +kernel
theorem d_Bus_isBelow_9 : decode b_Bus_isBelow 9 = .ok (.iconst 1, 1) := by decide +kernel
theorem d_Bus_isBelow_10 : decode b_Bus_isBelow 10 = .ok (.goto 4, 3) := by decide +kernel
theorem d_Bus_isBelow_13 : decode b_Bus_isBelow 13 = .ok (.iconst 0, 1) := by decide +kernel
theorem d_Bus_isBelow_14 : decode b_Bus_isBelow 14 = .ok (.ireturn, 1) := by decide +kernel
theorem d_Bus_leave_0 : decode b_Bus_leave 0 = .ok (.aload_n 0, 1) := by decide +kernel
theorem d_Bus_leave_1 : decode b_Bus_leave 1 = .ok (.iload_n 1, 1) := by decide +kernel
theorem d_Bus_leave_2 : decode b_Bus_leave 2 = .ok (.invokevirtual 94, 3) := by decide +kernel
theorem d_Bus_leave_5 : decode b_Bus_leave 5 = .ok (.ifCond .ne 13, 3) := by decide +kernel
theorem d_Bus_leave_8 : decode b_Bus_leave 8 = .ok (.new 98, 3) := by decide +kernel
theorem d_Bus_leave_11 : decode b_Bus_leave 11 = .ok (.dup, 1) := by decide +kernel
theorem d_Bus_leave_12 : decode b_Bus_leave 12 = .ok (.ldc 100, 2) := by decide +kernel
theorem d_Bus_leave_14 : decode b_Bus_leave 14 = .ok (.invokespecial 102, 3) := by decide +kernel
theorem d_Bus_leave_17 : decode b_Bus_leave 17 = .ok (.athrow, 1) := by decide +kernel
theorem d_Bus_leave_18 : decode b_Bus_leave 18 = .ok (.iconst 0, 1) := by decide +kernel
theorem d_Bus_leave_19 : decode b_Bus_leave 19 = .ok (.istore_n 2, 1) := by decide +kernel
theorem d_Bus_leave_20 : decode b_Bus_leave 20 = .ok (.iload_n 2, 1) := by decide +kernel
theorem d_Bus_leave_21 : decode b_Bus_leave 21 = .ok (.iconst 4, 1) := by decide +kernel
theorem d_Bus_leave_22 : decode b_Bus_leave 22 = .ok (.if_icmp .ge 32, 3) := by decide +kernel
theorem d_Bus_leave_25 : decode b_Bus_leave 25 = .ok (.aload_n 0, 1) := by decide +kernel
theorem d_Bus_leave_26 : decode b_Bus_leave 26 = .ok (.getfield 23, 3) := by decide +kernel
theorem d_Bus_leave_29 : decode b_Bus_leave 29 = .ok (.iload_n 2, 1) := by decide +kernel
theorem d_Bus_leave_30 : decode b_Bus_leave 30 = .ok (.aaload, 1) := by decide +kernel
theorem d_Bus_leave_31 : decode b_Bus_leave 31 = .ok (.getfield 103, 3) := by decide +kernel
theorem d_Bus_leave_34 : decode b_Bus_leave 34 = .ok (.iload_n 1, 1) := by decide +kernel
theorem d_Bus_leave_35 : decode b_Bus_leave 35 = .ok (.if_icmp .ne 13, 3) := by decide +kernel
theorem d_Bus_leave_38 : decode b_Bus_leave 38 = .ok (.aload_n 0, 1) := by decide +kernel
theorem d_Bus_leave_39 : decode b_Bus_leave 39 = .ok (.getfield 23, 3) := by decide +kernel
theorem d_Bus_leave_42 : decode b_Bus_leave 42 = .ok (.iload_n 2, 1) := by decide +kernel
theorem d_Bus_leave_43 : decode b_Bus_leave 43 = .ok (.aaload, 1) := by decide +kernel
theorem d_Bus_leave_44 : decode b_Bus_leave 44 = .ok (.iconst (-1), 1) := by decide +kernel
theorem d_Bus_leave_45 : decode b_Bus_leave 45 = .ok (.putfield 103, 3) := by decide +kernel
theorem d_Bus_leave_48 : decode b_Bus_leave 48 = .ok (.iinc 2 1, 3) := by decide +kernel
theorem d_Bus_leave_51 : decode b_Bus_leave 51 = .ok (.goto (-31), 3) := by decide +kernel
theorem d_Bus_leave_54 : decode b_Bus_leave 54 = .ok (.aload_n 0, 1) := by decide +kernel
theorem d_Bus_leave_55 : decode b_Bus_leave 55 = .ok (.getfield 11, 3) := by decide +kernel
theorem d_Bus_leave_58 : decode b_Bus_leave 58 = .ok (.iload_n 1, 1) := by decide +kernel
theorem d_Bus_leave_59 : decode b_Bus_leave 59 = .ok (.aaload, 1) := by decide +kernel
theorem d_Bus_leave_60 : decode b_Bus_leave 60 = .ok (.invokevirtual 106, 3) := by decide +kernel
theorem d_Bus_leave_63 : decode b_Bus_leave 63 = .ok (.ireturn, 1) := by decide +kernel
theorem d_Bus_isThere_0 : decode b_Bus_isThere 0 = .ok (.iload_n 1, 1) := by decide +kernel
theorem d_Bus_isThere_1 : decode b_Bus_isThere 1 = .ok (.bipush 6, 2) := by decide +kernel
theorem d_Bus_isThere_3 : decode b_Bus_isThere 3 = .ok (.invokestatic 74, 3) := by decide +kernel
theorem d_Bus_isThere_6 : decode b_Bus_isThere 6 = .ok (.ifCond .eq 19, 3) := by decide +kernel
theorem d_Bus_isThere_9 : decode b_Bus_isThere 9 = .ok (.aload_n 0, 1) := by decide +kernel
theorem d_Bus_isThere_10 : decode b_Bus_isThere 10 = .ok (.getfield 11, 3) := by decide +kernel
theorem d_Bus_isThere_13 : decode b_Bus_isThere 13 = .ok (.iload_n 1, 1) := by decide +kernel
theorem d_Bus_isThere_14 : decode b_Bus_isThere 14 = .ok (.aaload, 1) := by decide +kernel
theorem d_Bus_isThere_15 : decode b_Bus_isThere 15 = .ok (.getfield 85, 3) := by decide +kernel
theorem d_Bus_isThere_18 : decode b_Bus_isThere 18 = .ok (.ifCond .eq 7, 3) := by decide +kernel
theorem d_Bus_isThere_21 : decode b_Bus_isThere 21 = .ok (.iconst 1, 1) := by decide +kernel
theorem d_Bus_isThere_22 : decode b_Bus_isThere 22 = .ok (.goto 4, 3) := by decide +kernel
theorem d_Bus_isThere_25 : decode b_Bus_isThere 25 = .ok (.iconst 0, 1) := by decide +kernel
theorem d_Bus_isThere_26 : decode b_Bus_isThere 26 = .ok (.ireturn, 1) := by decide +kernel
theorem d_Bus_latch_0 : decode b_Bus_latch 0 = .ok (.iload_n 1, 1) := by decide +kernel
theorem d_Bus_latch_1 : decode b_Bus_latch 1 = .ok (.bipush 6, 2) := by decide +kernel
theorem d_Bus_latch_3 : decode b_Bus_latch 3 = .ok (.invokestatic 74, 3) := by decide +kernel
theorem d_Bus_latch_6 : decode b_Bus_latch 6 = .ok (.ifCond .ne 13, 3) := by decide +kernel
theorem d_Bus_latch_9 : decode b_Bus_latch 9 = .ok (.new 78, 3) := by decide +kernel
theorem d_Bus_latch_12 : decode b_Bus_latch 12 = .ok (.dup, 1) := by decide +kernel
theorem d_Bus_latch_13 : decode b_Bus_latch 13 = .ok (.ldc 110, 2) := by decide +kernel
theorem d_Bus_latch_15 : decode b_Bus_latch 15 = .ok (.invokespecial 82, 3) := by decide +kernel
theorem d_Bus_latch_18 : decode b_Bus_latch 18 = .ok (.athrow, 1) := by decide +kernel
theorem d_Bus_latch_19 : decode b_Bus_latch 19 = .ok (.aload_n 0, 1) := by decide +kernel
theorem d_Bus_latch_20 : decode b_Bus_latch 20 = .ok (.getfield 17, 3) := by decide +kernel
theorem d_Bus_latch_23 : decode b_Bus_latch 23 = .ok (.iload_n 1, 1) := by decide +kernel
theorem d_Bus_latch_24 : decode b_Bus_latch 24 = .ok (.aaload, 1) := by decide +kernel
theorem d_Bus_latch_25 : decode b_Bus_latch 25 = .ok (.getfield 112, 3) := by decide +kernel
theorem d_Bus_latch_28 : decode b_Bus_latch 28 = .ok (.iload_n 2, 1) := by decide +kernel
theorem d_Bus_latch_29 : decode b_Bus_latch 29 = .ok (.if_icmp .eq 7, 3) := by decide +kernel
theorem d_Bus_latch_32 : decode b_Bus_latch 32 = .ok (.iconst 1, 1) := by decide +kernel
theorem d_Bus_latch_33 : decode b_Bus_latch 33 = .ok (.goto 4, 3) := by decide +kernel
theorem d_Bus_latch_36 : decode b_Bus_latch 36 = .ok (.iconst 0, 1) := by decide +kernel
theorem d_Bus_latch_37 : decode b_Bus_latch 37 = .ok (.istore_n 3, 1) := by decide +kernel
theorem d_Bus_latch_38 : decode b_Bus_latch 38 = .ok (.aload_n 0, 1) := by decide +kernel
theorem d_Bus_latch_39 : decode b_Bus_latch 39 = .ok (.getfield 17, 3) := by decide +kernel
theorem d_Bus_latch_42 : decode b_Bus_latch 42 = .ok (.iload_n 1, 1) := by decide +kernel
theorem d_Bus_latch_43 : decode b_Bus_latch 43 = .ok (.aaload, 1) := by decide +kernel
theorem d_Bus_latch_44 : decode b_Bus_latch 44 = .ok (.iload_n 2, 1) := by decide +kernel
theorem d_Bus_latch_45 : decode b_Bus_latch 45 = .ok (.putfield 112, 3) := by decide +kernel
theorem d_Bus_latch_48 : decode b_Bus_latch 48 = .ok (.iload_n 3, 1) := by decide +kernel
theorem d_Bus_latch_49 : decode b_Bus_latch 49 = .ok (.ifCond .eq 7, 3) := by decide +kernel
theorem d_Bus_latch_52 : decode b_Bus_latch 52 = .ok (.iconst 1, 1) := by decide +kernel
theorem d_Bus_latch_53 : decode b_Bus_latch 53 = .ok (.goto 4, 3) := by decide +kernel
theorem d_Bus_latch_56 : decode b_Bus_latch 56 = .ok (.iconst 0, 1) := by decide +kernel
theorem d_Bus_latch_57 : decode b_Bus_latch 57 = .ok (.ireturn, 1) := by decide +kernel
theorem d_Bus_subscribe_0 : decode b_Bus_subscribe 0 = .ok (.aload_n 0, 1) := by decide +kernel
theorem d_Bus_subscribe_1 : decode b_Bus_subscribe 1 = .ok (.iload_n 1, 1) := by decide +kernel
theorem d_Bus_subscribe_2 : decode b_Bus_subscribe 2 = .ok (.invokevirtual 94, 3) := by decide +kernel
theorem d_Bus_subscribe_5 : decode b_Bus_subscribe 5 = .ok (.ifCond .ne 13, 3) := by decide +kernel
theorem d_Bus_subscribe_8 : decode b_Bus_subscribe 8 = .ok (.new 98, 3) := by decide +kernel
theorem d_Bus_subscribe_11 : decode b_Bus_subscribe 11 = .ok (.dup, 1) := by decide +kernel
theorem d_Bus_subscribe_12 : decode b_Bus_subscribe 12 = .ok (.ldc 100, 2) := by decide +kernel
theorem d_Bus_subscribe_14 : decode b_Bus_subscribe 14 = .ok (.invokespecial 102, 3) := by decide +kernel
theorem d_Bus_subscribe_17 : decode b_Bus_subscribe 17 = .ok (.athrow, 1) := by decide +kernel
theorem d_Bus_subscribe_18 : decode b_Bus_subscribe 18 = .ok (.iload_n 2, 1) := by decide +kernel
theorem d_Bus_subscribe_19 : decode b_Bus_subscribe 19 = .ok (.bipush 6, 2) := by decide +kernel
theorem d_Bus_subscribe_21 : decode b_Bus_subscribe 21 = .ok (.invokestatic 74, 3) := by decide +kernel
theorem d_Bus_subscribe_24 : decode b_Bus_subscribe 24 = .ok (.ifCond .eq 12, 3) := by decide +kernel
theorem d_Bus_subscribe_27 : decode b_Bus_subscribe 27 = .ok (.iload_n 3, 1) := by decide +kernel
theorem d_Bus_subscribe_28 : decode b_Bus_subscribe 28 = .ok (.iconst 1, 1) := by decide +kernel
theorem d_Bus_subscribe_29 : decode b_Bus_subscribe 29 = .ok (.iconst 4, 1) := by decide +kernel
theorem d_Bus_subscribe_30 : decode b_Bus_subscribe 30 = .ok (.invokestatic 115, 3) := by decide +kernel
theorem d_Bus_subscribe_33 : decode b_Bus_subscribe 33 = .ok (.ifCond .ne 13, 3) := by decide +kernel
theorem d_Bus_subscribe_36 : decode b_Bus_subscribe 36 = .ok (.new 78, 3) := by decide +kernel
theorem d_Bus_subscribe_39 : decode b_Bus_subscribe 39 = .ok (.dup, 1) := by decide +kernel
theorem d_Bus_subscribe_40 : decode b_Bus_subscribe 40 = .ok (.ldc 119, 2) := by decide +kernel
theorem d_Bus_subscribe_42 : decode b_Bus_subscribe 42 = .ok (.invokespecial 82, 3) := by decide +kernel
theorem d_Bus_subscribe_45 : decode b_Bus_subscribe 45 = .ok (.athrow, 1) := by decide +kernel
theorem d_Bus_subscribe_46 : decode b_Bus_subscribe 46 = .ok (.aload_n 0, 1) := by decide +kernel
theorem d_Bus_subscribe_47 : decode b_Bus_subscribe 47 = .ok (.getfield 11, 3) := by decide +kernel
theorem d_Bus_subscribe_50 : decode b_Bus_subscribe 50 = .ok (.iload_n 1, 1) := by decide +kernel
theorem d_Bus_subscribe_51 : decode b_Bus_subscribe 51 = .ok (.aaload, 1) := by decide +kernel
theorem d_Bus_subscribe_52 : decode b_Bus_subscribe 52 = .ok (.getfield 121, 3) := by decide +kernel
theorem d_Bus_subscribe_55 : decode b_Bus_subscribe 55 = .ok (.iload_n 2, 1) := by decide +kernel
theorem d_Bus_subscribe_56 : decode b_Bus_subscribe 56 = .ok (.aaload, 1) := by decide +kernel
theorem d_Bus_subscribe_57 : decode b_Bus_subscribe 57 = .ok (.astore 4, 2) := by decide +kernel
theorem d_Bus_subscribe_59 : decode b_Bus_subscribe 59 = .ok (.aload 4, 2) := by decide +kernel
theorem d_Bus_subscribe_61 : decode b_Bus_subscribe 61 = .ok (.invokevirtual 125, 3) := by decide +kernel
theorem d_Bus_subscribe_64 : decode b_Bus_subscribe 64 = .ok (.ifCond .ne 7, 3) := by decide +kernel
theorem d_Bus_subscribe_67 : decode b_Bus_subscribe 67 = .ok (.iconst 1, 1) := by decide +kernel
theorem d_Bus_subscribe_68 : decode b_Bus_subscribe 68 = .ok (.goto 4, 3) := by decide +kernel
theorem d_Bus_subscribe_71 : decode b_Bus_subscribe 71 = .ok (.iconst 0, 1) := by decide +kernel
theorem d_Bus_subscribe_72 : decode b_Bus_subscribe 72 = .ok (.istore 5, 2) := by decide +kernel
theorem d_Bus_subscribe_74 : decode b_Bus_subscribe 74 = .ok (.aload_n 0, 1) := by decide +kernel
theorem d_Bus_subscribe_75 : decode b_Bus_subscribe 75 = .ok (.dup, 1) := by decide +kernel
theorem d_Bus_subscribe_76 : decode b_Bus_subscribe 76 = .ok (.getfield 51, 3) := by decide +kernel
theorem d_Bus_subscribe_79 : decode b_Bus_subscribe 79 = .ok (.aload 4, 2) := by decide +kernel
theorem d_Bus_subscribe_81 : decode b_Bus_subscribe 81 = .ok (.iload_n 3, 1) := by decide +kernel
theorem d_Bus_subscribe_82 : decode b_Bus_subscribe 82 = .ok (.invokevirtual 131, 3) := by decide +kernel
theorem d_Bus_subscribe_85 : decode b_Bus_subscribe 85 = .ok (.iadd, 1) := by decide +kernel
theorem d_Bus_subscribe_86 : decode b_Bus_subscribe 86 = .ok (.putfield 51, 3) := by decide +kernel
theorem d_Bus_subscribe_89 : decode b_Bus_subscribe 89 = .ok (.aload_n 0, 1) := by decide +kernel
theorem d_Bus_subscribe_90 : decode b_Bus_subscribe 90 = .ok (.getfield 17, 3) := by decide +kernel
theorem d_Bus_subscribe_93 : decode b_Bus_subscribe 93 = .ok (.iload_n 2, 1) := by decide +kernel
theorem d_Bus_subscribe_94 : decode b_Bus_subscribe 94 = .ok (.aaload, 1) := by decide +kernel
theorem d_Bus_subscribe_95 : decode b_Bus_subscribe 95 = .ok (.astore 6, 2) := by decide +kernel
theorem d_Bus_subscribe_97 : decode b_Bus_subscribe 97 = .ok (.iload 5, 2) := by decide +kernel
theorem d_Bus_subscribe_99 : decode b_Bus_subscribe 99 = .ok (.ifCond .eq 40, 3) := by decide +kernel
theorem d_Bus_subscribe_102 : decode b_Bus_subscribe 102 = .ok (.aload 6, 2) := by decide +kernel
theorem d_Bus_subscribe_104 : decode b_Bus_subscribe 104 = .ok (.getfield 112, 3) := by decide +kernel
theorem d_Bus_subscribe_107 : decode b_Bus_subscribe 107 = .ok (.ifCond .eq 32, 3) := by decide +kernel
theorem d_Bus_subscribe_110 : decode b_Bus_subscribe 110 = .ok (.aload 6, 2) := by decide +kernel
theorem d_Bus_subscribe_112 : decode b_Bus_subscribe 112 = .ok (.getfield 135, 3) := by decide +kernel
theorem d_Bus_subscribe_115 : decode b_Bus_subscribe 115 = .ok (.ifCond .eq 24, 3) := by decide +kernel
theorem d_Bus_subscribe_118 : decode b_Bus_subscribe 118 = .ok (.aload 4, 2) := by decide +kernel
theorem d_Bus_subscribe_120 : decode b_Bus_subscribe 120 = .ok (.aload 6, 2) := by decide +kernel
theorem d_Bus_subscribe_122 : decode b_Bus_subscribe 122 = .ok (.getfield 138, 3) := by decide +kernel
theorem d_Bus_subscribe_125 : decode b_Bus_subscribe 125 = .ok (.aload 6, 2) := by decide +kernel
theorem d_Bus_subscribe_127 : decode b_Bus_subscribe 127 = .ok (.getfield 141, 3) := by decide +kernel
theorem d_Bus_subscribe_130 : decode b_Bus_subscribe 130 = .ok (.aload 6, 2) := by decide +kernel
theorem d_Bus_subscribe_132 : decode b_Bus_subscribe 132 = .ok (.getfield 144, 3) := by decide +kernel
theorem d_Bus_subscribe_135 : decode b_Bus_subscribe 135 = .ok (.invokevirtual 147, 3) := by decide +kernel
theorem d_Bus_subscribe_138 : decode b_Bus_subscribe 138 = .ok (.pop, 1) := by decide +kernel
theorem d_Bus_subscribe_139 : decode b_Bus_subscribe 139 = .ok (.aload 4, 2) := by decide +kernel
theorem d_Bus_subscribe_141 : decode b_Bus_subscribe 141 = .ok (.getfield 151, 3) := by decide +kernel
theorem d_Bus_subscribe_144 : decode b_Bus_subscribe 144 = .ok (.ireturn, 1) := by decide +kernel
theorem d_Bus_isWithin_0 : decode b_Bus_isWithin 0 = .ok (.iload_n 0, 1) := by decide +kernel
theorem d_Bus_isWithin_1 : decode b_Bus_isWithin 1 = .ok (.iload_n 1, 1) := by decide +kernel
theorem d_Bus_isWithin_2 : decode b_Bus_isWithin 2 = .ok (.if_icmp .lt 12, 3) := by decide +kernel
theorem d_Bus_isWithin_5 : decode b_Bus_isWithin 5 = .ok (.iload_n 0, 1) := by decide +kernel
theorem d_Bus_isWithin_6 : decode b_Bus_isWithin 6 = .ok (.iload_n 2, 1) := by decide +kernel
theorem d_Bus_isWithin_7 : decode b_Bus_isWithin 7 = .ok (.if_icmp .gt 7, 3) := by decide +kernel
theorem d_Bus_isWithin_10 : decode b_Bus_isWithin 10 = .ok (.iconst 1, 1) := by decide +kernel
theorem d_Bus_isWithin_11 : decode b_Bus_isWithin 11 = .ok (.goto 4, 3) := by decide +kernel
theorem d_Bus_isWithin_14 : decode b_Bus_isWithin 14 = .ok (.iconst 0, 1) := by decide +kernel
theorem d_Bus_isWithin_15 : decode b_Bus_isWithin 15 = .ok (.ireturn, 1) := by decide +kernel
theorem d_Bus_unsubscribe_0 : decode b_Bus_unsubscribe 0 = .ok (.aload_n 0, 1) := by decide +kernel
theorem d_Bus_unsubscribe_1 : decode b_Bus_unsubscribe 1 = .ok (.iload_n 1, 1) := by decide +kernel
theorem d_Bus_unsubscribe_2 : decode b_Bus_unsubscribe 2 = .ok (.invokevirtual 94, 3) := by decide +kernel
theorem d_Bus_unsubscribe_5 : decode b_Bus_unsubscribe 5 = .ok (.ifCond .ne 13, 3) := by decide +kernel
theorem d_Bus_unsubscribe_8 : decode b_Bus_unsubscribe 8 = .ok (.new 98, 3) := by decide +kernel
theorem d_Bus_unsubscribe_11 : decode b_Bus_unsubscribe 11 = .ok (.dup, 1) := by decide +kernel
theorem d_Bus_unsubscribe_12 : decode b_Bus_unsubscribe 12 = .ok (.ldc 100, 2) := by decide +kernel
theorem d_Bus_unsubscribe_14 : decode b_Bus_unsubscribe 14 = .ok (.invokespecial 102, 3) := by decide +kernel
theorem d_Bus_unsubscribe_17 : decode b_Bus_unsubscribe 17 = .ok (.athrow, 1) := by decide +kernel
theorem d_Bus_unsubscribe_18 : decode b_Bus_unsubscribe 18 = .ok (.iload_n 2, 1) := by decide +kernel
theorem d_Bus_unsubscribe_19 : decode b_Bus_unsubscribe 19 = .ok (.bipush 6, 2) := by decide +kernel
theorem d_Bus_unsubscribe_21 : decode b_Bus_unsubscribe 21 = .ok (.invokestatic 74, 3) := by decide +kernel
theorem d_Bus_unsubscribe_24 : decode b_Bus_unsubscribe 24 = .ok (.ifCond .ne 13, 3) := by decide +kernel
theorem d_Bus_unsubscribe_27 : decode b_Bus_unsubscribe 27 = .ok (.new 78, 3) := by decide +kernel
theorem d_Bus_unsubscribe_30 : decode b_Bus_unsubscribe 30 = .ok (.dup, 1) := by decide +kernel
theorem d_Bus_unsubscribe_31 : decode b_Bus_unsubscribe 31 = .ok (.ldc 110, 2) := by decide +kernel
theorem d_Bus_unsubscribe_33 : decode b_Bus_unsubscribe 33 = .ok (.invokespecial 82, 3) := by decide +kernel
theorem d_Bus_unsubscribe_36 : decode b_Bus_unsubscribe 36 = .ok (.athrow, 1) := by decide +kernel
theorem d_Bus_unsubscribe_37 : decode b_Bus_unsubscribe 37 = .ok (.aload_n 0, 1) := by decide +kernel
theorem d_Bus_unsubscribe_38 : decode b_Bus_unsubscribe 38 = .ok (.getfield 11, 3) := by decide +kernel
theorem d_Bus_unsubscribe_41 : decode b_Bus_unsubscribe 41 = .ok (.iload_n 1, 1) := by decide +kernel
theorem d_Bus_unsubscribe_42 : decode b_Bus_unsubscribe 42 = .ok (.aaload, 1) := by decide +kernel
theorem d_Bus_unsubscribe_43 : decode b_Bus_unsubscribe 43 = .ok (.getfield 121, 3) := by decide +kernel
theorem d_Bus_unsubscribe_46 : decode b_Bus_unsubscribe 46 = .ok (.iload_n 2, 1) := by decide +kernel
theorem d_Bus_unsubscribe_47 : decode b_Bus_unsubscribe 47 = .ok (.aaload, 1) := by decide +kernel
theorem d_Bus_unsubscribe_48 : decode b_Bus_unsubscribe 48 = .ok (.invokevirtual 125, 3) := by decide +kernel
theorem d_Bus_unsubscribe_51 : decode b_Bus_unsubscribe 51 = .ok (.ifCond .ne 13, 3) := by decide +kernel
theorem d_Bus_unsubscribe_54 : decode b_Bus_unsubscribe 54 = .ok (.new 98, 3) := by decide +kernel
theorem d_Bus_unsubscribe_57 : decode b_Bus_unsubscribe 57 = .ok (.dup, 1) := by decide +kernel
theorem d_Bus_unsubscribe_58 : decode b_Bus_unsubscribe 58 = .ok (.ldc 154, 2) := by decide +kernel
theorem d_Bus_unsubscribe_60 : decode b_Bus_unsubscribe 60 = .ok (.invokespecial 102, 3) := by decide +kernel
theorem d_Bus_unsubscribe_63 : decode b_Bus_unsubscribe 63 = .ok (.athrow, 1) := by decide +kernel
theorem d_Bus_unsubscribe_64 : decode b_Bus_unsubscribe 64 = .ok (.aload_n 0, 1) := by decide +kernel
theorem d_Bus_unsubscribe_65 : decode b_Bus_unsubscribe 65 = .ok (.getfield 11, 3) := by decide +kernel
theorem d_Bus_unsubscribe_68 : decode b_Bus_unsubscribe 68 = .ok (.iload_n 1, 1) := by decide +kernel
theorem d_Bus_unsubscribe_69 : decode b_Bus_unsubscribe 69 = .ok (.aaload, 1) := by decide +kernel
theorem d_Bus_unsubscribe_70 : decode b_Bus_unsubscribe 70 = .ok (.getfield 121, 3) := by decide +kernel
theorem d_Bus_unsubscribe_73 : decode b_Bus_unsubscribe 73 = .ok (.iload_n 2, 1) := by decide +kernel
theorem d_Bus_unsubscribe_74 : decode b_Bus_unsubscribe 74 = .ok (.aaload, 1) := by decide +kernel
theorem d_Bus_unsubscribe_75 : decode b_Bus_unsubscribe 75 = .ok (.invokevirtual 156, 3) := by decide +kernel
theorem d_Bus_unsubscribe_78 : decode b_Bus_unsubscribe 78 = .ok (.ireturn, 1) := by decide +kernel
theorem d_Bus_publish_0 : decode b_Bus_publish 0 = .ok (.aload_n 0, 1) := by decide +kernel
theorem d_Bus_publish_1 : decode b_Bus_publish 1 = .ok (.iload_n 1, 1) := by decide +kernel
theorem d_Bus_publish_2 : decode b_Bus_publish 2 = .ok (.invokevirtual 94, 3) := by decide +kernel
theorem d_Bus_publish_5 : decode b_Bus_publish 5 = .ok (.ifCond .ne 13, 3) := by decide +kernel
theorem d_Bus_publish_8 : decode b_Bus_publish 8 = .ok (.new 98, 3) := by decide +kernel
theorem d_Bus_publish_11 : decode b_Bus_publish 11 = .ok (.dup, 1) := by decide +kernel
theorem d_Bus_publish_12 : decode b_Bus_publish 12 = .ok (.ldc 100, 2) := by decide +kernel
theorem d_Bus_publish_14 : decode b_Bus_publish 14 = .ok (.invokespecial 102, 3) := by decide +kernel
theorem d_Bus_publish_17 : decode b_Bus_publish 17 = .ok (.athrow, 1) := by decide +kernel
theorem d_Bus_publish_18 : decode b_Bus_publish 18 = .ok (.iload_n 2, 1) := by decide +kernel
theorem d_Bus_publish_19 : decode b_Bus_publish 19 = .ok (.bipush 6, 2) := by decide +kernel
theorem d_Bus_publish_21 : decode b_Bus_publish 21 = .ok (.invokestatic 74, 3) := by decide +kernel
theorem d_Bus_publish_24 : decode b_Bus_publish 24 = .ok (.ifCond .ne 13, 3) := by decide +kernel
theorem d_Bus_publish_27 : decode b_Bus_publish 27 = .ok (.new 78, 3) := by decide +kernel
theorem d_Bus_publish_30 : decode b_Bus_publish 30 = .ok (.dup, 1) := by decide +kernel
theorem d_Bus_publish_31 : decode b_Bus_publish 31 = .ok (.ldc 110, 2) := by decide +kernel
theorem d_Bus_publish_33 : decode b_Bus_publish 33 = .ok (.invokespecial 82, 3) := by decide +kernel
theorem d_Bus_publish_36 : decode b_Bus_publish 36 = .ok (.athrow, 1) := by decide +kernel
theorem d_Bus_publish_37 : decode b_Bus_publish 37 = .ok (.aload_n 0, 1) := by decide +kernel
theorem d_Bus_publish_38 : decode b_Bus_publish 38 = .ok (.iload_n 2, 1) := by decide +kernel
theorem d_Bus_publish_39 : decode b_Bus_publish 39 = .ok (.iload_n 3, 1) := by decide +kernel
theorem d_Bus_publish_40 : decode b_Bus_publish 40 = .ok (.iload_n 1, 1) := by decide +kernel
theorem d_Bus_publish_41 : decode b_Bus_publish 41 = .ok (.invokevirtual 159, 3) := by decide +kernel
theorem d_Bus_publish_44 : decode b_Bus_publish 44 = .ok (.ireturn, 1) := by decide +kernel
theorem d_Bus_send_0 : decode b_Bus_send 0 = .ok (.iconst 0, 1) := by decide +kernel
theorem d_Bus_send_1 : decode b_Bus_send 1 = .ok (.istore 4, 2) := by decide +kernel
theorem d_Bus_send_3 : decode b_Bus_send 3 = .ok (.iconst 0, 1) := by decide +kernel
theorem d_Bus_send_4 : decode b_Bus_send 4 = .ok (.istore 5, 2) := by decide +kernel
theorem d_Bus_send_6 : decode b_Bus_send 6 = .ok (.iload 5, 2) := by decide +kernel
theorem d_Bus_send_8 : decode b_Bus_send 8 = .ok (.bipush 6, 2) := by decide +kernel
theorem d_Bus_send_10 : decode b_Bus_send 10 = .ok (.if_icmp .ge 54, 3) := by decide +kernel
theorem d_Bus_send_13 : decode b_Bus_send 13 = .ok (.aload_n 0, 1) := by decide +kernel
theorem d_Bus_send_14 : decode b_Bus_send 14 = .ok (.getfield 11, 3) := by decide +kernel
theorem d_Bus_send_17 : decode b_Bus_send 17 = .ok (.iload 5, 2) := by decide +kernel
theorem d_Bus_send_19 : decode b_Bus_send 19 = .ok (.aaload, 1) := by decide +kernel
theorem d_Bus_send_20 : decode b_Bus_send 20 = .ok (.getfield 121, 3) := by decide +kernel
theorem d_Bus_send_23 : decode b_Bus_send 23 = .ok (.iload_n 1, 1) := by decide +kernel
theorem d_Bus_send_24 : decode b_Bus_send 24 = .ok (.aaload, 1) := by decide +kernel
theorem d_Bus_send_25 : decode b_Bus_send 25 = .ok (.astore 6, 2) := by decide +kernel
theorem d_Bus_send_27 : decode b_Bus_send 27 = .ok (.aload 6, 2) := by decide +kernel
theorem d_Bus_send_29 : decode b_Bus_send 29 = .ok (.invokevirtual 125, 3) := by decide +kernel
theorem d_Bus_send_32 : decode b_Bus_send 32 = .ok (.ifCond .eq 26, 3) := by decide +kernel
theorem d_Bus_send_35 : decode b_Bus_send 35 = .ok (.aload_n 0, 1) := by decide +kernel
theorem d_Bus_send_36 : decode b_Bus_send 36 = .ok (.dup, 1) := by decide +kernel
theorem d_Bus_send_37 : decode b_Bus_send 37 = .ok (.getfield 51, 3) := by decide +kernel
theorem d_Bus_send_40 : decode b_Bus_send 40 = .ok (.aload 6, 2) := by decide +kernel
theorem d_Bus_send_42 : decode b_Bus_send 42 = .ok (.iload_n 2, 1) := by decide +kernel
theorem d_Bus_send_43 : decode b_Bus_send 43 = .ok (.iload_n 3, 1) := by decide +kernel
theorem d_Bus_send_44 : decode b_Bus_send 44 = .ok (.aload_n 0, 1) := by decide +kernel
theorem d_Bus_send_45 : decode b_Bus_send 45 = .ok (.getfield 47, 3) := by decide +kernel
theorem d_Bus_send_48 : decode b_Bus_send 48 = .ok (.invokevirtual 147, 3) := by decide +kernel
theorem d_Bus_send_51 : decode b_Bus_send 51 = .ok (.iadd, 1) := by decide +kernel
theorem d_Bus_send_52 : decode b_Bus_send 52 = .ok (.putfield 51, 3) := by decide +kernel
theorem d_Bus_send_55 : decode b_Bus_send 55 = .ok (.iinc 4 1, 3) := by decide +kernel
theorem d_Bus_send_58 : decode b_Bus_send 58 = .ok (.iinc 5 1, 3) := by decide +kernel
theorem d_Bus_send_61 : decode b_Bus_send 61 = .ok (.goto (-55), 3) := by decide +kernel
theorem d_Bus_send_64 : decode b_Bus_send 64 = .ok (.aload_n 0, 1) := by decide +kernel
theorem d_Bus_send_65 : decode b_Bus_send 65 = .ok (.getfield 17, 3) := by decide +kernel
theorem d_Bus_send_68 : decode b_Bus_send 68 = .ok (.iload_n 1, 1) := by decide +kernel
theorem d_Bus_send_69 : decode b_Bus_send 69 = .ok (.aaload, 1) := by decide +kernel
theorem d_Bus_send_70 : decode b_Bus_send 70 = .ok (.iload_n 2, 1) := by decide +kernel
theorem d_Bus_send_71 : decode b_Bus_send 71 = .ok (.iload_n 3, 1) := by decide +kernel
theorem d_Bus_send_72 : decode b_Bus_send 72 = .ok (.aload_n 0, 1) := by decide +kernel
theorem d_Bus_send_73 : decode b_Bus_send 73 = .ok (.getfield 47, 3) := by decide +kernel
theorem d_Bus_send_76 : decode b_Bus_send 76 = .ok (.invokevirtual 303, 3) := by decide +kernel
theorem d_Bus_send_79 : decode b_Bus_send 79 = .ok (.aload_n 0, 1) := by decide +kernel
theorem d_Bus_send_80 : decode b_Bus_send 80 = .ok (.getfield 17, 3) := by decide +kernel
theorem d_Bus_send_83 : decode b_Bus_send 83 = .ok (.iload_n 1, 1) := by decide +kernel
theorem d_Bus_send_84 : decode b_Bus_send 84 = .ok (.aaload, 1) := by decide +kernel
theorem d_Bus_send_85 : decode b_Bus_send 85 = .ok (.getfield 228, 3) := by decide +kernel
theorem d_Bus_send_88 : decode b_Bus_send 88 = .ok (.ifCond .eq 21, 3) := by decide +kernel
theorem d_Bus_send_91 : decode b_Bus_send 91 = .ok (.iload_n 3, 1) := by decide +kernel
theorem d_Bus_send_92 : decode b_Bus_send 92 = .ok (.iconst (-1), 1) := by decide +kernel
theorem d_Bus_send_93 : decode b_Bus_send 93 = .ok (.if_icmp .eq 16, 3) := by decide +kernel
theorem d_Bus_send_96 : decode b_Bus_send 96 = .ok (.aload_n 0, 1) := by decide +kernel
theorem d_Bus_send_97 : decode b_Bus_send 97 = .ok (.getfield 36, 3) := by decide +kernel
theorem d_Bus_send_100 : decode b_Bus_send 100 = .ok (.aload_n 0, 1) := by decide +kernel
theorem d_Bus_send_101 : decode b_Bus_send 101 = .ok (.getfield 47, 3) := by decide +kernel
theorem d_Bus_send_104 : decode b_Bus_send 104 = .ok (.iload_n 1, 1) := by decide +kernel
theorem d_Bus_send_105 : decode b_Bus_send 105 = .ok (.iload_n 2, 1) := by decide +kernel
theorem d_Bus_send_106 : decode b_Bus_send 106 = .ok (.invokevirtual 307, 3) := by decide +kernel
theorem d_Bus_send_109 : decode b_Bus_send 109 = .ok (.aload_n 0, 1) := by decide +kernel
theorem d_Bus_send_110 : decode b_Bus_send 110 = .ok (.dup, 1) := by decide +kernel
theorem d_Bus_send_111 : decode b_Bus_send 111 = .ok (.getfield 54, 3) := by decide +kernel
theorem d_Bus_send_114 : decode b_Bus_send 114 = .ok (.iconst 1, 1) := by decide +kernel
theorem d_Bus_send_115 : decode b_Bus_send 115 = .ok (.iadd, 1) := by decide +kernel
theorem d_Bus_send_116 : decode b_Bus_send 116 = .ok (.putfield 54, 3) := by decide +kernel
theorem d_Bus_send_119 : decode b_Bus_send 119 = .ok (.iload 4, 2) := by decide +kernel
theorem d_Bus_send_121 : decode b_Bus_send 121 = .ok (.ireturn, 1) := by decide +kernel
theorem d_Bus_act_0 : decode b_Bus_act 0 = .ok (.aload_n 0, 1) := by decide +kernel
theorem d_Bus_act_1 : decode b_Bus_act 1 = .ok (.iload_n 1, 1) := by decide +kernel
theorem d_Bus_act_2 : decode b_Bus_act 2 = .ok (.invokevirtual 94, 3) := by decide +kernel
theorem d_Bus_act_5 : decode b_Bus_act 5 = .ok (.ifCond .ne 13, 3) := by decide +kernel
theorem d_Bus_act_8 : decode b_Bus_act 8 = .ok (.new 98, 3) := by decide +kernel
theorem d_Bus_act_11 : decode b_Bus_act 11 = .ok (.dup, 1) := by decide +kernel
theorem d_Bus_act_12 : decode b_Bus_act 12 = .ok (.ldc 100, 2) := by decide +kernel
theorem d_Bus_act_14 : decode b_Bus_act 14 = .ok (.invokespecial 102, 3) := by decide +kernel
theorem d_Bus_act_17 : decode b_Bus_act 17 = .ok (.athrow, 1) := by decide +kernel
theorem d_Bus_act_18 : decode b_Bus_act 18 = .ok (.iload_n 2, 1) := by decide +kernel
theorem d_Bus_act_19 : decode b_Bus_act 19 = .ok (.bipush 6, 2) := by decide +kernel
theorem d_Bus_act_21 : decode b_Bus_act 21 = .ok (.invokestatic 74, 3) := by decide +kernel
theorem d_Bus_act_24 : decode b_Bus_act 24 = .ok (.ifCond .eq 14, 3) := by decide +kernel
theorem d_Bus_act_27 : decode b_Bus_act 27 = .ok (.iload_n 3, 1) := by decide +kernel
theorem d_Bus_act_28 : decode b_Bus_act 28 = .ok (.iload 4, 2) := by decide +kernel
theorem d_Bus_act_30 : decode b_Bus_act 30 = .ok (.iload 5, 2) := by decide +kernel
theorem d_Bus_act_32 : decode b_Bus_act 32 = .ok (.invokestatic 162, 3) := by decide +kernel
theorem d_Bus_act_35 : decode b_Bus_act 35 = .ok (.ifCond .ne 13, 3) := by decide +kernel
theorem d_Bus_act_38 : decode b_Bus_act 38 = .ok (.new 78, 3) := by decide +kernel
theorem d_Bus_act_41 : decode b_Bus_act 41 = .ok (.dup, 1) := by decide +kernel
theorem d_Bus_act_42 : decode b_Bus_act 42 = .ok (.ldc 165, 2) := by decide +kernel
theorem d_Bus_act_44 : decode b_Bus_act 44 = .ok (.invokespecial 82, 3) := by decide +kernel
theorem d_Bus_act_47 : decode b_Bus_act 47 = .ok (.athrow, 1) := by decide +kernel
theorem d_Bus_act_48 : decode b_Bus_act 48 = .ok (.aload_n 0, 1) := by decide +kernel
theorem d_Bus_act_49 : decode b_Bus_act 49 = .ok (.getfield 11, 3) := by decide +kernel
theorem d_Bus_act_52 : decode b_Bus_act 52 = .ok (.iload_n 1, 1) := by decide +kernel
theorem d_Bus_act_53 : decode b_Bus_act 53 = .ok (.aaload, 1) := by decide +kernel
theorem d_Bus_act_54 : decode b_Bus_act 54 = .ok (.getfield 167, 3) := by decide +kernel
theorem d_Bus_act_57 : decode b_Bus_act 57 = .ok (.iload_n 2, 1) := by decide +kernel
theorem d_Bus_act_58 : decode b_Bus_act 58 = .ok (.aaload, 1) := by decide +kernel
theorem d_Bus_act_59 : decode b_Bus_act 59 = .ok (.astore 6, 2) := by decide +kernel
theorem d_Bus_act_61 : decode b_Bus_act 61 = .ok (.aload 6, 2) := by decide +kernel
theorem d_Bus_act_63 : decode b_Bus_act 63 = .ok (.getfield 171, 3) := by decide +kernel
theorem d_Bus_act_66 : decode b_Bus_act 66 = .ok (.iconst (-1), 1) := by decide +kernel
theorem d_Bus_act_67 : decode b_Bus_act 67 = .ok (.if_icmp .ne 7, 3) := by decide +kernel
theorem d_Bus_act_70 : decode b_Bus_act 70 = .ok (.iconst 1, 1) := by decide +kernel
theorem d_Bus_act_71 : decode b_Bus_act 71 = .ok (.goto 4, 3) := by decide +kernel
theorem d_Bus_act_74 : decode b_Bus_act 74 = .ok (.iconst 0, 1) := by decide +kernel
theorem d_Bus_act_75 : decode b_Bus_act 75 = .ok (.istore 7, 2) := by decide +kernel
theorem d_Bus_act_77 : decode b_Bus_act 77 = .ok (.aload 6, 2) := by decide +kernel
theorem d_Bus_act_79 : decode b_Bus_act 79 = .ok (.iload_n 3, 1) := by decide +kernel
theorem d_Bus_act_80 : decode b_Bus_act 80 = .ok (.putfield 171, 3) := by decide +kernel
theorem d_Bus_act_83 : decode b_Bus_act 83 = .ok (.aload 6, 2) := by decide +kernel
theorem d_Bus_act_85 : decode b_Bus_act 85 = .ok (.iload 4, 2) := by decide +kernel
theorem d_Bus_act_87 : decode b_Bus_act 87 = .ok (.putfield 176, 3) := by decide +kernel
theorem d_Bus_act_90 : decode b_Bus_act 90 = .ok (.aload 6, 2) := by decide +kernel
theorem d_Bus_act_92 : decode b_Bus_act 92 = .ok (.iload 5, 2) := by decide +kernel
theorem d_Bus_act_94 : decode b_Bus_act 94 = .ok (.putfield 179, 3) := by decide +kernel
theorem d_Bus_act_97 : decode b_Bus_act 97 = .ok (.iload 7, 2) := by decide +kernel
theorem d_Bus_act_99 : decode b_Bus_act 99 = .ok (.ireturn, 1) := by decide +kernel
theorem d_Bus_isAction_0 : decode b_Bus_isAction 0 = .ok (.iload_n 0, 1) := by decide +kernel
theorem d_Bus_isAction_1 : decode b_Bus_isAction 1 = .ok (.tableswitch 118 (-1) 4 #[39, 41, 41, 47, 73, 95], 39) := by decide +kernel
theorem d_Bus_isAction_40 : decode b_Bus_isAction 40 = .ok (.iconst 1, 1) := by decide +kernel
theorem d_Bus_isAction_41 : decode b_Bus_isAction 41 = .ok (.ireturn, 1) := by decide +kernel
theorem d_Bus_isAction_42 : decode b_Bus_isAction 42 = .ok (.iload_n 1, 1) := by decide +kernel
theorem d_Bus_isAction_43 : decode b_Bus_isAction 43 = .ok (.iconst 4, 1) := by decide +kernel
theorem d_Bus_isAction_44 : decode b_Bus_isAction 44 = .ok (.invokestatic 74, 3) := by decide +kernel
theorem d_Bus_isAction_47 : decode b_Bus_isAction 47 = .ok (.ireturn, 1) := by decide +kernel
theorem d_Bus_isAction_48 : decode b_Bus_isAction 48 = .ok (.iload_n 1, 1) := by decide +kernel
theorem d_Bus_isAction_49 : decode b_Bus_isAction 49 = .ok (.bipush 6, 2) := by decide +kernel
theorem d_Bus_isAction_51 : decode b_Bus_isAction 51 = .ok (.invokestatic 74, 3) := by decide +kernel
theorem d_Bus_isAction_54 : decode b_Bus_isAction 54 = .ok (.ifCond .eq 18, 3) := by decide +kernel
theorem d_Bus_isAction_57 : decode b_Bus_isAction 57 = .ok (.iload_n 2, 1) := by decide +kernel
theorem d_Bus_isAction_58 : decode b_Bus_isAction 58 = .ok (.bipush (-100), 2) := by decide +kernel
theorem d_Bus_isAction_60 : decode b_Bus_isAction 60 = .ok (.bipush 100, 2) := by decide +kernel
theorem d_Bus_isAction_62 : decode b_Bus_isAction 62 = .ok (.invokestatic 115, 3) := by decide +kernel
theorem d_Bus_isAction_65 : decode b_Bus_isAction 65 = .ok (.ifCond .eq 7, 3) := by decide +kernel
theorem d_Bus_isAction_68 : decode b_Bus_isAction 68 = .ok (.iconst 1, 1) := by decide +kernel
theorem d_Bus_isAction_69 : decode b_Bus_isAction 69 = .ok (.goto 4, 3) := by decide +kernel
theorem d_Bus_isAction_72 : decode b_Bus_isAction 72 = .ok (.iconst 0, 1) := by decide +kernel
theorem d_Bus_isAction_73 : decode b_Bus_isAction 73 = .ok (.ireturn, 1) := by decide +kernel
theorem d_Bus_isAction_74 : decode b_Bus_isAction 74 = .ok (.iload_n 1, 1) := by decide +kernel
theorem d_Bus_isAction_75 : decode b_Bus_isAction 75 = .ok (.iconst 4, 1) := by decide +kernel
theorem d_Bus_isAction_76 : decode b_Bus_isAction 76 = .ok (.invokestatic 74, 3) := by decide +kernel
theorem d_Bus_isAction_79 : decode b_Bus_isAction 79 = .ok (.ifCond .eq 15, 3) := by decide +kernel
theorem d_Bus_isAction_82 : decode b_Bus_isAction 82 = .ok (.iload_n 2, 1) := by decide +kernel
theorem d_Bus_isAction_83 : decode b_Bus_isAction 83 = .ok (.iconst 4, 1) := by decide +kernel
theorem d_Bus_isAction_84 : decode b_Bus_isAction 84 = .ok (.invokestatic 74, 3) := by decide +kernel
theorem d_Bus_isAction_87 : decode b_Bus_isAction 87 = .ok (.ifCond .eq 7, 3) := by decide +kernel
theorem d_Bus_isAction_90 : decode b_Bus_isAction 90 = .ok (.iconst 1, 1) := by decide +kernel
theorem d_Bus_isAction_91 : decode b_Bus_isAction 91 = .ok (.goto 4, 3) := by decide +kernel
theorem d_Bus_isAction_94 : decode b_Bus_isAction 94 = .ok (.iconst 0, 1) := by decide +kernel
theorem d_Bus_isAction_95 : decode b_Bus_isAction 95 = .ok (.ireturn, 1) := by decide +kernel
theorem d_Bus_isAction_96 : decode b_Bus_isAction 96 = .ok (.iload_n 1, 1) := by decide +kernel
theorem d_Bus_isAction_97 : decode b_Bus_isAction 97 = .ok (.bipush 6, 2) := by decide +kernel
theorem d_Bus_isAction_99 : decode b_Bus_isAction 99 = .ok (.invokestatic 74, 3) := by decide +kernel
theorem d_Bus_isAction_102 : decode b_Bus_isAction 102 = .ok (.ifCond .eq 15, 3) := by decide +kernel
theorem d_Bus_isAction_105 : decode b_Bus_isAction 105 = .ok (.iload_n 2, 1) := by decide +kernel
theorem d_Bus_isAction_106 : decode b_Bus_isAction 106 = .ok (.iconst 4, 1) := by decide +kernel
theorem d_Bus_isAction_107 : decode b_Bus_isAction 107 = .ok (.invokestatic 74, 3) := by decide +kernel
theorem d_Bus_isAction_110 : decode b_Bus_isAction 110 = .ok (.ifCond .eq 7, 3) := by decide +kernel
theorem d_Bus_isAction_113 : decode b_Bus_isAction 113 = .ok (.iconst 1, 1) := by decide +kernel
theorem d_Bus_isAction_114 : decode b_Bus_isAction 114 = .ok (.goto 4, 3) := by decide +kernel
theorem d_Bus_isAction_117 : decode b_Bus_isAction 117 = .ok (.iconst 0, 1) := by decide +kernel
theorem d_Bus_isAction_118 : decode b_Bus_isAction 118 = .ok (.ireturn, 1) := by decide +kernel
theorem d_Bus_isAction_119 : decode b_Bus_isAction 119 = .ok (.iconst 0, 1) := by decide +kernel
theorem d_Bus_isAction_120 : decode b_Bus_isAction 120 = .ok (.ireturn, 1) := by decide +kernel
theorem d_Bus_offer_0 : decode b_Bus_offer 0 = .ok (.aload_n 0, 1) := by decide +kernel
theorem d_Bus_offer_1 : decode b_Bus_offer 1 = .ok (.iload_n 1, 1) := by decide +kernel
theorem d_Bus_offer_2 : decode b_Bus_offer 2 = .ok (.invokevirtual 94, 3) := by decide +kernel
theorem d_Bus_offer_5 : decode b_Bus_offer 5 = .ok (.ifCond .ne 13, 3) := by decide +kernel
theorem d_Bus_offer_8 : decode b_Bus_offer 8 = .ok (.new 98, 3) := by decide +kernel
theorem d_Bus_offer_11 : decode b_Bus_offer 11 = .ok (.dup, 1) := by decide +kernel
theorem d_Bus_offer_12 : decode b_Bus_offer 12 = .ok (.ldc 100, 2) := by decide +kernel
theorem d_Bus_offer_14 : decode b_Bus_offer 14 = .ok (.invokespecial 102, 3) := by decide +kernel
theorem d_Bus_offer_17 : decode b_Bus_offer 17 = .ok (.athrow, 1) := by decide +kernel
theorem d_Bus_offer_18 : decode b_Bus_offer 18 = .ok (.iload_n 2, 1) := by decide +kernel
theorem d_Bus_offer_19 : decode b_Bus_offer 19 = .ok (.iconst 4, 1) := by decide +kernel
theorem d_Bus_offer_20 : decode b_Bus_offer 20 = .ok (.invokestatic 74, 3) := by decide +kernel
theorem d_Bus_offer_23 : decode b_Bus_offer 23 = .ok (.ifCond .eq 15, 3) := by decide +kernel
theorem d_Bus_offer_26 : decode b_Bus_offer 26 = .ok (.iload_n 2, 1) := by decide +kernel
theorem d_Bus_offer_27 : decode b_Bus_offer 27 = .ok (.iload_n 3, 1) := by decide +kernel
theorem d_Bus_offer_28 : decode b_Bus_offer 28 = .ok (.iload 4, 2) := by decide +kernel
theorem d_Bus_offer_30 : decode b_Bus_offer 30 = .ok (.iload 5, 2) := by decide +kernel
theorem d_Bus_offer_32 : decode b_Bus_offer 32 = .ok (.invokestatic 182, 3) := by decide +kernel
theorem d_Bus_offer_35 : decode b_Bus_offer 35 = .ok (.ifCond .ne 13, 3) := by decide +kernel
theorem d_Bus_offer_38 : decode b_Bus_offer 38 = .ok (.new 78, 3) := by decide +kernel
theorem d_Bus_offer_41 : decode b_Bus_offer 41 = .ok (.dup, 1) := by decide +kernel
theorem d_Bus_offer_42 : decode b_Bus_offer 42 = .ok (.ldc 186, 2) := by decide +kernel
theorem d_Bus_offer_44 : decode b_Bus_offer 44 = .ok (.invokespecial 82, 3) := by decide +kernel
theorem d_Bus_offer_47 : decode b_Bus_offer 47 = .ok (.athrow, 1) := by decide +kernel
theorem d_Bus_offer_48 : decode b_Bus_offer 48 = .ok (.aload_n 0, 1) := by decide +kernel
theorem d_Bus_offer_49 : decode b_Bus_offer 49 = .ok (.getfield 23, 3) := by decide +kernel
theorem d_Bus_offer_52 : decode b_Bus_offer 52 = .ok (.iload_n 2, 1) := by decide +kernel
theorem d_Bus_offer_53 : decode b_Bus_offer 53 = .ok (.aaload, 1) := by decide +kernel
theorem d_Bus_offer_54 : decode b_Bus_offer 54 = .ok (.astore 6, 2) := by decide +kernel
theorem d_Bus_offer_56 : decode b_Bus_offer 56 = .ok (.aload 6, 2) := by decide +kernel
theorem d_Bus_offer_58 : decode b_Bus_offer 58 = .ok (.getfield 103, 3) := by decide +kernel
theorem d_Bus_offer_61 : decode b_Bus_offer 61 = .ok (.iconst (-1), 1) := by decide +kernel
theorem d_Bus_offer_62 : decode b_Bus_offer 62 = .ok (.if_icmp .ne 7, 3) := by decide +kernel
theorem d_Bus_offer_65 : decode b_Bus_offer 65 = .ok (.iconst 1, 1) := by decide +kernel
theorem d_Bus_offer_66 : decode b_Bus_offer 66 = .ok (.goto 4, 3) := by decide +kernel
theorem d_Bus_offer_69 : decode b_Bus_offer 69 = .ok (.iconst 0, 1) := by decide +kernel
theorem d_Bus_offer_70 : decode b_Bus_offer 70 = .ok (.istore 7, 2) := by decide +kernel
theorem d_Bus_offer_72 : decode b_Bus_offer 72 = .ok (.aload 6, 2) := by decide +kernel
theorem d_Bus_offer_74 : decode b_Bus_offer 74 = .ok (.iload_n 1, 1) := by decide +kernel
theorem d_Bus_offer_75 : decode b_Bus_offer 75 = .ok (.putfield 103, 3) := by decide +kernel
theorem d_Bus_offer_78 : decode b_Bus_offer 78 = .ok (.aload 6, 2) := by decide +kernel
theorem d_Bus_offer_80 : decode b_Bus_offer 80 = .ok (.iload_n 3, 1) := by decide +kernel
theorem d_Bus_offer_81 : decode b_Bus_offer 81 = .ok (.putfield 188, 3) := by decide +kernel
theorem d_Bus_offer_84 : decode b_Bus_offer 84 = .ok (.aload 6, 2) := by decide +kernel
theorem d_Bus_offer_86 : decode b_Bus_offer 86 = .ok (.iload 4, 2) := by decide +kernel
theorem d_Bus_offer_88 : decode b_Bus_offer 88 = .ok (.putfield 189, 3) := by decide +kernel
theorem d_Bus_offer_91 : decode b_Bus_offer 91 = .ok (.aload 6, 2) := by decide +kernel
theorem d_Bus_offer_93 : decode b_Bus_offer 93 = .ok (.iload 5, 2) := by decide +kernel
theorem d_Bus_offer_95 : decode b_Bus_offer 95 = .ok (.putfield 192, 3) := by decide +kernel
theorem d_Bus_offer_98 : decode b_Bus_offer 98 = .ok (.iload 7, 2) := by decide +kernel
theorem d_Bus_offer_100 : decode b_Bus_offer 100 = .ok (.ireturn, 1) := by decide +kernel
theorem d_Bus_isService_0 : decode b_Bus_isService 0 = .ok (.iload_n 3, 1) := by decide +kernel
theorem d_Bus_isService_1 : decode b_Bus_isService 1 = .ok (.sipush (-1000), 3) := by decide +kernel
theorem d_Bus_isService_4 : decode b_Bus_isService 4 = .ok (.sipush 1000, 3) := by decide +kernel
theorem d_Bus_isService_7 : decode b_Bus_isService 7 = .ok (.invokestatic 115, 3) := by decide +kernel
theorem d_Bus_isService_10 : decode b_Bus_isService 10 = .ok (.ifCond .ne 5, 3) := by decide +kernel
theorem d_Bus_isService_13 : decode b_Bus_isService 13 = .ok (.iconst 0, 1) := by decide +kernel
theorem d_Bus_isService_14 : decode b_Bus_isService 14 = .ok (.ireturn, 1) := by decide +kernel
theorem d_Bus_isService_15 : decode b_Bus_isService 15 = .ok (.iload_n 1, 1) := by decide +kernel
theorem d_Bus_isService_16 : decode b_Bus_isService 16 = .ok (.tableswitch 53 0 3 #[32, 41, 41, 47], 32) := by decide +kernel
theorem d_Bus_isService_48 : decode b_Bus_isService 48 = .ok (.iload_n 2, 1) := by decide +kernel
theorem d_Bus_isService_49 : decode b_Bus_isService 49 = .ok (.bipush (-100), 2) := by decide +kernel
theorem d_Bus_isService_51 : decode b_Bus_isService 51 = .ok (.bipush 100, 2) := by decide +kernel
theorem d_Bus_isService_53 : decode b_Bus_isService 53 = .ok (.invokestatic 115, 3) := by decide +kernel
theorem d_Bus_isService_56 : decode b_Bus_isService 56 = .ok (.ireturn, 1) := by decide +kernel
theorem d_Bus_isService_57 : decode b_Bus_isService 57 = .ok (.iload_n 2, 1) := by decide +kernel
theorem d_Bus_isService_58 : decode b_Bus_isService 58 = .ok (.iconst 4, 1) := by decide +kernel
theorem d_Bus_isService_59 : decode b_Bus_isService 59 = .ok (.invokestatic 74, 3) := by decide +kernel
theorem d_Bus_isService_62 : decode b_Bus_isService 62 = .ok (.ireturn, 1) := by decide +kernel
theorem d_Bus_isService_63 : decode b_Bus_isService 63 = .ok (.iload_n 2, 1) := by decide +kernel
theorem d_Bus_isService_64 : decode b_Bus_isService 64 = .ok (.iload_n 0, 1) := by decide +kernel
theorem d_Bus_isService_65 : decode b_Bus_isService 65 = .ok (.invokestatic 74, 3) := by decide +kernel
theorem d_Bus_isService_68 : decode b_Bus_isService 68 = .ok (.ireturn, 1) := by decide +kernel
theorem d_Bus_isService_69 : decode b_Bus_isService 69 = .ok (.iconst 0, 1) := by decide +kernel
theorem d_Bus_isService_70 : decode b_Bus_isService 70 = .ok (.ireturn, 1) := by decide +kernel
theorem d_Bus_call_0 : decode b_Bus_call 0 = .ok (.iload_n 1, 1) := by decide +kernel
theorem d_Bus_call_1 : decode b_Bus_call 1 = .ok (.iconst 4, 1) := by decide +kernel
theorem d_Bus_call_2 : decode b_Bus_call 2 = .ok (.invokestatic 74, 3) := by decide +kernel
theorem d_Bus_call_5 : decode b_Bus_call 5 = .ok (.ifCond .ne 13, 3) := by decide +kernel
theorem d_Bus_call_8 : decode b_Bus_call 8 = .ok (.new 78, 3) := by decide +kernel
theorem d_Bus_call_11 : decode b_Bus_call 11 = .ok (.dup, 1) := by decide +kernel
theorem d_Bus_call_12 : decode b_Bus_call 12 = .ok (.ldc 195, 2) := by decide +kernel
theorem d_Bus_call_14 : decode b_Bus_call 14 = .ok (.invokespecial 82, 3) := by decide +kernel
theorem d_Bus_call_17 : decode b_Bus_call 17 = .ok (.athrow, 1) := by decide +kernel
theorem d_Bus_call_18 : decode b_Bus_call 18 = .ok (.aload_n 0, 1) := by decide +kernel
theorem d_Bus_call_19 : decode b_Bus_call 19 = .ok (.iload_n 1, 1) := by decide +kernel
theorem d_Bus_call_20 : decode b_Bus_call 20 = .ok (.iload_n 2, 1) := by decide +kernel
theorem d_Bus_call_21 : decode b_Bus_call 21 = .ok (.invokevirtual 197, 3) := by decide +kernel
theorem d_Bus_call_24 : decode b_Bus_call 24 = .ok (.istore_n 3, 1) := by decide +kernel
theorem d_Bus_call_25 : decode b_Bus_call 25 = .ok (.iload_n 3, 1) := by decide +kernel
theorem d_Bus_call_26 : decode b_Bus_call 26 = .ok (.iconst 1, 1) := by decide +kernel
theorem d_Bus_call_27 : decode b_Bus_call 27 = .ok (.if_icmp .ne 13, 3) := by decide +kernel
theorem d_Bus_call_30 : decode b_Bus_call 30 = .ok (.new 98, 3) := by decide +kernel
theorem d_Bus_call_33 : decode b_Bus_call 33 = .ok (.dup, 1) := by decide +kernel
theorem d_Bus_call_34 : decode b_Bus_call 34 = .ok (.ldc 201, 2) := by decide +kernel
theorem d_Bus_call_36 : decode b_Bus_call 36 = .ok (.invokespecial 102, 3) := by decide +kernel
theorem d_Bus_call_39 : decode b_Bus_call 39 = .ok (.athrow, 1) := by decide +kernel
theorem d_Bus_call_40 : decode b_Bus_call 40 = .ok (.iload_n 3, 1) := by decide +kernel
theorem d_Bus_call_41 : decode b_Bus_call 41 = .ok (.iconst 2, 1) := by decide +kernel
theorem d_Bus_call_42 : decode b_Bus_call 42 = .ok (.if_icmp .ne 13, 3) := by decide +kernel
theorem d_Bus_call_45 : decode b_Bus_call 45 = .ok (.new 203, 3) := by decide +kernel
theorem d_Bus_call_48 : decode b_Bus_call 48 = .ok (.dup, 1) := by decide +kernel
theorem d_Bus_call_49 : decode b_Bus_call 49 = .ok (.ldc 205, 2) := by decide +kernel
theorem d_Bus_call_51 : decode b_Bus_call 51 = .ok (.invokespecial 207, 3) := by decide +kernel
theorem d_Bus_call_54 : decode b_Bus_call 54 = .ok (.athrow, 1) := by decide +kernel
theorem d_Bus_call_55 : decode b_Bus_call 55 = .ok (.aload_n 0, 1) := by decide +kernel
theorem d_Bus_call_56 : decode b_Bus_call 56 = .ok (.getfield 63, 3) := by decide +kernel
theorem d_Bus_call_59 : decode b_Bus_call 59 = .ok (.ireturn, 1) := by decide +kernel
theorem d_Bus_ask_0 : decode b_Bus_ask 0 = .ok (.iload_n 1, 1) := by decide +kernel
theorem d_Bus_ask_1 : decode b_Bus_ask 1 = .ok (.istore_n 3, 1) := by decide +kernel
theorem d_Bus_ask_2 : decode b_Bus_ask 2 = .ok (.iconst 0, 1) := by decide +kernel
theorem d_Bus_ask_3 : decode b_Bus_ask 3 = .ok (.istore 4, 2) := by decide +kernel
theorem d_Bus_ask_5 : decode b_Bus_ask 5 = .ok (.iconst 0, 1) := by decide +kernel
theorem d_Bus_ask_6 : decode b_Bus_ask 6 = .ok (.istore 5, 2) := by decide +kernel
theorem d_Bus_ask_8 : decode b_Bus_ask 8 = .ok (.iload 5, 2) := by decide +kernel
theorem d_Bus_ask_10 : decode b_Bus_ask 10 = .ok (.iconst 4, 1) := by decide +kernel
theorem d_Bus_ask_11 : decode b_Bus_ask 11 = .ok (.if_icmp .ge 63, 3) := by decide +kernel
theorem d_Bus_ask_14 : decode b_Bus_ask 14 = .ok (.aload_n 0, 1) := by decide +kernel
theorem d_Bus_ask_15 : decode b_Bus_ask 15 = .ok (.getfield 23, 3) := by decide +kernel
theorem d_Bus_ask_18 : decode b_Bus_ask 18 = .ok (.iload_n 3, 1) := by decide +kernel
theorem d_Bus_ask_19 : decode b_Bus_ask 19 = .ok (.aaload, 1) := by decide +kernel
theorem d_Bus_ask_20 : decode b_Bus_ask 20 = .ok (.astore 6, 2) := by decide +kernel
theorem d_Bus_ask_22 : decode b_Bus_ask 22 = .ok (.aload 6, 2) := by decide +kernel
theorem d_Bus_ask_24 : decode b_Bus_ask 24 = .ok (.getfield 103, 3) := by decide +kernel
theorem d_Bus_ask_27 : decode b_Bus_ask 27 = .ok (.iconst (-1), 1) := by decide +kernel
theorem d_Bus_ask_28 : decode b_Bus_ask 28 = .ok (.if_icmp .ne 5, 3) := by decide +kernel
theorem d_Bus_ask_31 : decode b_Bus_ask 31 = .ok (.iconst 1, 1) := by decide +kernel
theorem d_Bus_ask_32 : decode b_Bus_ask 32 = .ok (.ireturn, 1) := by decide +kernel
theorem d_Bus_ask_33 : decode b_Bus_ask 33 = .ok (.aload 6, 2) := by decide +kernel
theorem d_Bus_ask_35 : decode b_Bus_ask 35 = .ok (.getfield 188, 3) := by decide +kernel
theorem d_Bus_ask_38 : decode b_Bus_ask 38 = .ok (.iconst 3, 1) := by decide +kernel
theorem d_Bus_ask_39 : decode b_Bus_ask 39 = .ok (.if_icmp .eq 13, 3) := by decide +kernel
theorem d_Bus_ask_42 : decode b_Bus_ask 42 = .ok (.aload_n 0, 1) := by decide +kernel
theorem d_Bus_ask_43 : decode b_Bus_ask 43 = .ok (.aload 6, 2) := by decide +kernel
theorem d_Bus_ask_45 : decode b_Bus_ask 45 = .ok (.iload_n 2, 1) := by decide +kernel
theorem d_Bus_ask_46 : decode b_Bus_ask 46 = .ok (.iload 4, 2) := by decide +kernel
theorem d_Bus_ask_48 : decode b_Bus_ask 48 = .ok (.invokevirtual 334, 3) := by decide +kernel
theorem d_Bus_ask_51 : decode b_Bus_ask 51 = .ok (.ireturn, 1) := by decide +kernel
theorem d_Bus_ask_52 : decode b_Bus_ask 52 = .ok (.iload 4, 2) := by decide +kernel
theorem d_Bus_ask_54 : decode b_Bus_ask 54 = .ok (.aload 6, 2) := by decide +kernel
theorem d_Bus_ask_56 : decode b_Bus_ask 56 = .ok (.getfield 192, 3) := by decide +kernel
theorem d_Bus_ask_59 : decode b_Bus_ask 59 = .ok (.iadd, 1) := by decide +kernel
theorem d_Bus_ask_60 : decode b_Bus_ask 60 = .ok (.istore 4, 2) := by decide +kernel
theorem d_Bus_ask_62 : decode b_Bus_ask 62 = .ok (.aload 6, 2) := by decide +kernel
theorem d_Bus_ask_64 : decode b_Bus_ask 64 = .ok (.getfield 189, 3) := by decide +kernel
theorem d_Bus_ask_67 : decode b_Bus_ask 67 = .ok (.istore_n 3, 1) := by decide +kernel
theorem d_Bus_ask_68 : decode b_Bus_ask 68 = .ok (.iinc 5 1, 3) := by decide +kernel
theorem d_Bus_ask_71 : decode b_Bus_ask 71 = .ok (.goto (-63), 3) := by decide +kernel
theorem d_Bus_ask_74 : decode b_Bus_ask 74 = .ok (.iconst 1, 1) := by decide +kernel
theorem d_Bus_ask_75 : decode b_Bus_ask 75 = .ok (.ireturn, 1) := by decide +kernel
theorem d_Bus_compute_0 : decode b_Bus_compute 0 = .ok (.aload_n 1, 1) := by decide +kernel
theorem d_Bus_compute_1 : decode b_Bus_compute 1 = .ok (.getfield 188, 3) := by decide +kernel
theorem d_Bus_compute_4 : decode b_Bus_compute 4 = .ok (.ifCond .ne 22, 3) := by decide +kernel
theorem d_Bus_compute_7 : decode b_Bus_compute 7 = .ok (.aload_n 0, 1) := by decide +kernel
theorem d_Bus_compute_8 : decode b_Bus_compute 8 = .ok (.aload_n 1, 1) := by decide +kernel
theorem d_Bus_compute_9 : decode b_Bus_compute 9 = .ok (.getfield 189, 3) := by decide +kernel
theorem d_Bus_compute_12 : decode b_Bus_compute 12 = .ok (.iload_n 2, 1) := by decide +kernel
theorem d_Bus_compute_13 : decode b_Bus_compute 13 = .ok (.imul, 1) := by decide +kernel
theorem d_Bus_compute_14 : decode b_Bus_compute 14 = .ok (.aload_n 1, 1) := by decide +kernel
theorem d_Bus_compute_15 : decode b_Bus_compute 15 = .ok (.getfield 192, 3) := by decide +kernel
theorem d_Bus_compute_18 : decode b_Bus_compute 18 = .ok (.iadd, 1) := by decide +kernel
theorem d_Bus_compute_19 : decode b_Bus_compute 19 = .ok (.iload_n 3, 1) := by decide +kernel
theorem d_Bus_compute_20 : decode b_Bus_compute 20 = .ok (.iadd, 1) := by decide +kernel
theorem d_Bus_compute_21 : decode b_Bus_compute 21 = .ok (.putfield 63, 3) := by decide +kernel
theorem d_Bus_compute_24 : decode b_Bus_compute 24 = .ok (.iconst 0, 1) := by decide +kernel
theorem d_Bus_compute_25 : decode b_Bus_compute 25 = .ok (.ireturn, 1) := by decide +kernel
theorem d_Bus_compute_26 : decode b_Bus_compute 26 = .ok (.aload_n 0, 1) := by decide +kernel
theorem d_Bus_compute_27 : decode b_Bus_compute 27 = .ok (.getfield 11, 3) := by decide +kernel
theorem d_Bus_compute_30 : decode b_Bus_compute 30 = .ok (.aload_n 1, 1) := by decide +kernel
theorem d_Bus_compute_31 : decode b_Bus_compute 31 = .ok (.getfield 103, 3) := by decide +kernel
theorem d_Bus_compute_34 : decode b_Bus_compute 34 = .ok (.aaload, 1) := by decide +kernel
theorem d_Bus_compute_35 : decode b_Bus_compute 35 = .ok (.getfield 215, 3) := by decide +kernel
theorem d_Bus_compute_38 : decode b_Bus_compute 38 = .ok (.astore 4, 2) := by decide +kernel
theorem d_Bus_compute_40 : decode b_Bus_compute 40 = .ok (.aload_n 1, 1) := by decide +kernel
theorem d_Bus_compute_41 : decode b_Bus_compute 41 = .ok (.getfield 188, 3) := by decide +kernel
theorem d_Bus_compute_44 : decode b_Bus_compute 44 = .ok (.iconst 1, 1) := by decide +kernel
theorem d_Bus_compute_45 : decode b_Bus_compute 45 = .ok (.if_icmp .ne 29, 3) := by decide +kernel
theorem d_Bus_compute_48 : decode b_Bus_compute 48 = .ok (.aload 4, 2) := by decide +kernel
theorem d_Bus_compute_50 : decode b_Bus_compute 50 = .ok (.aload_n 1, 1) := by decide +kernel
theorem d_Bus_compute_51 : decode b_Bus_compute 51 = .ok (.getfield 189, 3) := by decide +kernel
theorem d_Bus_compute_54 : decode b_Bus_compute 54 = .ok (.dup2, 1) := by decide +kernel
theorem d_Bus_compute_55 : decode b_Bus_compute 55 = .ok (.iaload, 1) := by decide +kernel
theorem d_Bus_compute_56 : decode b_Bus_compute 56 = .ok (.iload_n 2, 1) := by decide +kernel
theorem d_Bus_compute_57 : decode b_Bus_compute 57 = .ok (.iadd, 1) := by decide +kernel
theorem d_Bus_compute_58 : decode b_Bus_compute 58 = .ok (.iastore, 1) := by decide +kernel
theorem d_Bus_compute_59 : decode b_Bus_compute 59 = .ok (.aload_n 0, 1) := by decide +kernel
theorem d_Bus_compute_60 : decode b_Bus_compute 60 = .ok (.aload 4, 2) := by decide +kernel
theorem d_Bus_compute_62 : decode b_Bus_compute 62 = .ok (.aload_n 1, 1) := by decide +kernel
theorem d_Bus_compute_63 : decode b_Bus_compute 63 = .ok (.getfield 189, 3) := by decide +kernel
theorem d_Bus_compute_66 : decode b_Bus_compute 66 = .ok (.iaload, 1) := by decide +kernel
theorem d_Bus_compute_67 : decode b_Bus_compute 67 = .ok (.iload_n 3, 1) := by decide +kernel
theorem d_Bus_compute_68 : decode b_Bus_compute 68 = .ok (.iadd, 1) := by decide +kernel
theorem d_Bus_compute_69 : decode b_Bus_compute 69 = .ok (.putfield 63, 3) := by decide +kernel
theorem d_Bus_compute_72 : decode b_Bus_compute 72 = .ok (.iconst 0, 1) := by decide +kernel
theorem d_Bus_compute_73 : decode b_Bus_compute 73 = .ok (.ireturn, 1) := by decide +kernel
theorem d_Bus_compute_74 : decode b_Bus_compute 74 = .ok (.aload 4, 2) := by decide +kernel
theorem d_Bus_compute_76 : decode b_Bus_compute 76 = .ok (.aload_n 1, 1) := by decide +kernel
theorem d_Bus_compute_77 : decode b_Bus_compute 77 = .ok (.getfield 189, 3) := by decide +kernel
theorem d_Bus_compute_80 : decode b_Bus_compute 80 = .ok (.iaload, 1) := by decide +kernel
theorem d_Bus_compute_81 : decode b_Bus_compute 81 = .ok (.istore 5, 2) := by decide +kernel
theorem d_Bus_compute_83 : decode b_Bus_compute 83 = .ok (.iload 5, 2) := by decide +kernel
theorem d_Bus_compute_85 : decode b_Bus_compute 85 = .ok (.ifCond .ne 5, 3) := by decide +kernel
theorem d_Bus_compute_88 : decode b_Bus_compute 88 = .ok (.iconst 2, 1) := by decide +kernel
theorem d_Bus_compute_89 : decode b_Bus_compute 89 = .ok (.ireturn, 1) := by decide +kernel
theorem d_Bus_compute_90 : decode b_Bus_compute 90 = .ok (.aload_n 0, 1) := by decide +kernel
theorem d_Bus_compute_91 : decode b_Bus_compute 91 = .ok (.iload_n 2, 1) := by decide +kernel
theorem d_Bus_compute_92 : decode b_Bus_compute 92 = .ok (.iload 5, 2) := by decide +kernel
theorem d_Bus_compute_94 : decode b_Bus_compute 94 = .ok (.idiv, 1) := by decide +kernel
theorem d_Bus_compute_95 : decode b_Bus_compute 95 = .ok (.iload_n 3, 1) := by decide +kernel
theorem d_Bus_compute_96 : decode b_Bus_compute 96 = .ok (.iadd, 1) := by decide +kernel
theorem d_Bus_compute_97 : decode b_Bus_compute 97 = .ok (.putfield 63, 3) := by decide +kernel
theorem d_Bus_compute_100 : decode b_Bus_compute 100 = .ok (.iconst 0, 1) := by decide +kernel
theorem d_Bus_compute_101 : decode b_Bus_compute 101 = .ok (.ireturn, 1) := by decide +kernel
theorem d_Bus_tick_0 : decode b_Bus_tick 0 = .ok (.iload_n 1, 1) := by decide +kernel
theorem d_Bus_tick_1 : decode b_Bus_tick 1 = .ok (.iconst 1, 1) := by decide +kernel
theorem d_Bus_tick_2 : decode b_Bus_tick 2 = .ok (.bipush 8, 2) := by decide +kernel
theorem d_Bus_tick_4 : decode b_Bus_tick 4 = .ok (.invokestatic 115, 3) := by decide +kernel
theorem d_Bus_tick_7 : decode b_Bus_tick 7 = .ok (.ifCond .ne 13, 3) := by decide +kernel
theorem d_Bus_tick_10 : decode b_Bus_tick 10 = .ok (.new 78, 3) := by decide +kernel
theorem d_Bus_tick_13 : decode b_Bus_tick 13 = .ok (.dup, 1) := by decide +kernel
theorem d_Bus_tick_14 : decode b_Bus_tick 14 = .ok (.ldc 208, 2) := by decide +kernel
theorem d_Bus_tick_16 : decode b_Bus_tick 16 = .ok (.invokespecial 82, 3) := by decide +kernel
theorem d_Bus_tick_19 : decode b_Bus_tick 19 = .ok (.athrow, 1) := by decide +kernel
theorem d_Bus_tick_20 : decode b_Bus_tick 20 = .ok (.iconst 0, 1) := by decide +kernel
theorem d_Bus_tick_21 : decode b_Bus_tick 21 = .ok (.istore_n 2, 1) := by decide +kernel
theorem d_Bus_tick_22 : decode b_Bus_tick 22 = .ok (.iload_n 2, 1) := by decide +kernel
theorem d_Bus_tick_23 : decode b_Bus_tick 23 = .ok (.iload_n 1, 1) := by decide +kernel
theorem d_Bus_tick_24 : decode b_Bus_tick 24 = .ok (.if_icmp .ge 13, 3) := by decide +kernel
theorem d_Bus_tick_27 : decode b_Bus_tick 27 = .ok (.aload_n 0, 1) := by decide +kernel
theorem d_Bus_tick_28 : decode b_Bus_tick 28 = .ok (.invokevirtual 210, 3) := by decide +kernel
theorem d_Bus_tick_31 : decode b_Bus_tick 31 = .ok (.iinc 2 1, 3) := by decide +kernel
theorem d_Bus_tick_34 : decode b_Bus_tick 34 = .ok (.goto (-12), 3) := by decide +kernel
theorem d_Bus_tick_37 : decode b_Bus_tick 37 = .ok (.aload_n 0, 1) := by decide +kernel
theorem d_Bus_tick_38 : decode b_Bus_tick 38 = .ok (.getfield 47, 3) := by decide +kernel
theorem d_Bus_tick_41 : decode b_Bus_tick 41 = .ok (.ireturn, 1) := by decide +kernel
theorem d_Bus_passOneTick_0 : decode b_Bus_passOneTick 0 = .ok (.aload_n 0, 1) := by decide +kernel
theorem d_Bus_passOneTick_1 : decode b_Bus_passOneTick 1 = .ok (.dup, 1) := by decide +kernel
theorem d_Bus_passOneTick_2 : decode b_Bus_passOneTick 2 = .ok (.getfield 47, 3) := by decide +kernel
theorem d_Bus_passOneTick_5 : decode b_Bus_passOneTick 5 = .ok (.iconst 1, 1) := by decide +kernel
theorem d_Bus_passOneTick_6 : decode b_Bus_passOneTick 6 = .ok (.iadd, 1) := by decide +kernel
theorem d_Bus_passOneTick_7 : decode b_Bus_passOneTick 7 = .ok (.putfield 47, 3) := by decide +kernel
theorem d_Bus_passOneTick_10 : decode b_Bus_passOneTick 10 = .ok (.iconst 0, 1) := by decide +kernel
theorem d_Bus_passOneTick_11 : decode b_Bus_passOneTick 11 = .ok (.istore_n 1, 1) := by decide +kernel
theorem d_Bus_passOneTick_12 : decode b_Bus_passOneTick 12 = .ok (.iload_n 1, 1) := by decide +kernel
theorem d_Bus_passOneTick_13 : decode b_Bus_passOneTick 13 = .ok (.bipush 30, 2) := by decide +kernel
theorem d_Bus_passOneTick_15 : decode b_Bus_passOneTick 15 = .ok (.if_icmp .ge 55, 3) := by decide +kernel
theorem d_Bus_passOneTick_18 : decode b_Bus_passOneTick 18 = .ok (.aload_n 0, 1) := by decide +kernel
theorem d_Bus_passOneTick_19 : decode b_Bus_passOneTick 19 = .ok (.getfield 36, 3) := by decide +kernel
theorem d_Bus_passOneTick_22 : decode b_Bus_passOneTick 22 = .ok (.aload_n 0, 1) := by decide +kernel
theorem d_Bus_passOneTick_23 : decode b_Bus_passOneTick 23 = .ok (.getfield 47, 3) := by decide +kernel
theorem d_Bus_passOneTick_26 : decode b_Bus_passOneTick 26 = .ok (.invokevirtual 309, 3) := by decide +kernel
theorem d_Bus_passOneTick_29 : decode b_Bus_passOneTick 29 = .ok (.ifCond .eq 41, 3) := by decide +kernel
theorem d_Bus_passOneTick_32 : decode b_Bus_passOneTick 32 = .ok (.aload_n 0, 1) := by decide +kernel
theorem d_Bus_passOneTick_33 : decode b_Bus_passOneTick 33 = .ok (.getfield 36, 3) := by decide +kernel
theorem d_Bus_passOneTick_36 : decode b_Bus_passOneTick 36 = .ok (.invokevirtual 312, 3) := by decide +kernel
theorem d_Bus_passOneTick_39 : decode b_Bus_passOneTick 39 = .ok (.istore_n 2, 1) := by decide +kernel
theorem d_Bus_passOneTick_40 : decode b_Bus_passOneTick 40 = .ok (.aload_n 0, 1) := by decide +kernel
theorem d_Bus_passOneTick_41 : decode b_Bus_passOneTick 41 = .ok (.aload_n 0, 1) := by decide +kernel
theorem d_Bus_passOneTick_42 : decode b_Bus_passOneTick 42 = .ok (.getfield 36, 3) := by decide +kernel
theorem d_Bus_passOneTick_45 : decode b_Bus_passOneTick 45 = .ok (.getfield 315, 3) := by decide +kernel
theorem d_Bus_passOneTick_48 : decode b_Bus_passOneTick 48 = .ok (.iload_n 2, 1) := by decide +kernel
theorem d_Bus_passOneTick_49 : decode b_Bus_passOneTick 49 = .ok (.iaload, 1) := by decide +kernel
theorem d_Bus_passOneTick_50 : decode b_Bus_passOneTick 50 = .ok (.aload_n 0, 1) := by decide +kernel
theorem d_Bus_passOneTick_51 : decode b_Bus_passOneTick 51 = .ok (.getfield 36, 3) := by decide +kernel
theorem d_Bus_passOneTick_54 : decode b_Bus_passOneTick 54 = .ok (.getfield 317, 3) := by decide +kernel
theorem d_Bus_passOneTick_57 : decode b_Bus_passOneTick 57 = .ok (.iload_n 2, 1) := by decide +kernel
theorem d_Bus_passOneTick_58 : decode b_Bus_passOneTick 58 = .ok (.iaload, 1) := by decide +kernel
theorem d_Bus_passOneTick_59 : decode b_Bus_passOneTick 59 = .ok (.iconst (-1), 1) := by decide +kernel
theorem d_Bus_passOneTick_60 : decode b_Bus_passOneTick 60 = .ok (.invokevirtual 159, 3) := by decide +kernel
theorem d_Bus_passOneTick_63 : decode b_Bus_passOneTick 63 = .ok (.pop, 1) := by decide +kernel
theorem d_Bus_passOneTick_64 : decode b_Bus_passOneTick 64 = .ok (.iinc 1 1, 3) := by decide +kernel
theorem d_Bus_passOneTick_67 : decode b_Bus_passOneTick 67 = .ok (.goto (-55), 3) := by decide +kernel
theorem d_Bus_passOneTick_70 : decode b_Bus_passOneTick 70 = .ok (.iconst 0, 1) := by decide +kernel
theorem d_Bus_passOneTick_71 : decode b_Bus_passOneTick 71 = .ok (.istore_n 1, 1) := by decide +kernel
theorem d_Bus_passOneTick_72 : decode b_Bus_passOneTick 72 = .ok (.iload_n 1, 1) := by decide +kernel
theorem d_Bus_passOneTick_73 : decode b_Bus_passOneTick 73 = .ok (.bipush 6, 2) := by decide +kernel
theorem d_Bus_passOneTick_75 : decode b_Bus_passOneTick 75 = .ok (.if_icmp .ge 26, 3) := by decide +kernel
theorem d_Bus_passOneTick_78 : decode b_Bus_passOneTick 78 = .ok (.aload_n 0, 1) := by decide +kernel
theorem d_Bus_passOneTick_79 : decode b_Bus_passOneTick 79 = .ok (.getfield 11, 3) := by decide +kernel
theorem d_Bus_passOneTick_82 : decode b_Bus_passOneTick 82 = .ok (.iload_n 1, 1) := by decide +kernel
theorem d_Bus_passOneTick_83 : decode b_Bus_passOneTick 83 = .ok (.aaload, 1) := by decide +kernel
theorem d_Bus_passOneTick_84 : decode b_Bus_passOneTick 84 = .ok (.getfield 85, 3) := by decide +kernel
theorem d_Bus_passOneTick_87 : decode b_Bus_passOneTick 87 = .ok (.ifCond .eq 8, 3) := by decide +kernel
theorem d_Bus_passOneTick_90 : decode b_Bus_passOneTick 90 = .ok (.aload_n 0, 1) := by decide +kernel
theorem d_Bus_passOneTick_91 : decode b_Bus_passOneTick 91 = .ok (.iload_n 1, 1) := by decide +kernel
theorem d_Bus_passOneTick_92 : decode b_Bus_passOneTick 92 = .ok (.invokevirtual 320, 3) := by decide +kernel
theorem d_Bus_passOneTick_95 : decode b_Bus_passOneTick 95 = .ok (.iinc 1 1, 3) := by decide +kernel
theorem d_Bus_passOneTick_98 : decode b_Bus_passOneTick 98 = .ok (.goto (-26), 3) := by decide +kernel
theorem d_Bus_passOneTick_101 : decode b_Bus_passOneTick 101 = .ok (.return_, 1) := by decide +kernel
theorem d_Bus_spin_0 : decode b_Bus_spin 0 = .ok (.aload_n 0, 1) := by decide +kernel
theorem d_Bus_spin_1 : decode b_Bus_spin 1 = .ok (.getfield 11, 3) := by decide +kernel
theorem d_Bus_spin_4 : decode b_Bus_spin 4 = .ok (.iload_n 1, 1) := by decide +kernel
theorem d_Bus_spin_5 : decode b_Bus_spin 5 = .ok (.aaload, 1) := by decide +kernel
theorem d_Bus_spin_6 : decode b_Bus_spin 6 = .ok (.astore_n 2, 1) := by decide +kernel
theorem d_Bus_spin_7 : decode b_Bus_spin 7 = .ok (.aload_n 2, 1) := by decide +kernel
theorem d_Bus_spin_8 : decode b_Bus_spin 8 = .ok (.invokevirtual 324, 3) := by decide +kernel
theorem d_Bus_spin_11 : decode b_Bus_spin 11 = .ok (.istore_n 3, 1) := by decide +kernel
theorem d_Bus_spin_12 : decode b_Bus_spin 12 = .ok (.iload_n 3, 1) := by decide +kernel
theorem d_Bus_spin_13 : decode b_Bus_spin 13 = .ok (.iconst (-1), 1) := by decide +kernel
theorem d_Bus_spin_14 : decode b_Bus_spin 14 = .ok (.if_icmp .ne 4, 3) := by decide +kernel
theorem d_Bus_spin_17 : decode b_Bus_spin 17 = .ok (.return_, 1) := by decide +kernel
theorem d_Bus_spin_18 : decode b_Bus_spin 18 = .ok (.aload_n 2, 1) := by decide +kernel
theorem d_Bus_spin_19 : decode b_Bus_spin 19 = .ok (.iload_n 3, 1) := by decide +kernel
theorem d_Bus_spin_20 : decode b_Bus_spin 20 = .ok (.invokevirtual 327, 3) := by decide +kernel
theorem d_Bus_spin_23 : decode b_Bus_spin 23 = .ok (.istore 4, 2) := by decide +kernel
theorem d_Bus_spin_25 : decode b_Bus_spin 25 = .ok (.aload_n 2, 1) := by decide +kernel
theorem d_Bus_spin_26 : decode b_Bus_spin 26 = .ok (.getfield 167, 3) := by decide +kernel
theorem d_Bus_spin_29 : decode b_Bus_spin 29 = .ok (.iload_n 3, 1) := by decide +kernel
theorem d_Bus_spin_30 : decode b_Bus_spin 30 = .ok (.aaload, 1) := by decide +kernel
theorem d_Bus_spin_31 : decode b_Bus_spin 31 = .ok (.getfield 171, 3) := by decide +kernel
theorem d_Bus_spin_34 : decode b_Bus_spin 34 = .ok (.iconst (-1), 1) := by decide +kernel
theorem d_Bus_spin_35 : decode b_Bus_spin 35 = .ok (.if_icmp .eq 26, 3) := by decide +kernel
theorem d_Bus_spin_38 : decode b_Bus_spin 38 = .ok (.aload_n 0, 1) := by decide +kernel
theorem d_Bus_spin_39 : decode b_Bus_spin 39 = .ok (.iload_n 1, 1) := by decide +kernel
theorem d_Bus_spin_40 : decode b_Bus_spin 40 = .ok (.aload_n 2, 1) := by decide +kernel
theorem d_Bus_spin_41 : decode b_Bus_spin 41 = .ok (.getfield 167, 3) := by decide +kernel
theorem d_Bus_spin_44 : decode b_Bus_spin 44 = .ok (.iload_n 3, 1) := by decide +kernel
theorem d_Bus_spin_45 : decode b_Bus_spin 45 = .ok (.aaload, 1) := by decide +kernel
theorem d_Bus_spin_46 : decode b_Bus_spin 46 = .ok (.iload 4, 2) := by decide +kernel
theorem d_Bus_spin_48 : decode b_Bus_spin 48 = .ok (.invokevirtual 330, 3) := by decide +kernel
theorem d_Bus_spin_51 : decode b_Bus_spin 51 = .ok (.aload_n 0, 1) := by decide +kernel
theorem d_Bus_spin_52 : decode b_Bus_spin 52 = .ok (.dup, 1) := by decide +kernel
theorem d_Bus_spin_53 : decode b_Bus_spin 53 = .ok (.getfield 57, 3) := by decide +kernel
theorem d_Bus_spin_56 : decode b_Bus_spin 56 = .ok (.iconst 1, 1) := by decide +kernel
theorem d_Bus_spin_57 : decode b_Bus_spin 57 = .ok (.iadd, 1) := by decide +kernel
theorem d_Bus_spin_58 : decode b_Bus_spin 58 = .ok (.putfield 57, 3) := by decide +kernel
theorem d_Bus_spin_61 : decode b_Bus_spin 61 = .ok (.return_, 1) := by decide +kernel
theorem d_Bus_perform_0 : decode b_Bus_perform 0 = .ok (.aload_n 0, 1) := by decide +kernel
theorem d_Bus_perform_1 : decode b_Bus_perform 1 = .ok (.getfield 11, 3) := by decide +kernel
theorem d_Bus_perform_4 : decode b_Bus_perform 4 = .ok (.iload_n 1, 1) := by decide +kernel
theorem d_Bus_perform_5 : decode b_Bus_perform 5 = .ok (.aaload, 1) := by decide +kernel
theorem d_Bus_perform_6 : decode b_Bus_perform 6 = .ok (.getfield 215, 3) := by decide +kernel
theorem d_Bus_perform_9 : decode b_Bus_perform 9 = .ok (.astore 4, 2) := by decide +kernel
theorem d_Bus_perform_11 : decode b_Bus_perform 11 = .ok (.aload_n 2, 1) := by decide +kernel
theorem d_Bus_perform_12 : decode b_Bus_perform 12 = .ok (.getfield 171, 3) := by decide +kernel
theorem d_Bus_perform_15 : decode b_Bus_perform 15 = .ok (.tableswitch 136 0 4 #[33, 44, 58, 77, 116], 33) := by decide +kernel
theorem d_Bus_perform_48 : decode b_Bus_perform 48 = .ok (.aload 4, 2) := by decide +kernel
theorem d_Bus_perform_50 : decode b_Bus_perform 50 = .ok (.aload_n 2, 1) := by decide +kernel
theorem d_Bus_perform_51 : decode b_Bus_perform 51 = .ok (.getfield 176, 3) := by decide +kernel
theorem d_Bus_perform_54 : decode b_Bus_perform 54 = .ok (.iload_n 3, 1) := by decide +kernel
theorem d_Bus_perform_55 : decode b_Bus_perform 55 = .ok (.iastore, 1) := by decide +kernel
theorem d_Bus_perform_56 : decode b_Bus_perform 56 = .ok (.goto 95, 3) := by decide +kernel
theorem d_Bus_perform_59 : decode b_Bus_perform 59 = .ok (.aload 4, 2) := by decide +kernel
theorem d_Bus_perform_61 : decode b_Bus_perform 61 = .ok (.aload_n 2, 1) := by decide +kernel
theorem d_Bus_perform_62 : decode b_Bus_perform 62 = .ok (.getfield 176, 3) := by decide +kernel
theorem d_Bus_perform_65 : decode b_Bus_perform 65 = .ok (.dup2, 1) := by decide +kernel
theorem d_Bus_perform_66 : decode b_Bus_perform 66 = .ok (.iaload, 1) := by decide +kernel
theorem d_Bus_perform_67 : decode b_Bus_perform 67 = .ok (.iload_n 3, 1) := by decide +kernel
theorem d_Bus_perform_68 : decode b_Bus_perform 68 = .ok (.iadd, 1) := by decide +kernel
theorem d_Bus_perform_69 : decode b_Bus_perform 69 = .ok (.iastore, 1) := by decide +kernel
theorem d_Bus_perform_70 : decode b_Bus_perform 70 = .ok (.goto 81, 3) := by decide +kernel
theorem d_Bus_perform_73 : decode b_Bus_perform 73 = .ok (.aload_n 0, 1) := by decide +kernel
theorem d_Bus_perform_74 : decode b_Bus_perform 74 = .ok (.aload_n 2, 1) := by decide +kernel
theorem d_Bus_perform_75 : decode b_Bus_perform 75 = .ok (.getfield 176, 3) := by decide +kernel
theorem d_Bus_perform_78 : decode b_Bus_perform 78 = .ok (.iload_n 3, 1) := by decide +kernel
theorem d_Bus_perform_79 : decode b_Bus_perform 79 = .ok (.aload_n 2, 1) := by decide +kernel
theorem d_Bus_perform_80 : decode b_Bus_perform 80 = .ok (.getfield 179, 3) := by decide +kernel
theorem d_Bus_perform_83 : decode b_Bus_perform 83 = .ok (.imul, 1) := by decide +kernel
theorem d_Bus_perform_84 : decode b_Bus_perform 84 = .ok (.iload_n 1, 1) := by decide +kernel
theorem d_Bus_perform_85 : decode b_Bus_perform 85 = .ok (.invokevirtual 159, 3) := by decide +kernel
theorem d_Bus_perform_88 : decode b_Bus_perform 88 = .ok (.pop, 1) := by decide +kernel
theorem d_Bus_perform_89 : decode b_Bus_perform 89 = .ok (.goto 62, 3) := by decide +kernel
theorem d_Bus_perform_92 : decode b_Bus_perform 92 = .ok (.aload_n 0, 1) := by decide +kernel
theorem d_Bus_perform_93 : decode b_Bus_perform 93 = .ok (.aload_n 2, 1) := by decide +kernel
theorem d_Bus_perform_94 : decode b_Bus_perform 94 = .ok (.getfield 176, 3) := by decide +kernel
theorem d_Bus_perform_97 : decode b_Bus_perform 97 = .ok (.iload_n 3, 1) := by decide +kernel
theorem d_Bus_perform_98 : decode b_Bus_perform 98 = .ok (.invokevirtual 197, 3) := by decide +kernel
theorem d_Bus_perform_101 : decode b_Bus_perform 101 = .ok (.ifCond .ne 17, 3) := by decide +kernel
theorem d_Bus_perform_104 : decode b_Bus_perform 104 = .ok (.aload 4, 2) := by decide +kernel
theorem d_Bus_perform_106 : decode b_Bus_perform 106 = .ok (.aload_n 2, 1) := by decide +kernel
theorem d_Bus_perform_107 : decode b_Bus_perform 107 = .ok (.getfield 179, 3) := by decide +kernel
theorem d_Bus_perform_110 : decode b_Bus_perform 110 = .ok (.aload_n 0, 1) := by decide +kernel
theorem d_Bus_perform_111 : decode b_Bus_perform 111 = .ok (.getfield 63, 3) := by decide +kernel
theorem d_Bus_perform_114 : decode b_Bus_perform 114 = .ok (.iastore, 1) := by decide +kernel
theorem d_Bus_perform_115 : decode b_Bus_perform 115 = .ok (.goto 36, 3) := by decide +kernel
theorem d_Bus_perform_118 : decode b_Bus_perform 118 = .ok (.aload_n 0, 1) := by decide +kernel
theorem d_Bus_perform_119 : decode b_Bus_perform 119 = .ok (.dup, 1) := by decide +kernel
theorem d_Bus_perform_120 : decode b_Bus_perform 120 = .ok (.getfield 60, 3) := by decide +kernel
theorem d_Bus_perform_123 : decode b_Bus_perform 123 = .ok (.iconst 1, 1) := by decide +kernel
theorem d_Bus_perform_124 : decode b_Bus_perform 124 = .ok (.iadd, 1) := by decide +kernel
theorem d_Bus_perform_125 : decode b_Bus_perform 125 = .ok (.putfield 60, 3) := by decide +kernel
theorem d_Bus_perform_128 : decode b_Bus_perform 128 = .ok (.goto 23, 3) := by decide +kernel
theorem d_Bus_perform_131 : decode b_Bus_perform 131 = .ok (.aload_n 0, 1) := by decide +kernel
theorem d_Bus_perform_132 : decode b_Bus_perform 132 = .ok (.aload_n 2, 1) := by decide +kernel
theorem d_Bus_perform_133 : decode b_Bus_perform 133 = .ok (.getfield 176, 3) := by decide +kernel
theorem d_Bus_perform_136 : decode b_Bus_perform 136 = .ok (.aload 4, 2) := by decide +kernel
theorem d_Bus_perform_138 : decode b_Bus_perform 138 = .ok (.aload_n 2, 1) := by decide +kernel
theorem d_Bus_perform_139 : decode b_Bus_perform 139 = .ok (.getfield 179, 3) := by decide +kernel
theorem d_Bus_perform_142 : decode b_Bus_perform 142 = .ok (.iaload, 1) := by decide +kernel
theorem d_Bus_perform_143 : decode b_Bus_perform 143 = .ok (.iload_n 1, 1) := by decide +kernel
theorem d_Bus_perform_144 : decode b_Bus_perform 144 = .ok (.invokevirtual 159, 3) := by decide +kernel
theorem d_Bus_perform_147 : decode b_Bus_perform 147 = .ok (.pop, 1) := by decide +kernel
theorem d_Bus_perform_148 : decode b_Bus_perform 148 = .ok (.goto 3, 3) := by decide +kernel
theorem d_Bus_perform_151 : decode b_Bus_perform 151 = .ok (.return_, 1) := by decide +kernel
theorem d_Bus_variable_0 : decode b_Bus_variable 0 = .ok (.aload_n 0, 1) := by decide +kernel
theorem d_Bus_variable_1 : decode b_Bus_variable 1 = .ok (.iload_n 1, 1) := by decide +kernel
theorem d_Bus_variable_2 : decode b_Bus_variable 2 = .ok (.invokevirtual 94, 3) := by decide +kernel
theorem d_Bus_variable_5 : decode b_Bus_variable 5 = .ok (.ifCond .ne 13, 3) := by decide +kernel
theorem d_Bus_variable_8 : decode b_Bus_variable 8 = .ok (.new 98, 3) := by decide +kernel
theorem d_Bus_variable_11 : decode b_Bus_variable 11 = .ok (.dup, 1) := by decide +kernel
theorem d_Bus_variable_12 : decode b_Bus_variable 12 = .ok (.ldc 100, 2) := by decide +kernel
theorem d_Bus_variable_14 : decode b_Bus_variable 14 = .ok (.invokespecial 102, 3) := by decide +kernel
theorem d_Bus_variable_17 : decode b_Bus_variable 17 = .ok (.athrow, 1) := by decide +kernel
theorem d_Bus_variable_18 : decode b_Bus_variable 18 = .ok (.iload_n 2, 1) := by decide +kernel
theorem d_Bus_variable_19 : decode b_Bus_variable 19 = .ok (.iconst 4, 1) := by decide +kernel
theorem d_Bus_variable_20 : decode b_Bus_variable 20 = .ok (.invokestatic 74, 3) := by decide +kernel
theorem d_Bus_variable_23 : decode b_Bus_variable 23 = .ok (.ifCond .ne 13, 3) := by decide +kernel
theorem d_Bus_variable_26 : decode b_Bus_variable 26 = .ok (.new 78, 3) := by decide +kernel
theorem d_Bus_variable_29 : decode b_Bus_variable 29 = .ok (.dup, 1) := by decide +kernel
theorem d_Bus_variable_30 : decode b_Bus_variable 30 = .ok (.ldc 213, 2) := by decide +kernel
theorem d_Bus_variable_32 : decode b_Bus_variable 32 = .ok (.invokespecial 82, 3) := by decide +kernel
theorem d_Bus_variable_35 : decode b_Bus_variable 35 = .ok (.athrow, 1) := by decide +kernel
theorem d_Bus_variable_36 : decode b_Bus_variable 36 = .ok (.aload_n 0, 1) := by decide +kernel
theorem d_Bus_variable_37 : decode b_Bus_variable 37 = .ok (.getfield 11, 3) := by decide +kernel
theorem d_Bus_variable_40 : decode b_Bus_variable 40 = .ok (.iload_n 1, 1) := by decide +kernel
theorem d_Bus_variable_41 : decode b_Bus_variable 41 = .ok (.aaload, 1) := by decide +kernel
theorem d_Bus_variable_42 : decode b_Bus_variable 42 = .ok (.getfield 215, 3) := by decide +kernel
theorem d_Bus_variable_45 : decode b_Bus_variable 45 = .ok (.iload_n 2, 1) := by decide +kernel
theorem d_Bus_variable_46 : decode b_Bus_variable 46 = .ok (.iaload, 1) := by decide +kernel
theorem d_Bus_variable_47 : decode b_Bus_variable 47 = .ok (.ireturn, 1) := by decide +kernel
theorem d_Bus_queued_0 : decode b_Bus_queued 0 = .ok (.aload_n 0, 1) := by decide +kernel
theorem d_Bus_queued_1 : decode b_Bus_queued 1 = .ok (.iload_n 1, 1) := by decide +kernel
theorem d_Bus_queued_2 : decode b_Bus_queued 2 = .ok (.invokevirtual 94, 3) := by decide +kernel
theorem d_Bus_queued_5 : decode b_Bus_queued 5 = .ok (.ifCond .eq 12, 3) := by decide +kernel
theorem d_Bus_queued_8 : decode b_Bus_queued 8 = .ok (.iload_n 2, 1) := by decide +kernel
theorem d_Bus_queued_9 : decode b_Bus_queued 9 = .ok (.bipush 6, 2) := by decide +kernel
theorem d_Bus_queued_11 : decode b_Bus_queued 11 = .ok (.invokestatic 74, 3) := by decide +kernel
theorem d_Bus_queued_14 : decode b_Bus_queued 14 = .ok (.ifCond .ne 13, 3) := by decide +kernel
theorem d_Bus_queued_17 : decode b_Bus_queued 17 = .ok (.new 98, 3) := by decide +kernel
theorem d_Bus_queued_20 : decode b_Bus_queued 20 = .ok (.dup, 1) := by decide +kernel
theorem d_Bus_queued_21 : decode b_Bus_queued 21 = .ok (.ldc 219, 2) := by decide +kernel
theorem d_Bus_queued_23 : decode b_Bus_queued 23 = .ok (.invokespecial 102, 3) := by decide +kernel
theorem d_Bus_queued_26 : decode b_Bus_queued 26 = .ok (.athrow, 1) := by decide +kernel
theorem d_Bus_queued_27 : decode b_Bus_queued 27 = .ok (.aload_n 0, 1) := by decide +kernel
theorem d_Bus_queued_28 : decode b_Bus_queued 28 = .ok (.getfield 11, 3) := by decide +kernel
theorem d_Bus_queued_31 : decode b_Bus_queued 31 = .ok (.iload_n 1, 1) := by decide +kernel
theorem d_Bus_queued_32 : decode b_Bus_queued 32 = .ok (.aaload, 1) := by decide +kernel
theorem d_Bus_queued_33 : decode b_Bus_queued 33 = .ok (.getfield 121, 3) := by decide +kernel
theorem d_Bus_queued_36 : decode b_Bus_queued 36 = .ok (.iload_n 2, 1) := by decide +kernel
theorem d_Bus_queued_37 : decode b_Bus_queued 37 = .ok (.aaload, 1) := by decide +kernel
theorem d_Bus_queued_38 : decode b_Bus_queued 38 = .ok (.astore 5, 2) := by decide +kernel
theorem d_Bus_queued_40 : decode b_Bus_queued 40 = .ok (.iload_n 3, 1) := by decide +kernel
theorem d_Bus_queued_41 : decode b_Bus_queued 41 = .ok (.aload 5, 2) := by decide +kernel
theorem d_Bus_queued_43 : decode b_Bus_queued 43 = .ok (.getfield 151, 3) := by decide +kernel
theorem d_Bus_queued_46 : decode b_Bus_queued 46 = .ok (.invokestatic 74, 3) := by decide +kernel
theorem d_Bus_queued_49 : decode b_Bus_queued 49 = .ok (.ifCond .ne 13, 3) := by decide +kernel
theorem d_Bus_queued_52 : decode b_Bus_queued 52 = .ok (.new 98, 3) := by decide +kernel
theorem d_Bus_queued_55 : decode b_Bus_queued 55 = .ok (.dup, 1) := by decide +kernel
theorem d_Bus_queued_56 : decode b_Bus_queued 56 = .ok (.ldc 221, 2) := by decide +kernel
theorem d_Bus_queued_58 : decode b_Bus_queued 58 = .ok (.invokespecial 102, 3) := by decide +kernel
theorem d_Bus_queued_61 : decode b_Bus_queued 61 = .ok (.athrow, 1) := by decide +kernel
theorem d_Bus_queued_62 : decode b_Bus_queued 62 = .ok (.iload 4, 2) := by decide +kernel
theorem d_Bus_queued_64 : decode b_Bus_queued 64 = .ok (.iconst 3, 1) := by decide +kernel
theorem d_Bus_queued_65 : decode b_Bus_queued 65 = .ok (.invokestatic 74, 3) := by decide +kernel
theorem d_Bus_queued_68 : decode b_Bus_queued 68 = .ok (.ifCond .ne 13, 3) := by decide +kernel
theorem d_Bus_queued_71 : decode b_Bus_queued 71 = .ok (.new 78, 3) := by decide +kernel
theorem d_Bus_queued_74 : decode b_Bus_queued 74 = .ok (.dup, 1) := by decide +kernel
theorem d_Bus_queued_75 : decode b_Bus_queued 75 = .ok (.ldc 223, 2) := by decide +kernel
theorem d_Bus_queued_77 : decode b_Bus_queued 77 = .ok (.invokespecial 82, 3) := by decide +kernel
theorem d_Bus_queued_80 : decode b_Bus_queued 80 = .ok (.athrow, 1) := by decide +kernel
theorem d_Bus_queued_81 : decode b_Bus_queued 81 = .ok (.aload 5, 2) := by decide +kernel
theorem d_Bus_queued_83 : decode b_Bus_queued 83 = .ok (.iload_n 3, 1) := by decide +kernel
theorem d_Bus_queued_84 : decode b_Bus_queued 84 = .ok (.iload 4, 2) := by decide +kernel
theorem d_Bus_queued_86 : decode b_Bus_queued 86 = .ok (.invokevirtual 225, 3) := by decide +kernel
theorem d_Bus_queued_89 : decode b_Bus_queued 89 = .ok (.ireturn, 1) := by decide +kernel
theorem d_Bus_keep_0 : decode b_Bus_keep 0 = .ok (.iload_n 1, 1) := by decide +kernel
theorem d_Bus_keep_1 : decode b_Bus_keep 1 = .ok (.bipush 6, 2) := by decide +kernel
theorem d_Bus_keep_3 : decode b_Bus_keep 3 = .ok (.invokestatic 74, 3) := by decide +kernel
theorem d_Bus_keep_6 : decode b_Bus_keep 6 = .ok (.ifCond .ne 13, 3) := by decide +kernel
theorem d_Bus_keep_9 : decode b_Bus_keep 9 = .ok (.new 78, 3) := by decide +kernel
theorem d_Bus_keep_12 : decode b_Bus_keep 12 = .ok (.dup, 1) := by decide +kernel
theorem d_Bus_keep_13 : decode b_Bus_keep 13 = .ok (.ldc 110, 2) := by decide +kernel
theorem d_Bus_keep_15 : decode b_Bus_keep 15 = .ok (.invokespecial 82, 3) := by decide +kernel
theorem d_Bus_keep_18 : decode b_Bus_keep 18 = .ok (.athrow, 1) := by decide +kernel
theorem d_Bus_keep_19 : decode b_Bus_keep 19 = .ok (.aload_n 0, 1) := by decide +kernel
theorem d_Bus_keep_20 : decode b_Bus_keep 20 = .ok (.getfield 17, 3) := by decide +kernel
theorem d_Bus_keep_23 : decode b_Bus_keep 23 = .ok (.iload_n 1, 1) := by decide +kernel
theorem d_Bus_keep_24 : decode b_Bus_keep 24 = .ok (.aaload, 1) := by decide +kernel
theorem d_Bus_keep_25 : decode b_Bus_keep 25 = .ok (.getfield 228, 3) := by decide +kernel
theorem d_Bus_keep_28 : decode b_Bus_keep 28 = .ok (.iload_n 2, 1) := by decide +kernel
theorem d_Bus_keep_29 : decode b_Bus_keep 29 = .ok (.if_icmp .eq 7, 3) := by decide +kernel
theorem d_Bus_keep_32 : decode b_Bus_keep 32 = .ok (.iconst 1, 1) := by decide +kernel
theorem d_Bus_keep_33 : decode b_Bus_keep 33 = .ok (.goto 4, 3) := by decide +kernel
theorem d_Bus_keep_36 : decode b_Bus_keep 36 = .ok (.iconst 0, 1) := by decide +kernel
theorem d_Bus_keep_37 : decode b_Bus_keep 37 = .ok (.istore_n 3, 1) := by decide +kernel
theorem d_Bus_keep_38 : decode b_Bus_keep 38 = .ok (.aload_n 0, 1) := by decide +kernel
theorem d_Bus_keep_39 : decode b_Bus_keep 39 = .ok (.getfield 17, 3) := by decide +kernel
theorem d_Bus_keep_42 : decode b_Bus_keep 42 = .ok (.iload_n 1, 1) := by decide +kernel
theorem d_Bus_keep_43 : decode b_Bus_keep 43 = .ok (.aaload, 1) := by decide +kernel
theorem d_Bus_keep_44 : decode b_Bus_keep 44 = .ok (.iload_n 2, 1) := by decide +kernel
theorem d_Bus_keep_45 : decode b_Bus_keep 45 = .ok (.putfield 228, 3) := by decide +kernel
theorem d_Bus_keep_48 : decode b_Bus_keep 48 = .ok (.iload_n 3, 1) := by decide +kernel
theorem d_Bus_keep_49 : decode b_Bus_keep 49 = .ok (.ifCond .eq 7, 3) := by decide +kernel
theorem d_Bus_keep_52 : decode b_Bus_keep 52 = .ok (.iconst 1, 1) := by decide +kernel
theorem d_Bus_keep_53 : decode b_Bus_keep 53 = .ok (.goto 4, 3) := by decide +kernel
theorem d_Bus_keep_56 : decode b_Bus_keep 56 = .ok (.iconst 0, 1) := by decide +kernel
theorem d_Bus_keep_57 : decode b_Bus_keep 57 = .ok (.ireturn, 1) := by decide +kernel
theorem d_Bus_play_0 : decode b_Bus_play 0 = .ok (.iload_n 1, 1) := by decide +kernel
theorem d_Bus_play_1 : decode b_Bus_play 1 = .ok (.iconst 1, 1) := by decide +kernel
theorem d_Bus_play_2 : decode b_Bus_play 2 = .ok (.iconst 4, 1) := by decide +kernel
theorem d_Bus_play_3 : decode b_Bus_play 3 = .ok (.invokestatic 115, 3) := by decide +kernel
theorem d_Bus_play_6 : decode b_Bus_play 6 = .ok (.ifCond .ne 13, 3) := by decide +kernel
theorem d_Bus_play_9 : decode b_Bus_play 9 = .ok (.new 78, 3) := by decide +kernel
theorem d_Bus_play_12 : decode b_Bus_play 12 = .ok (.dup, 1) := by decide +kernel
theorem d_Bus_play_13 : decode b_Bus_play 13 = .ok (.ldc 231, 2) := by decide +kernel
theorem d_Bus_play_15 : decode b_Bus_play 15 = .ok (.invokespecial 82, 3) := by decide +kernel
theorem d_Bus_play_18 : decode b_Bus_play 18 = .ok (.athrow, 1) := by decide +kernel
theorem d_Bus_play_19 : decode b_Bus_play 19 = .ok (.aload_n 0, 1) := by decide +kernel
theorem d_Bus_play_20 : decode b_Bus_play 20 = .ok (.getfield 36, 3) := by decide +kernel
theorem d_Bus_play_23 : decode b_Bus_play 23 = .ok (.invokevirtual 233, 3) := by decide +kernel
theorem d_Bus_play_26 : decode b_Bus_play 26 = .ok (.ifCond .eq 13, 3) := by decide +kernel
theorem d_Bus_play_29 : decode b_Bus_play 29 = .ok (.new 89, 3) := by decide +kernel
theorem d_Bus_play_32 : decode b_Bus_play 32 = .ok (.dup, 1) := by decide +kernel
theorem d_Bus_play_33 : decode b_Bus_play 33 = .ok (.ldc 236, 2) := by decide +kernel
theorem d_Bus_play_35 : decode b_Bus_play 35 = .ok (.invokespecial 93, 3) := by decide +kernel
theorem d_Bus_play_38 : decode b_Bus_play 38 = .ok (.athrow, 1) := by decide +kernel
theorem d_Bus_play_39 : decode b_Bus_play 39 = .ok (.aload_n 0, 1) := by decide +kernel
theorem d_Bus_play_40 : decode b_Bus_play 40 = .ok (.getfield 36, 3) := by decide +kernel
theorem d_Bus_play_43 : decode b_Bus_play 43 = .ok (.getfield 238, 3) := by decide +kernel
theorem d_Bus_play_46 : decode b_Bus_play 46 = .ok (.ifCond .ne 13, 3) := by decide +kernel
theorem d_Bus_play_49 : decode b_Bus_play 49 = .ok (.new 239, 3) := by decide +kernel
theorem d_Bus_play_52 : decode b_Bus_play 52 = .ok (.dup, 1) := by decide +kernel
theorem d_Bus_play_53 : decode b_Bus_play 53 = .ok (.ldc 241, 2) := by decide +kernel
theorem d_Bus_play_55 : decode b_Bus_play 55 = .ok (.invokespecial 243, 3) := by decide +kernel
theorem d_Bus_play_58 : decode b_Bus_play 58 = .ok (.athrow, 1) := by decide +kernel
theorem d_Bus_play_59 : decode b_Bus_play 59 = .ok (.aload_n 0, 1) := by decide +kernel
theorem d_Bus_play_60 : decode b_Bus_play 60 = .ok (.getfield 36, 3) := by decide +kernel
theorem d_Bus_play_63 : decode b_Bus_play 63 = .ok (.aload_n 0, 1) := by decide +kernel
theorem d_Bus_play_64 : decode b_Bus_play 64 = .ok (.getfield 47, 3) := by decide +kernel
theorem d_Bus_play_67 : decode b_Bus_play 67 = .ok (.iload_n 1, 1) := by decide +kernel
theorem d_Bus_play_68 : decode b_Bus_play 68 = .ok (.invokevirtual 244, 3) := by decide +kernel
theorem d_Bus_play_71 : decode b_Bus_play 71 = .ok (.aload_n 0, 1) := by decide +kernel
theorem d_Bus_play_72 : decode b_Bus_play 72 = .ok (.getfield 36, 3) := by decide +kernel
theorem d_Bus_play_75 : decode b_Bus_play 75 = .ok (.getfield 238, 3) := by decide +kernel
theorem d_Bus_play_78 : decode b_Bus_play 78 = .ok (.ireturn, 1) := by decide +kernel
theorem d_Bus_empty_0 : decode b_Bus_empty 0 = .ok (.aload_n 0, 1) := by decide +kernel
theorem d_Bus_empty_1 : decode b_Bus_empty 1 = .ok (.getfield 36, 3) := by decide +kernel
theorem d_Bus_empty_4 : decode b_Bus_empty 4 = .ok (.invokevirtual 233, 3) := by decide +kernel
theorem d_Bus_empty_7 : decode b_Bus_empty 7 = .ok (.ifCond .eq 13, 3) := by decide +kernel
theorem d_Bus_empty_10 : decode b_Bus_empty 10 = .ok (.new 89, 3) := by decide +kernel
theorem d_Bus_empty_13 : decode b_Bus_empty 13 = .ok (.dup, 1) := by decide +kernel
theorem d_Bus_empty_14 : decode b_Bus_empty 14 = .ok (.ldc 236, 2) := by decide +kernel
theorem d_Bus_empty_16 : decode b_Bus_empty 16 = .ok (.invokespecial 93, 3) := by decide +kernel
theorem d_Bus_empty_19 : decode b_Bus_empty 19 = .ok (.athrow, 1) := by decide +kernel
theorem d_Bus_empty_20 : decode b_Bus_empty 20 = .ok (.aload_n 0, 1) := by decide +kernel
theorem d_Bus_empty_21 : decode b_Bus_empty 21 = .ok (.getfield 36, 3) := by decide +kernel
theorem d_Bus_empty_24 : decode b_Bus_empty 24 = .ok (.getfield 238, 3) := by decide +kernel
theorem d_Bus_empty_27 : decode b_Bus_empty 27 = .ok (.istore_n 1, 1) := by decide +kernel
theorem d_Bus_empty_28 : decode b_Bus_empty 28 = .ok (.aload_n 0, 1) := by decide +kernel
theorem d_Bus_empty_29 : decode b_Bus_empty 29 = .ok (.getfield 36, 3) := by decide +kernel
theorem d_Bus_empty_32 : decode b_Bus_empty 32 = .ok (.iconst 0, 1) := by decide +kernel
theorem d_Bus_empty_33 : decode b_Bus_empty 33 = .ok (.putfield 238, 3) := by decide +kernel
theorem d_Bus_empty_36 : decode b_Bus_empty 36 = .ok (.iload_n 1, 1) := by decide +kernel
theorem d_Bus_empty_37 : decode b_Bus_empty 37 = .ok (.ireturn, 1) := by decide +kernel
theorem d_Bus_mount_0 : decode b_Bus_mount 0 = .ok (.iload_n 1, 1) := by decide +kernel
theorem d_Bus_mount_1 : decode b_Bus_mount 1 = .ok (.ifCond .eq 21, 3) := by decide +kernel
theorem d_Bus_mount_4 : decode b_Bus_mount 4 = .ok (.iload_n 1, 1) := by decide +kernel
theorem d_Bus_mount_5 : decode b_Bus_mount 5 = .ok (.bipush 6, 2) := by decide +kernel
theorem d_Bus_mount_7 : decode b_Bus_mount 7 = .ok (.invokestatic 74, 3) := by decide +kernel
theorem d_Bus_mount_10 : decode b_Bus_mount 10 = .ok (.ifCond .eq 12, 3) := by decide +kernel
theorem d_Bus_mount_13 : decode b_Bus_mount 13 = .ok (.iload_n 2, 1) := by decide +kernel
theorem d_Bus_mount_14 : decode b_Bus_mount 14 = .ok (.bipush 6, 2) := by decide +kernel
theorem d_Bus_mount_16 : decode b_Bus_mount 16 = .ok (.invokestatic 74, 3) := by decide +kernel
theorem d_Bus_mount_19 : decode b_Bus_mount 19 = .ok (.ifCond .ne 13, 3) := by decide +kernel
theorem d_Bus_mount_22 : decode b_Bus_mount 22 = .ok (.new 78, 3) := by decide +kernel
theorem d_Bus_mount_25 : decode b_Bus_mount 25 = .ok (.dup, 1) := by decide +kernel
theorem d_Bus_mount_26 : decode b_Bus_mount 26 = .ok (.ldc 248, 2) := by decide +kernel
theorem d_Bus_mount_28 : decode b_Bus_mount 28 = .ok (.invokespecial 82, 3) := by decide +kernel
theorem d_Bus_mount_31 : decode b_Bus_mount 31 = .ok (.athrow, 1) := by decide +kernel
theorem d_Bus_mount_32 : decode b_Bus_mount 32 = .ok (.aload_n 0, 1) := by decide +kernel
theorem d_Bus_mount_33 : decode b_Bus_mount 33 = .ok (.iload_n 1, 1) := by decide +kernel
theorem d_Bus_mount_34 : decode b_Bus_mount 34 = .ok (.iload_n 2, 1) := by decide +kernel
theorem d_Bus_mount_35 : decode b_Bus_mount 35 = .ok (.invokevirtual 250, 3) := by decide +kernel
theorem d_Bus_mount_38 : decode b_Bus_mount 38 = .ok (.ifCond .eq 13, 3) := by decide +kernel
theorem d_Bus_mount_41 : decode b_Bus_mount 41 = .ok (.new 89, 3) := by decide +kernel
theorem d_Bus_mount_44 : decode b_Bus_mount 44 = .ok (.dup, 1) := by decide +kernel
theorem d_Bus_mount_45 : decode b_Bus_mount 45 = .ok (.ldc 253, 2) := by decide +kernel
theorem d_Bus_mount_47 : decode b_Bus_mount 47 = .ok (.invokespecial 93, 3) := by decide +kernel
theorem d_Bus_mount_50 : decode b_Bus_mount 50 = .ok (.athrow, 1) := by decide +kernel
theorem d_Bus_mount_51 : decode b_Bus_mount 51 = .ok (.aload_n 0, 1) := by decide +kernel
theorem d_Bus_mount_52 : decode b_Bus_mount 52 = .ok (.getfield 29, 3) := by decide +kernel
theorem d_Bus_mount_55 : decode b_Bus_mount 55 = .ok (.iload_n 1, 1) := by decide +kernel
theorem d_Bus_mount_56 : decode b_Bus_mount 56 = .ok (.aaload, 1) := by decide +kernel
theorem d_Bus_mount_57 : decode b_Bus_mount 57 = .ok (.getfield 255, 3) := by decide +kernel
theorem d_Bus_mount_60 : decode b_Bus_mount 60 = .ok (.istore_n 3, 1) := by decide +kernel
theorem d_Bus_mount_61 : decode b_Bus_mount 61 = .ok (.aload_n 0, 1) := by decide +kernel
theorem d_Bus_mount_62 : decode b_Bus_mount 62 = .ok (.getfield 29, 3) := by decide +kernel
theorem d_Bus_mount_65 : decode b_Bus_mount 65 = .ok (.iload_n 1, 1) := by decide +kernel
theorem d_Bus_mount_66 : decode b_Bus_mount 66 = .ok (.aaload, 1) := by decide +kernel
theorem d_Bus_mount_67 : decode b_Bus_mount 67 = .ok (.iload_n 2, 1) := by decide +kernel
theorem d_Bus_mount_68 : decode b_Bus_mount 68 = .ok (.putfield 255, 3) := by decide +kernel
theorem d_Bus_mount_71 : decode b_Bus_mount 71 = .ok (.aload_n 0, 1) := by decide +kernel
theorem d_Bus_mount_72 : decode b_Bus_mount 72 = .ok (.getfield 29, 3) := by decide +kernel
theorem d_Bus_mount_75 : decode b_Bus_mount 75 = .ok (.iload_n 1, 1) := by decide +kernel
theorem d_Bus_mount_76 : decode b_Bus_mount 76 = .ok (.aaload, 1) := by decide +kernel
theorem d_Bus_mount_77 : decode b_Bus_mount 77 = .ok (.iconst 0, 1) := by decide +kernel
theorem d_Bus_mount_78 : decode b_Bus_mount 78 = .ok (.putfield 258, 3) := by decide +kernel
theorem d_Bus_mount_81 : decode b_Bus_mount 81 = .ok (.iload_n 3, 1) := by decide +kernel
theorem d_Bus_mount_82 : decode b_Bus_mount 82 = .ok (.ireturn, 1) := by decide +kernel
theorem d_Bus_isAbove_0 : decode b_Bus_isAbove 0 = .ok (.iload_n 2, 1) := by decide +kernel
theorem d_Bus_isAbove_1 : decode b_Bus_isAbove 1 = .ok (.istore_n 3, 1) := by decide +kernel
theorem d_Bus_isAbove_2 : decode b_Bus_isAbove 2 = .ok (.iconst 0, 1) := by decide +kernel
theorem d_Bus_isAbove_3 : decode b_Bus_isAbove 3 = .ok (.istore 4, 2) := by decide +kernel
theorem d_Bus_isAbove_5 : decode b_Bus_isAbove 5 = .ok (.iload 4, 2) := by decide +kernel
theorem d_Bus_isAbove_7 : decode b_Bus_isAbove 7 = .ok (.bipush 6, 2) := by decide +kernel
theorem d_Bus_isAbove_9 : decode b_Bus_isAbove 9 = .ok (.if_icmp .ge 31, 3) := by decide +kernel
theorem d_Bus_isAbove_12 : decode b_Bus_isAbove 12 = .ok (.iload_n 3, 1) := by decide +kernel
theorem d_Bus_isAbove_13 : decode b_Bus_isAbove 13 = .ok (.iconst (-1), 1) := by decide +kernel
theorem d_Bus_isAbove_14 : decode b_Bus_isAbove 14 = .ok (.if_icmp .eq 26, 3) := by decide +kernel
theorem d_Bus_isAbove_17 : decode b_Bus_isAbove 17 = .ok (.iload_n 3, 1) := by decide +kernel
theorem d_Bus_isAbove_18 : decode b_Bus_isAbove 18 = .ok (.iload_n 1, 1) := by decide +kernel
theorem d_Bus_isAbove_19 : decode b_Bus_isAbove 19 = .ok (.if_icmp .ne 5, 3) := by decide +kernel
theorem d_Bus_isAbove_22 : decode b_Bus_isAbove 22 = .ok (.iconst 1, 1) := by decide +kernel
theorem d_Bus_isAbove_23 : decode b_Bus_isAbove 23 = .ok (.ireturn, 1) := by decide +kernel
theorem d_Bus_isAbove_24 : decode b_Bus_isAbove 24 = .ok (.aload_n 0, 1) := by decide +kernel
theorem d_Bus_isAbove_25 : decode b_Bus_isAbove 25 = .ok (.getfield 29, 3) := by decide +kernel
theorem d_Bus_isAbove_28 : decode b_Bus_isAbove 28 = .ok (.iload_n 3, 1) := by decide +kernel
theorem d_Bus_isAbove_29 : decode b_Bus_isAbove 29 = .ok (.aaload, 1) := by decide +kernel
theorem d_Bus_isAbove_30 : decode b_Bus_isAbove 30 = .ok (.getfield 255, 3) := by decide +kernel
theorem d_Bus_isAbove_33 : decode b_Bus_isAbove 33 = .ok (.istore_n 3, 1) := by decide +kernel
theorem d_Bus_isAbove_34 : decode b_Bus_isAbove 34 = .ok (.iinc 4 1, 3) := by decide +kernel
theorem d_Bus_isAbove_37 : decode b_Bus_isAbove 37 = .ok (.goto (-32), 3) := by decide +kernel
theorem d_Bus_isAbove_40 : decode b_Bus_isAbove 40 = .ok (.iconst 0, 1) := by decide +kernel
theorem d_Bus_isAbove_41 : decode b_Bus_isAbove 41 = .ok (.ireturn, 1) := by decide +kernel
theorem d_Bus_sample_0 : decode b_Bus_sample 0 = .ok (.iload_n 1, 1) := by decide +kernel
theorem d_Bus_sample_1 : decode b_Bus_sample 1 = .ok (.bipush 6, 2) := by decide +kernel
theorem d_Bus_sample_3 : decode b_Bus_sample 3 = .ok (.invokestatic 74, 3) := by decide +kernel
theorem d_Bus_sample_6 : decode b_Bus_sample 6 = .ok (.ifCond .eq 16, 3) := by decide +kernel
theorem d_Bus_sample_9 : decode b_Bus_sample 9 = .ok (.aload_n 0, 1) := by decide +kernel
theorem d_Bus_sample_10 : decode b_Bus_sample 10 = .ok (.getfield 29, 3) := by decide +kernel
theorem d_Bus_sample_13 : decode b_Bus_sample 13 = .ok (.iload_n 1, 1) := by decide +kernel
theorem d_Bus_sample_14 : decode b_Bus_sample 14 = .ok (.aaload, 1) := by decide +kernel
theorem d_Bus_sample_15 : decode b_Bus_sample 15 = .ok (.getfield 255, 3) := by decide +kernel
theorem d_Bus_sample_18 : decode b_Bus_sample 18 = .ok (.iconst (-1), 1) := by decide +kernel
theorem d_Bus_sample_19 : decode b_Bus_sample 19 = .ok (.if_icmp .ne 14, 3) := by decide +kernel
theorem d_Bus_sample_22 : decode b_Bus_sample 22 = .ok (.new 98, 3) := by decide +kernel
theorem d_Bus_sample_25 : decode b_Bus_sample 25 = .ok (.dup, 1) := by decide +kernel
theorem d_Bus_sample_26 : decode b_Bus_sample 26 = .ok (.ldc_w 259, 3) := by decide +kernel
theorem d_Bus_sample_29 : decode b_Bus_sample 29 = .ok (.invokespecial 102, 3) := by decide +kernel
theorem d_Bus_sample_32 : decode b_Bus_sample 32 = .ok (.athrow, 1) := by decide +kernel
theorem d_Bus_sample_33 : decode b_Bus_sample 33 = .ok (.dload_n 3, 1) := by decide +kernel
theorem d_Bus_sample_34 : decode b_Bus_sample 34 = .ok (.invokestatic 261, 3) := by decide +kernel
theorem d_Bus_sample_37 : decode b_Bus_sample 37 = .ok (.ifCond .eq 31, 3) := by decide +kernel
theorem d_Bus_sample_40 : decode b_Bus_sample 40 = .ok (.dload 5, 2) := by decide +kernel
theorem d_Bus_sample_42 : decode b_Bus_sample 42 = .ok (.invokestatic 261, 3) := by decide +kernel
theorem d_Bus_sample_45 : decode b_Bus_sample 45 = .ok (.ifCond .eq 23, 3) := by decide +kernel
theorem d_Bus_sample_48 : decode b_Bus_sample 48 = .ok (.iload 7, 2) := by decide +kernel
theorem d_Bus_sample_50 : decode b_Bus_sample 50 = .ok (.iconst 4, 1) := by decide +kernel
theorem d_Bus_sample_51 : decode b_Bus_sample 51 = .ok (.invokestatic 74, 3) := by decide +kernel
theorem d_Bus_sample_54 : decode b_Bus_sample 54 = .ok (.ifCond .eq 14, 3) := by decide +kernel
theorem d_Bus_sample_57 : decode b_Bus_sample 57 = .ok (.iload_n 2, 1) := by decide +kernel
theorem d_Bus_sample_58 : decode b_Bus_sample 58 = .ok (.iconst 0, 1) := by decide +kernel
theorem d_Bus_sample_59 : decode b_Bus_sample 59 = .ok (.ldc_w 265, 3) := by decide +kernel
theorem d_Bus_sample_62 : decode b_Bus_sample 62 = .ok (.invokestatic 115, 3) := by decide +kernel
theorem d_Bus_sample_65 : decode b_Bus_sample 65 = .ok (.ifCond .ne 14, 3) := by decide +kernel
theorem d_Bus_sample_68 : decode b_Bus_sample 68 = .ok (.new 78, 3) := by decide +kernel
theorem d_Bus_sample_71 : decode b_Bus_sample 71 = .ok (.dup, 1) := by decide +kernel
theorem d_Bus_sample_72 : decode b_Bus_sample 72 = .ok (.ldc_w 266, 3) := by decide +kernel
theorem d_Bus_sample_75 : decode b_Bus_sample 75 = .ok (.invokespecial 82, 3) := by decide +kernel
theorem d_Bus_sample_78 : decode b_Bus_sample 78 = .ok (.athrow, 1) := by decide +kernel
theorem d_Bus_sample_79 : decode b_Bus_sample 79 = .ok (.aload_n 0, 1) := by decide +kernel
theorem d_Bus_sample_80 : decode b_Bus_sample 80 = .ok (.getfield 29, 3) := by decide +kernel
theorem d_Bus_sample_83 : decode b_Bus_sample 83 = .ok (.iload_n 1, 1) := by decide +kernel
theorem d_Bus_sample_84 : decode b_Bus_sample 84 = .ok (.aaload, 1) := by decide +kernel
theorem d_Bus_sample_85 : decode b_Bus_sample 85 = .ok (.iload_n 2, 1) := by decide +kernel
theorem d_Bus_sample_86 : decode b_Bus_sample 86 = .ok (.invokevirtual 268, 3) := by decide +kernel
theorem d_Bus_sample_89 : decode b_Bus_sample 89 = .ok (.ifCond .ne 14, 3) := by decide +kernel
theorem d_Bus_sample_92 : decode b_Bus_sample 92 = .ok (.new 89, 3) := by decide +kernel
theorem d_Bus_sample_95 : decode b_Bus_sample 95 = .ok (.dup, 1) := by decide +kernel
theorem d_Bus_sample_96 : decode b_Bus_sample 96 = .ok (.ldc_w 271, 3) := by decide +kernel
theorem d_Bus_sample_99 : decode b_Bus_sample 99 = .ok (.invokespecial 93, 3) := by decide +kernel
theorem d_Bus_sample_102 : decode b_Bus_sample 102 = .ok (.athrow, 1) := by decide +kernel
theorem d_Bus_sample_103 : decode b_Bus_sample 103 = .ok (.aload_n 0, 1) := by decide +kernel
theorem d_Bus_sample_104 : decode b_Bus_sample 104 = .ok (.getfield 29, 3) := by decide +kernel
theorem d_Bus_sample_107 : decode b_Bus_sample 107 = .ok (.iload_n 1, 1) := by decide +kernel
theorem d_Bus_sample_108 : decode b_Bus_sample 108 = .ok (.aaload, 1) := by decide +kernel
theorem d_Bus_sample_109 : decode b_Bus_sample 109 = .ok (.iload_n 2, 1) := by decide +kernel
theorem d_Bus_sample_110 : decode b_Bus_sample 110 = .ok (.dload_n 3, 1) := by decide +kernel
theorem d_Bus_sample_111 : decode b_Bus_sample 111 = .ok (.invokestatic 273, 3) := by decide +kernel
theorem d_Bus_sample_114 : decode b_Bus_sample 114 = .ok (.dload 5, 2) := by decide +kernel
theorem d_Bus_sample_116 : decode b_Bus_sample 116 = .ok (.invokestatic 273, 3) := by decide +kernel
theorem d_Bus_sample_119 : decode b_Bus_sample 119 = .ok (.iload 7, 2) := by decide +kernel
theorem d_Bus_sample_121 : decode b_Bus_sample 121 = .ok (.invokevirtual 277, 3) := by decide +kernel
theorem d_Bus_sample_124 : decode b_Bus_sample 124 = .ok (.aload_n 0, 1) := by decide +kernel
theorem d_Bus_sample_125 : decode b_Bus_sample 125 = .ok (.getfield 29, 3) := by decide +kernel
theorem d_Bus_sample_128 : decode b_Bus_sample 128 = .ok (.iload_n 1, 1) := by decide +kernel
theorem d_Bus_sample_129 : decode b_Bus_sample 129 = .ok (.aaload, 1) := by decide +kernel
theorem d_Bus_sample_130 : decode b_Bus_sample 130 = .ok (.getfield 258, 3) := by decide +kernel
theorem d_Bus_sample_133 : decode b_Bus_sample 133 = .ok (.ireturn, 1) := by decide +kernel
theorem d_Bus_isCoordinate_0 : decode b_Bus_isCoordinate 0 = .ok (.dload_n 0, 1) := by decide +kernel
theorem d_Bus_isCoordinate_1 : decode b_Bus_isCoordinate 1 = .ok (.ldc2_w 299, 3) := by decide +kernel
theorem d_Bus_isCoordinate_4 : decode b_Bus_isCoordinate 4 = .ok (.dcmp .l, 1) := by decide +kernel
theorem d_Bus_isCoordinate_5 : decode b_Bus_isCoordinate 5 = .ok (.ifCond .lt 29, 3) := by decide +kernel
theorem d_Bus_isCoordinate_8 : decode b_Bus_isCoordinate 8 = .ok (.dload_n 0, 1) := by decide +kernel
theorem d_Bus_isCoordinate_9 : decode b_Bus_isCoordinate 9 = .ok (.ldc2_w 301, 3) := by decide +kernel
theorem d_Bus_isCoordinate_12 : decode b_Bus_isCoordinate 12 = .ok (.dcmp .g, 1) := by decide +kernel
theorem d_Bus_isCoordinate_13 : decode b_Bus_isCoordinate 13 = .ok (.ifCond .gt 21, 3) := by decide +kernel
theorem d_Bus_isCoordinate_16 : decode b_Bus_isCoordinate 16 = .ok (.dload_n 0, 1) := by decide +kernel
theorem d_Bus_isCoordinate_17 : decode b_Bus_isCoordinate 17 = .ok (.invokestatic 273, 3) := by decide +kernel
theorem d_Bus_isCoordinate_20 : decode b_Bus_isCoordinate 20 = .ok (.i2d, 1) := by decide +kernel
theorem d_Bus_isCoordinate_21 : decode b_Bus_isCoordinate 21 = .ok (.dload_n 0, 1) := by decide +kernel
theorem d_Bus_isCoordinate_22 : decode b_Bus_isCoordinate 22 = .ok (.ldc2_w 295, 3) := by decide +kernel
theorem d_Bus_isCoordinate_25 : decode b_Bus_isCoordinate 25 = .ok (.dmul, 1) := by decide +kernel
theorem d_Bus_isCoordinate_26 : decode b_Bus_isCoordinate 26 = .ok (.dcmp .l, 1) := by decide +kernel
theorem d_Bus_isCoordinate_27 : decode b_Bus_isCoordinate 27 = .ok (.ifCond .ne 7, 3) := by decide +kernel
theorem d_Bus_isCoordinate_30 : decode b_Bus_isCoordinate 30 = .ok (.iconst 1, 1) := by decide +kernel
theorem d_Bus_isCoordinate_31 : decode b_Bus_isCoordinate 31 = .ok (.goto 4, 3) := by decide +kernel
theorem d_Bus_isCoordinate_34 : decode b_Bus_isCoordinate 34 = .ok (.iconst 0, 1) := by decide +kernel
theorem d_Bus_isCoordinate_35 : decode b_Bus_isCoordinate 35 = .ok (.ireturn, 1) := by decide +kernel
theorem d_Bus_toEighths_0 : decode b_Bus_toEighths 0 = .ok (.dload_n 0, 1) := by decide +kernel
theorem d_Bus_toEighths_1 : decode b_Bus_toEighths 1 = .ok (.ldc2_w 295, 3) := by decide +kernel
theorem d_Bus_toEighths_4 : decode b_Bus_toEighths 4 = .ok (.dmul, 1) := by decide +kernel
theorem d_Bus_toEighths_5 : decode b_Bus_toEighths 5 = .ok (.d2i, 1) := by decide +kernel
theorem d_Bus_toEighths_6 : decode b_Bus_toEighths 6 = .ok (.ireturn, 1) := by decide +kernel
theorem d_Bus_locate_0 : decode b_Bus_locate 0 = .ok (.iload_n 1, 1) := by decide +kernel
theorem d_Bus_locate_1 : decode b_Bus_locate 1 = .ok (.bipush 6, 2) := by decide +kernel
theorem d_Bus_locate_3 : decode b_Bus_locate 3 = .ok (.invokestatic 74, 3) := by decide +kernel
theorem d_Bus_locate_6 : decode b_Bus_locate 6 = .ok (.ifCond .eq 18, 3) := by decide +kernel
theorem d_Bus_locate_9 : decode b_Bus_locate 9 = .ok (.dload_n 3, 1) := by decide +kernel
theorem d_Bus_locate_10 : decode b_Bus_locate 10 = .ok (.invokestatic 261, 3) := by decide +kernel
theorem d_Bus_locate_13 : decode b_Bus_locate 13 = .ok (.ifCond .eq 11, 3) := by decide +kernel
theorem d_Bus_locate_16 : decode b_Bus_locate 16 = .ok (.dload 5, 2) := by decide +kernel
theorem d_Bus_locate_18 : decode b_Bus_locate 18 = .ok (.invokestatic 261, 3) := by decide +kernel
theorem d_Bus_locate_21 : decode b_Bus_locate 21 = .ok (.ifCond .ne 14, 3) := by decide +kernel
theorem d_Bus_locate_24 : decode b_Bus_locate 24 = .ok (.new 78, 3) := by decide +kernel
theorem d_Bus_locate_27 : decode b_Bus_locate 27 = .ok (.dup, 1) := by decide +kernel
theorem d_Bus_locate_28 : decode b_Bus_locate 28 = .ok (.ldc_w 280, 3) := by decide +kernel
theorem d_Bus_locate_31 : decode b_Bus_locate 31 = .ok (.invokespecial 82, 3) := by decide +kernel
theorem d_Bus_locate_34 : decode b_Bus_locate 34 = .ok (.athrow, 1) := by decide +kernel
theorem d_Bus_locate_35 : decode b_Bus_locate 35 = .ok (.aload_n 0, 1) := by decide +kernel
theorem d_Bus_locate_36 : decode b_Bus_locate 36 = .ok (.iconst 0, 1) := by decide +kernel
theorem d_Bus_locate_37 : decode b_Bus_locate 37 = .ok (.iload_n 1, 1) := by decide +kernel
theorem d_Bus_locate_38 : decode b_Bus_locate 38 = .ok (.invokevirtual 250, 3) := by decide +kernel
theorem d_Bus_locate_41 : decode b_Bus_locate 41 = .ok (.ifCond .ne 14, 3) := by decide +kernel
theorem d_Bus_locate_44 : decode b_Bus_locate 44 = .ok (.new 98, 3) := by decide +kernel
theorem d_Bus_locate_47 : decode b_Bus_locate 47 = .ok (.dup, 1) := by decide +kernel
theorem d_Bus_locate_48 : decode b_Bus_locate 48 = .ok (.ldc_w 282, 3) := by decide +kernel
theorem d_Bus_locate_51 : decode b_Bus_locate 51 = .ok (.invokespecial 102, 3) := by decide +kernel
theorem d_Bus_locate_54 : decode b_Bus_locate 54 = .ok (.athrow, 1) := by decide +kernel
theorem d_Bus_locate_55 : decode b_Bus_locate 55 = .ok (.aload_n 0, 1) := by decide +kernel
theorem d_Bus_locate_56 : decode b_Bus_locate 56 = .ok (.getfield 43, 3) := by decide +kernel
theorem d_Bus_locate_59 : decode b_Bus_locate 59 = .ok (.dload_n 3, 1) := by decide +kernel
theorem d_Bus_locate_60 : decode b_Bus_locate 60 = .ok (.invokestatic 273, 3) := by decide +kernel
theorem d_Bus_locate_63 : decode b_Bus_locate 63 = .ok (.putfield 284, 3) := by decide +kernel
theorem d_Bus_locate_66 : decode b_Bus_locate 66 = .ok (.aload_n 0, 1) := by decide +kernel
theorem d_Bus_locate_67 : decode b_Bus_locate 67 = .ok (.getfield 43, 3) := by decide +kernel
theorem d_Bus_locate_70 : decode b_Bus_locate 70 = .ok (.dload 5, 2) := by decide +kernel
theorem d_Bus_locate_72 : decode b_Bus_locate 72 = .ok (.invokestatic 273, 3) := by decide +kernel
theorem d_Bus_locate_75 : decode b_Bus_locate 75 = .ok (.putfield 287, 3) := by decide +kernel
theorem d_Bus_locate_78 : decode b_Bus_locate 78 = .ok (.aload_n 0, 1) := by decide +kernel
theorem d_Bus_locate_79 : decode b_Bus_locate 79 = .ok (.iload_n 1, 1) := by decide +kernel
theorem d_Bus_locate_80 : decode b_Bus_locate 80 = .ok (.iload_n 2, 1) := by decide +kernel
theorem d_Bus_locate_81 : decode b_Bus_locate 81 = .ok (.invokevirtual 290, 3) := by decide +kernel
theorem d_Bus_locate_84 : decode b_Bus_locate 84 = .ok (.ifCond .ne 14, 3) := by decide +kernel
theorem d_Bus_locate_87 : decode b_Bus_locate 87 = .ok (.new 203, 3) := by decide +kernel
theorem d_Bus_locate_90 : decode b_Bus_locate 90 = .ok (.dup, 1) := by decide +kernel
theorem d_Bus_locate_91 : decode b_Bus_locate 91 = .ok (.ldc_w 293, 3) := by decide +kernel
theorem d_Bus_locate_94 : decode b_Bus_locate 94 = .ok (.invokespecial 207, 3) := by decide +kernel
theorem d_Bus_locate_97 : decode b_Bus_locate 97 = .ok (.athrow, 1) := by decide +kernel
theorem d_Bus_locate_98 : decode b_Bus_locate 98 = .ok (.aload_n 0, 1) := by decide +kernel
theorem d_Bus_locate_99 : decode b_Bus_locate 99 = .ok (.aload_n 0, 1) := by decide +kernel
theorem d_Bus_locate_100 : decode b_Bus_locate 100 = .ok (.getfield 43, 3) := by decide +kernel
theorem d_Bus_locate_103 : decode b_Bus_locate 103 = .ok (.getfield 287, 3) := by decide +kernel
theorem d_Bus_locate_106 : decode b_Bus_locate 106 = .ok (.i2d, 1) := by decide +kernel
theorem d_Bus_locate_107 : decode b_Bus_locate 107 = .ok (.ldc2_w 295, 3) := by decide +kernel
theorem d_Bus_locate_110 : decode b_Bus_locate 110 = .ok (.ddiv, 1) := by decide +kernel
theorem d_Bus_locate_111 : decode b_Bus_locate 111 = .ok (.putfield 66, 3) := by decide +kernel
theorem d_Bus_locate_114 : decode b_Bus_locate 114 = .ok (.aload_n 0, 1) := by decide +kernel
theorem d_Bus_locate_115 : decode b_Bus_locate 115 = .ok (.getfield 43, 3) := by decide +kernel
theorem d_Bus_locate_118 : decode b_Bus_locate 118 = .ok (.getfield 284, 3) := by decide +kernel
theorem d_Bus_locate_121 : decode b_Bus_locate 121 = .ok (.i2d, 1) := by decide +kernel
theorem d_Bus_locate_122 : decode b_Bus_locate 122 = .ok (.ldc2_w 295, 3) := by decide +kernel
theorem d_Bus_locate_125 : decode b_Bus_locate 125 = .ok (.ddiv, 1) := by decide +kernel
theorem d_Bus_locate_126 : decode b_Bus_locate 126 = .ok (.dreturn, 1) := by decide +kernel
theorem d_Bus_liftToRoot_0 : decode b_Bus_liftToRoot 0 = .ok (.iload_n 1, 1) := by decide +kernel
theorem d_Bus_liftToRoot_1 : decode b_Bus_liftToRoot 1 = .ok (.istore_n 3, 1) := by decide +kernel
theorem d_Bus_liftToRoot_2 : decode b_Bus_liftToRoot 2 = .ok (.iconst 0, 1) := by decide +kernel
theorem d_Bus_liftToRoot_3 : decode b_Bus_liftToRoot 3 = .ok (.istore 4, 2) := by decide +kernel
theorem d_Bus_liftToRoot_5 : decode b_Bus_liftToRoot 5 = .ok (.iload 4, 2) := by decide +kernel
theorem d_Bus_liftToRoot_7 : decode b_Bus_liftToRoot 7 = .ok (.bipush 6, 2) := by decide +kernel
theorem d_Bus_liftToRoot_9 : decode b_Bus_liftToRoot 9 = .ok (.if_icmp .ge 59, 3) := by decide +kernel
theorem d_Bus_liftToRoot_12 : decode b_Bus_liftToRoot 12 = .ok (.iload_n 3, 1) := by decide +kernel
theorem d_Bus_liftToRoot_13 : decode b_Bus_liftToRoot 13 = .ok (.ifCond .eq 55, 3) := by decide +kernel
theorem d_Bus_liftToRoot_16 : decode b_Bus_liftToRoot 16 = .ok (.aload_n 0, 1) := by decide +kernel
theorem d_Bus_liftToRoot_17 : decode b_Bus_liftToRoot 17 = .ok (.getfield 29, 3) := by decide +kernel
theorem d_Bus_liftToRoot_20 : decode b_Bus_liftToRoot 20 = .ok (.iload_n 3, 1) := by decide +kernel
theorem d_Bus_liftToRoot_21 : decode b_Bus_liftToRoot 21 = .ok (.aaload, 1) := by decide +kernel
theorem d_Bus_liftToRoot_22 : decode b_Bus_liftToRoot 22 = .ok (.iload_n 2, 1) := by decide +kernel
theorem d_Bus_liftToRoot_23 : decode b_Bus_liftToRoot 23 = .ok (.invokevirtual 338, 3) := by decide +kernel
theorem d_Bus_liftToRoot_26 : decode b_Bus_liftToRoot 26 = .ok (.istore 5, 2) := by decide +kernel
theorem d_Bus_liftToRoot_28 : decode b_Bus_liftToRoot 28 = .ok (.iload 5, 2) := by decide +kernel
theorem d_Bus_liftToRoot_30 : decode b_Bus_liftToRoot 30 = .ok (.iconst (-1), 1) := by decide +kernel
theorem d_Bus_liftToRoot_31 : decode b_Bus_liftToRoot 31 = .ok (.if_icmp .ne 5, 3) := by decide +kernel
theorem d_Bus_liftToRoot_34 : decode b_Bus_liftToRoot 34 = .ok (.iconst 0, 1) := by decide +kernel
theorem d_Bus_liftToRoot_35 : decode b_Bus_liftToRoot 35 = .ok (.ireturn, 1) := by decide +kernel
theorem d_Bus_liftToRoot_36 : decode b_Bus_liftToRoot 36 = .ok (.aload_n 0, 1) := by decide +kernel
theorem d_Bus_liftToRoot_37 : decode b_Bus_liftToRoot 37 = .ok (.getfield 43, 3) := by decide +kernel
theorem d_Bus_liftToRoot_40 : decode b_Bus_liftToRoot 40 = .ok (.aload_n 0, 1) := by decide +kernel
theorem d_Bus_liftToRoot_41 : decode b_Bus_liftToRoot 41 = .ok (.getfield 29, 3) := by decide +kernel
theorem d_Bus_liftToRoot_44 : decode b_Bus_liftToRoot 44 = .ok (.iload_n 3, 1) := by decide +kernel
theorem d_Bus_liftToRoot_45 : decode b_Bus_liftToRoot 45 = .ok (.aaload, 1) := by decide +kernel
theorem d_Bus_liftToRoot_46 : decode b_Bus_liftToRoot 46 = .ok (.iload 5, 2) := by decide +kernel
theorem d_Bus_liftToRoot_48 : decode b_Bus_liftToRoot 48 = .ok (.iload_n 2, 1) := by decide +kernel
theorem d_Bus_liftToRoot_49 : decode b_Bus_liftToRoot 49 = .ok (.invokevirtual 341, 3) := by decide +kernel
theorem d_Bus_liftToRoot_52 : decode b_Bus_liftToRoot 52 = .ok (.aload_n 0, 1) := by decide +kernel
theorem d_Bus_liftToRoot_53 : decode b_Bus_liftToRoot 53 = .ok (.getfield 29, 3) := by decide +kernel
theorem d_Bus_liftToRoot_56 : decode b_Bus_liftToRoot 56 = .ok (.iload_n 3, 1) := by decide +kernel
theorem d_Bus_liftToRoot_57 : decode b_Bus_liftToRoot 57 = .ok (.aaload, 1) := by decide +kernel
theorem d_Bus_liftToRoot_58 : decode b_Bus_liftToRoot 58 = .ok (.getfield 255, 3) := by decide +kernel
theorem d_Bus_liftToRoot_61 : decode b_Bus_liftToRoot 61 = .ok (.istore_n 3, 1) := by decide +kernel
theorem d_Bus_liftToRoot_62 : decode b_Bus_liftToRoot 62 = .ok (.iinc 4 1, 3) := by decide +kernel
theorem d_Bus_liftToRoot_65 : decode b_Bus_liftToRoot 65 = .ok (.goto (-60), 3) := by decide +kernel
theorem d_Bus_liftToRoot_68 : decode b_Bus_liftToRoot 68 = .ok (.iconst 1, 1) := by decide +kernel
theorem d_Bus_liftToRoot_69 : decode b_Bus_liftToRoot 69 = .ok (.ireturn, 1) := by decide +kernel
theorem d_Bus_count_0 : decode b_Bus_count 0 = .ok (.iload_n 1, 1) := by decide +kernel
theorem d_Bus_count_1 : decode b_Bus_count 1 = .ok (.tableswitch 92 0 6 #[43, 48, 53, 58, 66, 82, 87], 43) := by decide +kernel
theorem d_Bus_count_44 : decode b_Bus_count 44 = .ok (.aload_n 0, 1) := by decide +kernel
theorem d_Bus_count_45 : decode b_Bus_count 45 = .ok (.getfield 47, 3) := by decide +kernel
theorem d_Bus_count_48 : decode b_Bus_count 48 = .ok (.ireturn, 1) := by decide +kernel
theorem d_Bus_count_49 : decode b_Bus_count 49 = .ok (.aload_n 0, 1) := by decide +kernel
theorem d_Bus_count_50 : decode b_Bus_count 50 = .ok (.getfield 51, 3) := by decide +kernel
theorem d_Bus_count_53 : decode b_Bus_count 53 = .ok (.ireturn, 1) := by decide +kernel
theorem d_Bus_count_54 : decode b_Bus_count 54 = .ok (.aload_n 0, 1) := by decide +kernel
theorem d_Bus_count_55 : decode b_Bus_count 55 = .ok (.getfield 54, 3) := by decide +kernel
theorem d_Bus_count_58 : decode b_Bus_count 58 = .ok (.ireturn, 1) := by decide +kernel
theorem d_Bus_count_59 : decode b_Bus_count 59 = .ok (.aload_n 0, 1) := by decide +kernel
theorem d_Bus_count_60 : decode b_Bus_count 60 = .ok (.getfield 36, 3) := by decide +kernel
theorem d_Bus_count_63 : decode b_Bus_count 63 = .ok (.getfield 238, 3) := by decide +kernel
theorem d_Bus_count_66 : decode b_Bus_count 66 = .ok (.ireturn, 1) := by decide +kernel
theorem d_Bus_count_67 : decode b_Bus_count 67 = .ok (.aload_n 0, 1) := by decide +kernel
theorem d_Bus_count_68 : decode b_Bus_count 68 = .ok (.getfield 36, 3) := by decide +kernel
theorem d_Bus_count_71 : decode b_Bus_count 71 = .ok (.invokevirtual 233, 3) := by decide +kernel
theorem d_Bus_count_74 : decode b_Bus_count 74 = .ok (.ifCond .eq 7, 3) := by decide +kernel
theorem d_Bus_count_77 : decode b_Bus_count 77 = .ok (.iconst 1, 1) := by decide +kernel
theorem d_Bus_count_78 : decode b_Bus_count 78 = .ok (.goto 4, 3) := by decide +kernel
theorem d_Bus_count_81 : decode b_Bus_count 81 = .ok (.iconst 0, 1) := by decide +kernel
theorem d_Bus_count_82 : decode b_Bus_count 82 = .ok (.ireturn, 1) := by decide +kernel
theorem d_Bus_count_83 : decode b_Bus_count 83 = .ok (.aload_n 0, 1) := by decide +kernel
theorem d_Bus_count_84 : decode b_Bus_count 84 = .ok (.getfield 57, 3) := by decide +kernel
theorem d_Bus_count_87 : decode b_Bus_count 87 = .ok (.ireturn, 1) := by decide +kernel
theorem d_Bus_count_88 : decode b_Bus_count 88 = .ok (.aload_n 0, 1) := by decide +kernel
theorem d_Bus_count_89 : decode b_Bus_count 89 = .ok (.getfield 60, 3) := by decide +kernel
theorem d_Bus_count_92 : decode b_Bus_count 92 = .ok (.ireturn, 1) := by decide +kernel
theorem d_Bus_count_93 : decode b_Bus_count 93 = .ok (.new 78, 3) := by decide +kernel
theorem d_Bus_count_96 : decode b_Bus_count 96 = .ok (.dup, 1) := by decide +kernel
theorem d_Bus_count_97 : decode b_Bus_count 97 = .ok (.ldc_w 297, 3) := by decide +kernel
theorem d_Bus_count_100 : decode b_Bus_count 100 = .ok (.invokespecial 82, 3) := by decide +kernel
theorem d_Bus_count_103 : decode b_Bus_count 103 = .ok (.athrow, 1) := by decide +kernel
