theorem dX0_init_0 : decode cX0_init 0 = .ok (.aload_n 0, 1) := by decide +kernel
theorem dX0_init_1 : decode cX0_init 1 = .ok (.invokespecial 3, 3) := by decide +kernel
theorem dX0_init_4 : decode cX0_init 4 = .ok (.aload_n 0, 1) := by decide +kernel
theorem dX0_init_5 : decode cX0_init 5 = .ok (.bipush 16, 2) := by decide +kernel
theorem dX0_init_7 : decode cX0_init 7 = .ok (.newarray .int, 2) := by decide +kernel
theorem dX0_init_9 : decode cX0_init 9 = .ok (.putfield 9, 3) := by decide +kernel
theorem dX0_init_12 : decode cX0_init 12 = .ok (.aload_n 0, 1) := by decide +kernel
theorem dX0_init_13 : decode cX0_init 13 = .ok (.aload_n 1, 1) := by decide +kernel
theorem dX0_init_14 : decode cX0_init 14 = .ok (.putfield 15, 3) := by decide +kernel
theorem dX0_init_17 : decode cX0_init 17 = .ok (.aload_n 0, 1) := by decide +kernel
theorem dX0_init_18 : decode cX0_init 18 = .ok (.aload_n 2, 1) := by decide +kernel
theorem dX0_init_19 : decode cX0_init 19 = .ok (.putfield 19, 3) := by decide +kernel
theorem dX0_init_22 : decode cX0_init 22 = .ok (.return_, 1) := by decide +kernel
theorem dX0_answer_0 : decode cX0_answer 0 = .ok (.aload_n 0, 1) := by decide +kernel
theorem dX0_answer_1 : decode cX0_answer 1 = .ok (.iconst 0, 1) := by decide +kernel
theorem dX0_answer_2 : decode cX0_answer 2 = .ok (.putfield 23, 3) := by decide +kernel
theorem dX0_answer_5 : decode cX0_answer 5 = .ok (.aload_n 0, 1) := by decide +kernel
theorem dX0_answer_6 : decode cX0_answer 6 = .ok (.iload_n 2, 1) := by decide +kernel
theorem dX0_answer_7 : decode cX0_answer 7 = .ok (.ifCond .ne 11, 3) := by decide +kernel
theorem dX0_answer_10 : decode cX0_answer 10 = .ok (.aload_n 0, 1) := by decide +kernel
theorem dX0_answer_11 : decode cX0_answer 11 = .ok (.iload_n 1, 1) := by decide +kernel
theorem dX0_answer_12 : decode cX0_answer 12 = .ok (.invokevirtual 27, 3) := by decide +kernel
theorem dX0_answer_15 : decode cX0_answer 15 = .ok (.goto 8, 3) := by decide +kernel
theorem dX0_answer_18 : decode cX0_answer 18 = .ok (.aload_n 0, 1) := by decide +kernel
theorem dX0_answer_19 : decode cX0_answer 19 = .ok (.iload_n 1, 1) := by decide +kernel
theorem dX0_answer_20 : decode cX0_answer 20 = .ok (.invokevirtual 31, 3) := by decide +kernel
theorem dX0_answer_23 : decode cX0_answer 23 = .ok (.iload_n 1, 1) := by decide +kernel
theorem dX0_answer_24 : decode cX0_answer 24 = .ok (.iconst 0, 1) := by decide +kernel
theorem dX0_answer_25 : decode cX0_answer 25 = .ok (.invokestatic 34, 3) := by decide +kernel
theorem dX0_answer_28 : decode cX0_answer 28 = .ok (.ireturn, 1) := by decide +kernel
theorem dX0_sizeBody_0 : decode cX0_sizeBody 0 = .ok (.getstatic 38, 3) := by decide +kernel
theorem dX0_sizeBody_3 : decode cX0_sizeBody 3 = .ok (.aload_n 0, 1) := by decide +kernel
theorem dX0_sizeBody_4 : decode cX0_sizeBody 4 = .ok (.getfield 15, 3) := by decide +kernel
theorem dX0_sizeBody_7 : decode cX0_sizeBody 7 = .ok (.getfield 41, 3) := by decide +kernel
theorem dX0_sizeBody_10 : decode cX0_sizeBody 10 = .ok (.iload_n 1, 1) := by decide +kernel
theorem dX0_sizeBody_11 : decode cX0_sizeBody 11 = .ok (.iaload, 1) := by decide +kernel
theorem dX0_sizeBody_12 : decode cX0_sizeBody 12 = .ok (.iaload, 1) := by decide +kernel
theorem dX0_sizeBody_13 : decode cX0_sizeBody 13 = .ok (.ireturn, 1) := by decide +kernel
theorem dX0_markBody_0 : decode cX0_markBody 0 = .ok (.getstatic 46, 3) := by decide +kernel
theorem dX0_markBody_3 : decode cX0_markBody 3 = .ok (.aload_n 0, 1) := by decide +kernel
theorem dX0_markBody_4 : decode cX0_markBody 4 = .ok (.getfield 15, 3) := by decide +kernel
theorem dX0_markBody_7 : decode cX0_markBody 7 = .ok (.getfield 41, 3) := by decide +kernel
theorem dX0_markBody_10 : decode cX0_markBody 10 = .ok (.iload_n 1, 1) := by decide +kernel
theorem dX0_markBody_11 : decode cX0_markBody 11 = .ok (.iaload, 1) := by decide +kernel
theorem dX0_markBody_12 : decode cX0_markBody 12 = .ok (.iaload, 1) := by decide +kernel
theorem dX0_markBody_13 : decode cX0_markBody 13 = .ok (.ireturn, 1) := by decide +kernel
theorem dX0_leave_0 : decode cX0_leave 0 = .ok (.aload_n 0, 1) := by decide +kernel
theorem dX0_leave_1 : decode cX0_leave 1 = .ok (.getfield 23, 3) := by decide +kernel
theorem dX0_leave_4 : decode cX0_leave 4 = .ok (.bipush 16, 2) := by decide +kernel
theorem dX0_leave_6 : decode cX0_leave 6 = .ok (.if_icmp .ge 23, 3) := by decide +kernel
theorem dX0_leave_9 : decode cX0_leave 9 = .ok (.aload_n 0, 1) := by decide +kernel
theorem dX0_leave_10 : decode cX0_leave 10 = .ok (.getfield 9, 3) := by decide +kernel
theorem dX0_leave_13 : decode cX0_leave 13 = .ok (.aload_n 0, 1) := by decide +kernel
theorem dX0_leave_14 : decode cX0_leave 14 = .ok (.getfield 23, 3) := by decide +kernel
theorem dX0_leave_17 : decode cX0_leave 17 = .ok (.iload_n 1, 1) := by decide +kernel
theorem dX0_leave_18 : decode cX0_leave 18 = .ok (.iastore, 1) := by decide +kernel
theorem dX0_leave_19 : decode cX0_leave 19 = .ok (.aload_n 0, 1) := by decide +kernel
theorem dX0_leave_20 : decode cX0_leave 20 = .ok (.dup, 1) := by decide +kernel
theorem dX0_leave_21 : decode cX0_leave 21 = .ok (.getfield 23, 3) := by decide +kernel
theorem dX0_leave_24 : decode cX0_leave 24 = .ok (.iconst 1, 1) := by decide +kernel
theorem dX0_leave_25 : decode cX0_leave 25 = .ok (.iadd, 1) := by decide +kernel
theorem dX0_leave_26 : decode cX0_leave 26 = .ok (.putfield 23, 3) := by decide +kernel
theorem dX0_leave_29 : decode cX0_leave 29 = .ok (.return_, 1) := by decide +kernel
theorem dX0_run_0 : decode cX0_run 0 = .ok (.iload_n 3, 1) := by decide +kernel
theorem dX0_run_1 : decode cX0_run 1 = .ok (.bipush 16, 2) := by decide +kernel
theorem dX0_run_3 : decode cX0_run 3 = .ok (.if_icmp .le 5, 3) := by decide +kernel
theorem dX0_run_6 : decode cX0_run 6 = .ok (.iconst 0, 1) := by decide +kernel
theorem dX0_run_7 : decode cX0_run 7 = .ok (.ireturn, 1) := by decide +kernel
theorem dX0_run_8 : decode cX0_run 8 = .ok (.aload_n 0, 1) := by decide +kernel
theorem dX0_run_9 : decode cX0_run 9 = .ok (.iload_n 1, 1) := by decide +kernel
theorem dX0_run_10 : decode cX0_run 10 = .ok (.invokevirtual 49, 3) := by decide +kernel
theorem dX0_run_13 : decode cX0_run 13 = .ok (.iload_n 3, 1) := by decide +kernel
theorem dX0_run_14 : decode cX0_run 14 = .ok (.iconst 1, 1) := by decide +kernel
theorem dX0_run_15 : decode cX0_run 15 = .ok (.iadd, 1) := by decide +kernel
theorem dX0_run_16 : decode cX0_run 16 = .ok (.istore 4, 2) := by decide +kernel
theorem dX0_run_18 : decode cX0_run 18 = .ok (.iload_n 1, 1) := by decide +kernel
theorem dX0_run_19 : decode cX0_run 19 = .ok (.tableswitch 212 10 24 #[73, 83, 106, 118, 131, 212, 212, 212, 212, 212, 143, 145, 163, 177, 200], 73) := by decide +kernel
theorem dX0_run_92 : decode cX0_run 92 = .ok (.aload_n 0, 1) := by decide +kernel
theorem dX0_run_93 : decode cX0_run 93 = .ok (.getfield 15, 3) := by decide +kernel
theorem dX0_run_96 : decode cX0_run 96 = .ok (.getfield 53, 3) := by decide +kernel
theorem dX0_run_99 : decode cX0_run 99 = .ok (.iload_n 2, 1) := by decide +kernel
theorem dX0_run_100 : decode cX0_run 100 = .ok (.iaload, 1) := by decide +kernel
theorem dX0_run_101 : decode cX0_run 101 = .ok (.ireturn, 1) := by decide +kernel
theorem dX0_run_102 : decode cX0_run 102 = .ok (.aload_n 0, 1) := by decide +kernel
theorem dX0_run_103 : decode cX0_run 103 = .ok (.bipush 10, 2) := by decide +kernel
theorem dX0_run_105 : decode cX0_run 105 = .ok (.iload_n 2, 1) := by decide +kernel
theorem dX0_run_106 : decode cX0_run 106 = .ok (.iload 4, 2) := by decide +kernel
theorem dX0_run_108 : decode cX0_run 108 = .ok (.invokestatic 34, 3) := by decide +kernel
theorem dX0_run_111 : decode cX0_run 111 = .ok (.aload_n 0, 1) := by decide +kernel
theorem dX0_run_112 : decode cX0_run 112 = .ok (.aload_n 0, 1) := by decide +kernel
theorem dX0_run_113 : decode cX0_run 113 = .ok (.iload_n 2, 1) := by decide +kernel
theorem dX0_run_114 : decode cX0_run 114 = .ok (.invokevirtual 31, 3) := by decide +kernel
theorem dX0_run_117 : decode cX0_run 117 = .ok (.iload_n 2, 1) := by decide +kernel
theorem dX0_run_118 : decode cX0_run 118 = .ok (.iload 4, 2) := by decide +kernel
theorem dX0_run_120 : decode cX0_run 120 = .ok (.invokestatic 34, 3) := by decide +kernel
theorem dX0_run_123 : decode cX0_run 123 = .ok (.iadd, 1) := by decide +kernel
theorem dX0_run_124 : decode cX0_run 124 = .ok (.ireturn, 1) := by decide +kernel
theorem dX0_run_125 : decode cX0_run 125 = .ok (.iconst 0, 1) := by decide +kernel
theorem dX0_run_126 : decode cX0_run 126 = .ok (.aload_n 0, 1) := by decide +kernel
theorem dX0_run_127 : decode cX0_run 127 = .ok (.bipush 11, 2) := by decide +kernel
theorem dX0_run_129 : decode cX0_run 129 = .ok (.iload_n 2, 1) := by decide +kernel
theorem dX0_run_130 : decode cX0_run 130 = .ok (.iload 4, 2) := by decide +kernel
theorem dX0_run_132 : decode cX0_run 132 = .ok (.invokestatic 34, 3) := by decide +kernel
theorem dX0_run_135 : decode cX0_run 135 = .ok (.isub, 1) := by decide +kernel
theorem dX0_run_136 : decode cX0_run 136 = .ok (.ireturn, 1) := by decide +kernel
theorem dX0_run_137 : decode cX0_run 137 = .ok (.aload_n 0, 1) := by decide +kernel
theorem dX0_run_138 : decode cX0_run 138 = .ok (.bipush 10, 2) := by decide +kernel
theorem dX0_run_140 : decode cX0_run 140 = .ok (.iload_n 2, 1) := by decide +kernel
theorem dX0_run_141 : decode cX0_run 141 = .ok (.iload 4, 2) := by decide +kernel
theorem dX0_run_143 : decode cX0_run 143 = .ok (.invokestatic 34, 3) := by decide +kernel
theorem dX0_run_146 : decode cX0_run 146 = .ok (.bipush 100, 2) := by decide +kernel
theorem dX0_run_148 : decode cX0_run 148 = .ok (.isub, 1) := by decide +kernel
theorem dX0_run_149 : decode cX0_run 149 = .ok (.ireturn, 1) := by decide +kernel
theorem dX0_run_150 : decode cX0_run 150 = .ok (.iconst 2, 1) := by decide +kernel
theorem dX0_run_151 : decode cX0_run 151 = .ok (.aload_n 0, 1) := by decide +kernel
theorem dX0_run_152 : decode cX0_run 152 = .ok (.bipush 13, 2) := by decide +kernel
theorem dX0_run_154 : decode cX0_run 154 = .ok (.iload_n 2, 1) := by decide +kernel
theorem dX0_run_155 : decode cX0_run 155 = .ok (.iload 4, 2) := by decide +kernel
theorem dX0_run_157 : decode cX0_run 157 = .ok (.invokestatic 34, 3) := by decide +kernel
theorem dX0_run_160 : decode cX0_run 160 = .ok (.imul, 1) := by decide +kernel
theorem dX0_run_161 : decode cX0_run 161 = .ok (.ireturn, 1) := by decide +kernel
theorem dX0_run_162 : decode cX0_run 162 = .ok (.iload_n 2, 1) := by decide +kernel
theorem dX0_run_163 : decode cX0_run 163 = .ok (.ireturn, 1) := by decide +kernel
theorem dX0_run_164 : decode cX0_run 164 = .ok (.aload_n 0, 1) := by decide +kernel
theorem dX0_run_165 : decode cX0_run 165 = .ok (.bipush 20, 2) := by decide +kernel
theorem dX0_run_167 : decode cX0_run 167 = .ok (.iload_n 2, 1) := by decide +kernel
theorem dX0_run_168 : decode cX0_run 168 = .ok (.iload 4, 2) := by decide +kernel
theorem dX0_run_170 : decode cX0_run 170 = .ok (.invokestatic 34, 3) := by decide +kernel
theorem dX0_run_173 : decode cX0_run 173 = .ok (.aload_n 0, 1) := by decide +kernel
theorem dX0_run_174 : decode cX0_run 174 = .ok (.getfield 19, 3) := by decide +kernel
theorem dX0_run_177 : decode cX0_run 177 = .ok (.getfield 56, 3) := by decide +kernel
theorem dX0_run_180 : decode cX0_run 180 = .ok (.iadd, 1) := by decide +kernel
theorem dX0_run_181 : decode cX0_run 181 = .ok (.ireturn, 1) := by decide +kernel
theorem dX0_run_182 : decode cX0_run 182 = .ok (.aload_n 0, 1) := by decide +kernel
theorem dX0_run_183 : decode cX0_run 183 = .ok (.bipush 21, 2) := by decide +kernel
theorem dX0_run_185 : decode cX0_run 185 = .ok (.iload_n 2, 1) := by decide +kernel
theorem dX0_run_186 : decode cX0_run 186 = .ok (.iload 4, 2) := by decide +kernel
theorem dX0_run_188 : decode cX0_run 188 = .ok (.invokestatic 34, 3) := by decide +kernel
theorem dX0_run_191 : decode cX0_run 191 = .ok (.sipush 1000, 3) := by decide +kernel
theorem dX0_run_194 : decode cX0_run 194 = .ok (.isub, 1) := by decide +kernel
theorem dX0_run_195 : decode cX0_run 195 = .ok (.ireturn, 1) := by decide +kernel
theorem dX0_run_196 : decode cX0_run 196 = .ok (.aload_n 0, 1) := by decide +kernel
theorem dX0_run_197 : decode cX0_run 197 = .ok (.bipush 20, 2) := by decide +kernel
theorem dX0_run_199 : decode cX0_run 199 = .ok (.iload_n 2, 1) := by decide +kernel
theorem dX0_run_200 : decode cX0_run 200 = .ok (.iload 4, 2) := by decide +kernel
theorem dX0_run_202 : decode cX0_run 202 = .ok (.invokestatic 34, 3) := by decide +kernel
theorem dX0_run_205 : decode cX0_run 205 = .ok (.aload_n 0, 1) := by decide +kernel
theorem dX0_run_206 : decode cX0_run 206 = .ok (.aload_n 0, 1) := by decide +kernel
theorem dX0_run_207 : decode cX0_run 207 = .ok (.iload_n 2, 1) := by decide +kernel
theorem dX0_run_208 : decode cX0_run 208 = .ok (.invokevirtual 27, 3) := by decide +kernel
theorem dX0_run_211 : decode cX0_run 211 = .ok (.iload_n 2, 1) := by decide +kernel
theorem dX0_run_212 : decode cX0_run 212 = .ok (.iload 4, 2) := by decide +kernel
theorem dX0_run_214 : decode cX0_run 214 = .ok (.invokestatic 34, 3) := by decide +kernel
theorem dX0_run_217 : decode cX0_run 217 = .ok (.isub, 1) := by decide +kernel
theorem dX0_run_218 : decode cX0_run 218 = .ok (.ireturn, 1) := by decide +kernel
theorem dX0_run_219 : decode cX0_run 219 = .ok (.iconst 2, 1) := by decide +kernel
theorem dX0_run_220 : decode cX0_run 220 = .ok (.aload_n 0, 1) := by decide +kernel
theorem dX0_run_221 : decode cX0_run 221 = .ok (.bipush 21, 2) := by decide +kernel
theorem dX0_run_223 : decode cX0_run 223 = .ok (.iload_n 2, 1) := by decide +kernel
theorem dX0_run_224 : decode cX0_run 224 = .ok (.iload 4, 2) := by decide +kernel
theorem dX0_run_226 : decode cX0_run 226 = .ok (.invokestatic 34, 3) := by decide +kernel
theorem dX0_run_229 : decode cX0_run 229 = .ok (.imul, 1) := by decide +kernel
theorem dX0_run_230 : decode cX0_run 230 = .ok (.ireturn, 1) := by decide +kernel
theorem dX0_run_231 : decode cX0_run 231 = .ok (.iconst 0, 1) := by decide +kernel
theorem dX0_run_232 : decode cX0_run 232 = .ok (.ireturn, 1) := by decide +kernel
theorem dX1_init_0 : decode cX1_init 0 = .ok (.aload_n 0, 1) := by decide +kernel
theorem dX1_init_1 : decode cX1_init 1 = .ok (.invokespecial 1, 3) := by decide +kernel
theorem dX1_init_4 : decode cX1_init 4 = .ok (.aload_n 0, 1) := by decide +kernel
theorem dX1_init_5 : decode cX1_init 5 = .ok (.new 7, 3) := by decide +kernel
theorem dX1_init_8 : decode cX1_init 8 = .ok (.dup, 1) := by decide +kernel
theorem dX1_init_9 : decode cX1_init 9 = .ok (.invokespecial 9, 3) := by decide +kernel
theorem dX1_init_12 : decode cX1_init 12 = .ok (.putfield 10, 3) := by decide +kernel
theorem dX1_init_15 : decode cX1_init 15 = .ok (.aload_n 0, 1) := by decide +kernel
theorem dX1_init_16 : decode cX1_init 16 = .ok (.new 16, 3) := by decide +kernel
theorem dX1_init_19 : decode cX1_init 19 = .ok (.dup, 1) := by decide +kernel
theorem dX1_init_20 : decode cX1_init 20 = .ok (.aload_n 0, 1) := by decide +kernel
theorem dX1_init_21 : decode cX1_init 21 = .ok (.getfield 10, 3) := by decide +kernel
theorem dX1_init_24 : decode cX1_init 24 = .ok (.invokespecial 18, 3) := by decide +kernel
theorem dX1_init_27 : decode cX1_init 27 = .ok (.putfield 21, 3) := by decide +kernel
theorem dX1_init_30 : decode cX1_init 30 = .ok (.return_, 1) := by decide +kernel
theorem dX2_init_0 : decode cX2_init 0 = .ok (.aload_n 0, 1) := by decide +kernel
theorem dX2_init_1 : decode cX2_init 1 = .ok (.invokespecial 3, 3) := by decide +kernel
theorem dX2_init_4 : decode cX2_init 4 = .ok (.aload_n 0, 1) := by decide +kernel
theorem dX2_init_5 : decode cX2_init 5 = .ok (.bipush 7, 2) := by decide +kernel
theorem dX2_init_7 : decode cX2_init 7 = .ok (.anewarray 9, 3) := by decide +kernel
theorem dX2_init_10 : decode cX2_init 10 = .ok (.putfield 11, 3) := by decide +kernel
theorem dX2_init_13 : decode cX2_init 13 = .ok (.aload_n 0, 1) := by decide +kernel
theorem dX2_init_14 : decode cX2_init 14 = .ok (.bipush 6, 2) := by decide +kernel
theorem dX2_init_16 : decode cX2_init 16 = .ok (.newarray .int, 2) := by decide +kernel
theorem dX2_init_18 : decode cX2_init 18 = .ok (.putfield 17, 3) := by decide +kernel
theorem dX2_init_21 : decode cX2_init 21 = .ok (.aload_n 0, 1) := by decide +kernel
theorem dX2_init_22 : decode cX2_init 22 = .ok (.bipush 6, 2) := by decide +kernel
theorem dX2_init_24 : decode cX2_init 24 = .ok (.newarray .int, 2) := by decide +kernel
theorem dX2_init_26 : decode cX2_init 26 = .ok (.putfield 21, 3) := by decide +kernel
theorem dX2_init_29 : decode cX2_init 29 = .ok (.aload_n 0, 1) := by decide +kernel
theorem dX2_init_30 : decode cX2_init 30 = .ok (.aload_n 1, 1) := by decide +kernel
theorem dX2_init_31 : decode cX2_init 31 = .ok (.putfield 24, 3) := by decide +kernel
theorem dX2_init_34 : decode cX2_init 34 = .ok (.iconst 0, 1) := by decide +kernel
theorem dX2_init_35 : decode cX2_init 35 = .ok (.istore_n 2, 1) := by decide +kernel
theorem dX2_init_36 : decode cX2_init 36 = .ok (.iload_n 2, 1) := by decide +kernel
theorem dX2_init_37 : decode cX2_init 37 = .ok (.bipush 6, 2) := by decide +kernel
theorem dX2_init_39 : decode cX2_init 39 = .ok (.if_icmp .gt 23, 3) := by decide +kernel
theorem dX2_init_42 : decode cX2_init 42 = .ok (.aload_n 0, 1) := by decide +kernel
theorem dX2_init_43 : decode cX2_init 43 = .ok (.getfield 11, 3) := by decide +kernel
theorem dX2_init_46 : decode cX2_init 46 = .ok (.iload_n 2, 1) := by decide +kernel
theorem dX2_init_47 : decode cX2_init 47 = .ok (.new 9, 3) := by decide +kernel
theorem dX2_init_50 : decode cX2_init 50 = .ok (.dup, 1) := by decide +kernel
theorem dX2_init_51 : decode cX2_init 51 = .ok (.aload_n 1, 1) := by decide +kernel
theorem dX2_init_52 : decode cX2_init 52 = .ok (.invokespecial 28, 3) := by decide +kernel
theorem dX2_init_55 : decode cX2_init 55 = .ok (.aastore, 1) := by decide +kernel
theorem dX2_init_56 : decode cX2_init 56 = .ok (.iinc 2 1, 3) := by decide +kernel
theorem dX2_init_59 : decode cX2_init 59 = .ok (.goto (-23), 3) := by decide +kernel
theorem dX2_init_62 : decode cX2_init 62 = .ok (.return_, 1) := by decide +kernel
theorem dX2_findFirst_0 : decode cX2_findFirst 0 = .ok (.aload_n 0, 1) := by decide +kernel
theorem dX2_findFirst_1 : decode cX2_findFirst 1 = .ok (.ldc 31, 2) := by decide +kernel
theorem dX2_findFirst_3 : decode cX2_findFirst 3 = .ok (.putfield 32, 3) := by decide +kernel
theorem dX2_findFirst_6 : decode cX2_findFirst 6 = .ok (.aload_n 0, 1) := by decide +kernel
theorem dX2_findFirst_7 : decode cX2_findFirst 7 = .ok (.iconst 0, 1) := by decide +kernel
theorem dX2_findFirst_8 : decode cX2_findFirst 8 = .ok (.putfield 36, 3) := by decide +kernel
theorem dX2_findFirst_11 : decode cX2_findFirst 11 = .ok (.aload_n 0, 1) := by decide +kernel
theorem dX2_findFirst_12 : decode cX2_findFirst 12 = .ok (.getfield 11, 3) := by decide +kernel
theorem dX2_findFirst_15 : decode cX2_findFirst 15 = .ok (.iconst 0, 1) := by decide +kernel
theorem dX2_findFirst_16 : decode cX2_findFirst 16 = .ok (.aaload, 1) := by decide +kernel
theorem dX2_findFirst_17 : decode cX2_findFirst 17 = .ok (.aload_n 1, 1) := by decide +kernel
theorem dX2_findFirst_18 : decode cX2_findFirst 18 = .ok (.invokevirtual 39, 3) := by decide +kernel
theorem dX2_findFirst_21 : decode cX2_findFirst 21 = .ok (.aload_n 0, 1) := by decide +kernel
theorem dX2_findFirst_22 : decode cX2_findFirst 22 = .ok (.getfield 11, 3) := by decide +kernel
theorem dX2_findFirst_25 : decode cX2_findFirst 25 = .ok (.iconst 0, 1) := by decide +kernel
theorem dX2_findFirst_26 : decode cX2_findFirst 26 = .ok (.aaload, 1) := by decide +kernel
theorem dX2_findFirst_27 : decode cX2_findFirst 27 = .ok (.iconst 0, 1) := by decide +kernel
theorem dX2_findFirst_28 : decode cX2_findFirst 28 = .ok (.putfield 43, 3) := by decide +kernel
theorem dX2_findFirst_31 : decode cX2_findFirst 31 = .ok (.aload_n 0, 1) := by decide +kernel
theorem dX2_findFirst_32 : decode cX2_findFirst 32 = .ok (.iconst 0, 1) := by decide +kernel
theorem dX2_findFirst_33 : decode cX2_findFirst 33 = .ok (.invokestatic 46, 3) := by decide +kernel
theorem dX2_findFirst_36 : decode cX2_findFirst 36 = .ok (.return_, 1) := by decide +kernel
theorem dX2_bestAt_0 : decode cX2_bestAt 0 = .ok (.iload_n 1, 1) := by decide +kernel
theorem dX2_bestAt_1 : decode cX2_bestAt 1 = .ok (.ifCond .lt 20, 3) := by decide +kernel
theorem dX2_bestAt_4 : decode cX2_bestAt 4 = .ok (.iload_n 1, 1) := by decide +kernel
theorem dX2_bestAt_5 : decode cX2_bestAt 5 = .ok (.aload_n 0, 1) := by decide +kernel
theorem dX2_bestAt_6 : decode cX2_bestAt 6 = .ok (.getfield 36, 3) := by decide +kernel
theorem dX2_bestAt_9 : decode cX2_bestAt 9 = .ok (.if_icmp .ge 12, 3) := by decide +kernel
theorem dX2_bestAt_12 : decode cX2_bestAt 12 = .ok (.aload_n 0, 1) := by decide +kernel
theorem dX2_bestAt_13 : decode cX2_bestAt 13 = .ok (.getfield 21, 3) := by decide +kernel
theorem dX2_bestAt_16 : decode cX2_bestAt 16 = .ok (.iload_n 1, 1) := by decide +kernel
theorem dX2_bestAt_17 : decode cX2_bestAt 17 = .ok (.iaload, 1) := by decide +kernel
theorem dX2_bestAt_18 : decode cX2_bestAt 18 = .ok (.goto 5, 3) := by decide +kernel
theorem dX2_bestAt_21 : decode cX2_bestAt 21 = .ok (.ldc 31, 2) := by decide +kernel
theorem dX2_bestAt_23 : decode cX2_bestAt 23 = .ok (.ireturn, 1) := by decide +kernel
theorem dX2_goOn_0 : decode cX2_goOn 0 = .ok (.iload_n 1, 1) := by decide +kernel
theorem dX2_goOn_1 : decode cX2_goOn 1 = .ok (.ifCond .lt 9, 3) := by decide +kernel
theorem dX2_goOn_4 : decode cX2_goOn 4 = .ok (.iload_n 1, 1) := by decide +kernel
theorem dX2_goOn_5 : decode cX2_goOn 5 = .ok (.bipush 6, 2) := by decide +kernel
theorem dX2_goOn_7 : decode cX2_goOn 7 = .ok (.if_icmp .le 4, 3) := by decide +kernel
theorem dX2_goOn_10 : decode cX2_goOn 10 = .ok (.return_, 1) := by decide +kernel
theorem dX2_goOn_11 : decode cX2_goOn 11 = .ok (.aload_n 0, 1) := by decide +kernel
theorem dX2_goOn_12 : decode cX2_goOn 12 = .ok (.getfield 11, 3) := by decide +kernel
theorem dX2_goOn_15 : decode cX2_goOn 15 = .ok (.iload_n 1, 1) := by decide +kernel
theorem dX2_goOn_16 : decode cX2_goOn 16 = .ok (.aaload, 1) := by decide +kernel
theorem dX2_goOn_17 : decode cX2_goOn 17 = .ok (.astore_n 2, 1) := by decide +kernel
theorem dX2_goOn_18 : decode cX2_goOn 18 = .ok (.aload_n 2, 1) := by decide +kernel
theorem dX2_goOn_19 : decode cX2_goOn 19 = .ok (.getfield 50, 3) := by decide +kernel
theorem dX2_goOn_22 : decode cX2_goOn 22 = .ok (.iconst 1, 1) := by decide +kernel
theorem dX2_goOn_23 : decode cX2_goOn 23 = .ok (.aload_n 0, 1) := by decide +kernel
theorem dX2_goOn_24 : decode cX2_goOn 24 = .ok (.getfield 24, 3) := by decide +kernel
theorem dX2_goOn_27 : decode cX2_goOn 27 = .ok (.getfield 53, 3) := by decide +kernel
theorem dX2_goOn_30 : decode cX2_goOn 30 = .ok (.ishl, 1) := by decide +kernel
theorem dX2_goOn_31 : decode cX2_goOn 31 = .ok (.iconst 1, 1) := by decide +kernel
theorem dX2_goOn_32 : decode cX2_goOn 32 = .ok (.isub, 1) := by decide +kernel
theorem dX2_goOn_33 : decode cX2_goOn 33 = .ok (.if_icmp .ne 13, 3) := by decide +kernel
theorem dX2_goOn_36 : decode cX2_goOn 36 = .ok (.aload_n 0, 1) := by decide +kernel
theorem dX2_goOn_37 : decode cX2_goOn 37 = .ok (.iload_n 1, 1) := by decide +kernel
theorem dX2_goOn_38 : decode cX2_goOn 38 = .ok (.aload_n 2, 1) := by decide +kernel
theorem dX2_goOn_39 : decode cX2_goOn 39 = .ok (.getfield 43, 3) := by decide +kernel
theorem dX2_goOn_42 : decode cX2_goOn 42 = .ok (.invokevirtual 58, 3) := by decide +kernel
theorem dX2_goOn_45 : decode cX2_goOn 45 = .ok (.return_, 1) := by decide +kernel
theorem dX2_goOn_46 : decode cX2_goOn 46 = .ok (.iload_n 1, 1) := by decide +kernel
theorem dX2_goOn_47 : decode cX2_goOn 47 = .ok (.bipush 6, 2) := by decide +kernel
theorem dX2_goOn_49 : decode cX2_goOn 49 = .ok (.if_icmp .ne 4, 3) := by decide +kernel
theorem dX2_goOn_52 : decode cX2_goOn 52 = .ok (.return_, 1) := by decide +kernel
theorem dX2_goOn_53 : decode cX2_goOn 53 = .ok (.iconst 0, 1) := by decide +kernel
theorem dX2_goOn_54 : decode cX2_goOn 54 = .ok (.istore_n 3, 1) := by decide +kernel
theorem dX2_goOn_55 : decode cX2_goOn 55 = .ok (.iload_n 3, 1) := by decide +kernel
theorem dX2_goOn_56 : decode cX2_goOn 56 = .ok (.aload_n 0, 1) := by decide +kernel
theorem dX2_goOn_57 : decode cX2_goOn 57 = .ok (.getfield 24, 3) := by decide +kernel
theorem dX2_goOn_60 : decode cX2_goOn 60 = .ok (.getfield 53, 3) := by decide +kernel
theorem dX2_goOn_63 : decode cX2_goOn 63 = .ok (.if_icmp .ge 89, 3) := by decide +kernel
theorem dX2_goOn_66 : decode cX2_goOn 66 = .ok (.aload_n 2, 1) := by decide +kernel
theorem dX2_goOn_67 : decode cX2_goOn 67 = .ok (.iload_n 3, 1) := by decide +kernel
theorem dX2_goOn_68 : decode cX2_goOn 68 = .ok (.invokevirtual 62, 3) := by decide +kernel
theorem dX2_goOn_71 : decode cX2_goOn 71 = .ok (.ifCond .eq 8, 3) := by decide +kernel
theorem dX2_goOn_74 : decode cX2_goOn 74 = .ok (.ldc 31, 2) := by decide +kernel
theorem dX2_goOn_76 : decode cX2_goOn 76 = .ok (.goto 17, 3) := by decide +kernel
theorem dX2_goOn_79 : decode cX2_goOn 79 = .ok (.aload_n 2, 1) := by decide +kernel
theorem dX2_goOn_80 : decode cX2_goOn 80 = .ok (.iload_n 3, 1) := by decide +kernel
theorem dX2_goOn_81 : decode cX2_goOn 81 = .ok (.aload_n 0, 1) := by decide +kernel
theorem dX2_goOn_82 : decode cX2_goOn 82 = .ok (.invokevirtual 66, 3) := by decide +kernel
theorem dX2_goOn_85 : decode cX2_goOn 85 = .ok (.aload_n 2, 1) := by decide +kernel
theorem dX2_goOn_86 : decode cX2_goOn 86 = .ok (.getfield 43, 3) := by decide +kernel
theorem dX2_goOn_89 : decode cX2_goOn 89 = .ok (.isub, 1) := by decide +kernel
theorem dX2_goOn_90 : decode cX2_goOn 90 = .ok (.invokevirtual 70, 3) := by decide +kernel
theorem dX2_goOn_93 : decode cX2_goOn 93 = .ok (.istore 4, 2) := by decide +kernel
theorem dX2_goOn_95 : decode cX2_goOn 95 = .ok (.iload 4, 2) := by decide +kernel
theorem dX2_goOn_97 : decode cX2_goOn 97 = .ok (.ldc 31, 2) := by decide +kernel
theorem dX2_goOn_99 : decode cX2_goOn 99 = .ok (.if_icmp .eq 47, 3) := by decide +kernel
theorem dX2_goOn_102 : decode cX2_goOn 102 = .ok (.aload_n 0, 1) := by decide +kernel
theorem dX2_goOn_103 : decode cX2_goOn 103 = .ok (.getfield 11, 3) := by decide +kernel
theorem dX2_goOn_106 : decode cX2_goOn 106 = .ok (.iload_n 1, 1) := by decide +kernel
theorem dX2_goOn_107 : decode cX2_goOn 107 = .ok (.iconst 1, 1) := by decide +kernel
theorem dX2_goOn_108 : decode cX2_goOn 108 = .ok (.iadd, 1) := by decide +kernel
theorem dX2_goOn_109 : decode cX2_goOn 109 = .ok (.aaload, 1) := by decide +kernel
theorem dX2_goOn_110 : decode cX2_goOn 110 = .ok (.astore 5, 2) := by decide +kernel
theorem dX2_goOn_112 : decode cX2_goOn 112 = .ok (.aload 5, 2) := by decide +kernel
theorem dX2_goOn_114 : decode cX2_goOn 114 = .ok (.aload_n 2, 1) := by decide +kernel
theorem dX2_goOn_115 : decode cX2_goOn 115 = .ok (.invokevirtual 39, 3) := by decide +kernel
theorem dX2_goOn_118 : decode cX2_goOn 118 = .ok (.aload 5, 2) := by decide +kernel
theorem dX2_goOn_120 : decode cX2_goOn 120 = .ok (.iload 4, 2) := by decide +kernel
theorem dX2_goOn_122 : decode cX2_goOn 122 = .ok (.invokevirtual 74, 3) := by decide +kernel
theorem dX2_goOn_125 : decode cX2_goOn 125 = .ok (.aload 5, 2) := by decide +kernel
theorem dX2_goOn_127 : decode cX2_goOn 127 = .ok (.iload_n 3, 1) := by decide +kernel
theorem dX2_goOn_128 : decode cX2_goOn 128 = .ok (.invokevirtual 78, 3) := by decide +kernel
theorem dX2_goOn_131 : decode cX2_goOn 131 = .ok (.pop, 1) := by decide +kernel
theorem dX2_goOn_132 : decode cX2_goOn 132 = .ok (.aload_n 0, 1) := by decide +kernel
theorem dX2_goOn_133 : decode cX2_goOn 133 = .ok (.getfield 17, 3) := by decide +kernel
theorem dX2_goOn_136 : decode cX2_goOn 136 = .ok (.iload_n 1, 1) := by decide +kernel
theorem dX2_goOn_137 : decode cX2_goOn 137 = .ok (.iload_n 3, 1) := by decide +kernel
theorem dX2_goOn_138 : decode cX2_goOn 138 = .ok (.iastore, 1) := by decide +kernel
theorem dX2_goOn_139 : decode cX2_goOn 139 = .ok (.aload_n 0, 1) := by decide +kernel
theorem dX2_goOn_140 : decode cX2_goOn 140 = .ok (.iload_n 1, 1) := by decide +kernel
theorem dX2_goOn_141 : decode cX2_goOn 141 = .ok (.iconst 1, 1) := by decide +kernel
theorem dX2_goOn_142 : decode cX2_goOn 142 = .ok (.iadd, 1) := by decide +kernel
theorem dX2_goOn_143 : decode cX2_goOn 143 = .ok (.invokestatic 46, 3) := by decide +kernel
theorem dX2_goOn_146 : decode cX2_goOn 146 = .ok (.iinc 3 1, 3) := by decide +kernel
theorem dX2_goOn_149 : decode cX2_goOn 149 = .ok (.goto (-94), 3) := by decide +kernel
theorem dX2_goOn_152 : decode cX2_goOn 152 = .ok (.return_, 1) := by decide +kernel
theorem dX2_mostWeeks_0 : decode cX2_mostWeeks 0 = .ok (.aload_n 0, 1) := by decide +kernel
theorem dX2_mostWeeks_1 : decode cX2_mostWeeks 1 = .ok (.getfield 32, 3) := by decide +kernel
theorem dX2_mostWeeks_4 : decode cX2_mostWeeks 4 = .ok (.ldc 31, 2) := by decide +kernel
theorem dX2_mostWeeks_6 : decode cX2_mostWeeks 6 = .ok (.if_icmp .ne 8, 3) := by decide +kernel
theorem dX2_mostWeeks_9 : decode cX2_mostWeeks 9 = .ok (.bipush 60, 2) := by decide +kernel
theorem dX2_mostWeeks_11 : decode cX2_mostWeeks 11 = .ok (.goto 9, 3) := by decide +kernel
theorem dX2_mostWeeks_14 : decode cX2_mostWeeks 14 = .ok (.aload_n 0, 1) := by decide +kernel
theorem dX2_mostWeeks_15 : decode cX2_mostWeeks 15 = .ok (.getfield 32, 3) := by decide +kernel
theorem dX2_mostWeeks_18 : decode cX2_mostWeeks 18 = .ok (.iconst 1, 1) := by decide +kernel
theorem dX2_mostWeeks_19 : decode cX2_mostWeeks 19 = .ok (.isub, 1) := by decide +kernel
theorem dX2_mostWeeks_20 : decode cX2_mostWeeks 20 = .ok (.ireturn, 1) := by decide +kernel
theorem dX2_keepTried_0 : decode cX2_keepTried 0 = .ok (.iload_n 2, 1) := by decide +kernel
theorem dX2_keepTried_1 : decode cX2_keepTried 1 = .ok (.aload_n 0, 1) := by decide +kernel
theorem dX2_keepTried_2 : decode cX2_keepTried 2 = .ok (.invokevirtual 66, 3) := by decide +kernel
theorem dX2_keepTried_5 : decode cX2_keepTried 5 = .ok (.if_icmp .le 4, 3) := by decide +kernel
theorem dX2_keepTried_8 : decode cX2_keepTried 8 = .ok (.return_, 1) := by decide +kernel
theorem dX2_keepTried_9 : decode cX2_keepTried 9 = .ok (.aload_n 0, 1) := by decide +kernel
theorem dX2_keepTried_10 : decode cX2_keepTried 10 = .ok (.iload_n 2, 1) := by decide +kernel
theorem dX2_keepTried_11 : decode cX2_keepTried 11 = .ok (.putfield 32, 3) := by decide +kernel
theorem dX2_keepTried_14 : decode cX2_keepTried 14 = .ok (.aload_n 0, 1) := by decide +kernel
theorem dX2_keepTried_15 : decode cX2_keepTried 15 = .ok (.iload_n 1, 1) := by decide +kernel
theorem dX2_keepTried_16 : decode cX2_keepTried 16 = .ok (.putfield 36, 3) := by decide +kernel
theorem dX2_keepTried_19 : decode cX2_keepTried 19 = .ok (.aload_n 0, 1) := by decide +kernel
theorem dX2_keepTried_20 : decode cX2_keepTried 20 = .ok (.getfield 17, 3) := by decide +kernel
theorem dX2_keepTried_23 : decode cX2_keepTried 23 = .ok (.iconst 0, 1) := by decide +kernel
theorem dX2_keepTried_24 : decode cX2_keepTried 24 = .ok (.aload_n 0, 1) := by decide +kernel
theorem dX2_keepTried_25 : decode cX2_keepTried 25 = .ok (.getfield 21, 3) := by decide +kernel
theorem dX2_keepTried_28 : decode cX2_keepTried 28 = .ok (.iconst 0, 1) := by decide +kernel
theorem dX2_keepTried_29 : decode cX2_keepTried 29 = .ok (.iload_n 1, 1) := by decide +kernel
theorem dX2_keepTried_30 : decode cX2_keepTried 30 = .ok (.invokestatic 82, 3) := by decide +kernel
theorem dX2_keepTried_33 : decode cX2_keepTried 33 = .ok (.return_, 1) := by decide +kernel
theorem dX3_init_0 : decode cX3_init 0 = .ok (.aload_n 0, 1) := by decide +kernel
theorem dX3_init_1 : decode cX3_init 1 = .ok (.invokespecial 3, 3) := by decide +kernel
theorem dX3_init_4 : decode cX3_init 4 = .ok (.aload_n 0, 1) := by decide +kernel
theorem dX3_init_5 : decode cX3_init 5 = .ok (.bipush 24, 2) := by decide +kernel
theorem dX3_init_7 : decode cX3_init 7 = .ok (.anewarray 9, 3) := by decide +kernel
theorem dX3_init_10 : decode cX3_init 10 = .ok (.putfield 11, 3) := by decide +kernel
theorem dX3_init_13 : decode cX3_init 13 = .ok (.iconst 0, 1) := by decide +kernel
theorem dX3_init_14 : decode cX3_init 14 = .ok (.istore_n 2, 1) := by decide +kernel
theorem dX3_init_15 : decode cX3_init 15 = .ok (.iload_n 2, 1) := by decide +kernel
theorem dX3_init_16 : decode cX3_init 16 = .ok (.bipush 24, 2) := by decide +kernel
theorem dX3_init_18 : decode cX3_init 18 = .ok (.if_icmp .ge 23, 3) := by decide +kernel
theorem dX3_init_21 : decode cX3_init 21 = .ok (.aload_n 0, 1) := by decide +kernel
theorem dX3_init_22 : decode cX3_init 22 = .ok (.getfield 11, 3) := by decide +kernel
theorem dX3_init_25 : decode cX3_init 25 = .ok (.iload_n 2, 1) := by decide +kernel
theorem dX3_init_26 : decode cX3_init 26 = .ok (.new 9, 3) := by decide +kernel
theorem dX3_init_29 : decode cX3_init 29 = .ok (.dup, 1) := by decide +kernel
theorem dX3_init_30 : decode cX3_init 30 = .ok (.aload_n 1, 1) := by decide +kernel
theorem dX3_init_31 : decode cX3_init 31 = .ok (.invokespecial 17, 3) := by decide +kernel
theorem dX3_init_34 : decode cX3_init 34 = .ok (.aastore, 1) := by decide +kernel
theorem dX3_init_35 : decode cX3_init 35 = .ok (.iinc 2 1, 3) := by decide +kernel
theorem dX3_init_38 : decode cX3_init 38 = .ok (.goto (-23), 3) := by decide +kernel
theorem dX3_init_41 : decode cX3_init 41 = .ok (.return_, 1) := by decide +kernel
theorem dX3_keep_0 : decode cX3_keep 0 = .ok (.aload_n 0, 1) := by decide +kernel
theorem dX3_keep_1 : decode cX3_keep 1 = .ok (.getfield 11, 3) := by decide +kernel
theorem dX3_keep_4 : decode cX3_keep 4 = .ok (.aload_n 0, 1) := by decide +kernel
theorem dX3_keep_5 : decode cX3_keep 5 = .ok (.getfield 20, 3) := by decide +kernel
theorem dX3_keep_8 : decode cX3_keep 8 = .ok (.aaload, 1) := by decide +kernel
theorem dX3_keep_9 : decode cX3_keep 9 = .ok (.aload_n 1, 1) := by decide +kernel
theorem dX3_keep_10 : decode cX3_keep 10 = .ok (.invokevirtual 24, 3) := by decide +kernel
theorem dX3_keep_13 : decode cX3_keep 13 = .ok (.aload_n 0, 1) := by decide +kernel
theorem dX3_keep_14 : decode cX3_keep 14 = .ok (.aload_n 0, 1) := by decide +kernel
theorem dX3_keep_15 : decode cX3_keep 15 = .ok (.getfield 20, 3) := by decide +kernel
theorem dX3_keep_18 : decode cX3_keep 18 = .ok (.iconst 1, 1) := by decide +kernel
theorem dX3_keep_19 : decode cX3_keep 19 = .ok (.iadd, 1) := by decide +kernel
theorem dX3_keep_20 : decode cX3_keep 20 = .ok (.bipush 24, 2) := by decide +kernel
theorem dX3_keep_22 : decode cX3_keep 22 = .ok (.if_icmp .ge 12, 3) := by decide +kernel
theorem dX3_keep_25 : decode cX3_keep 25 = .ok (.aload_n 0, 1) := by decide +kernel
theorem dX3_keep_26 : decode cX3_keep 26 = .ok (.getfield 20, 3) := by decide +kernel
theorem dX3_keep_29 : decode cX3_keep 29 = .ok (.iconst 1, 1) := by decide +kernel
theorem dX3_keep_30 : decode cX3_keep 30 = .ok (.iadd, 1) := by decide +kernel
theorem dX3_keep_31 : decode cX3_keep 31 = .ok (.goto 4, 3) := by decide +kernel
theorem dX3_keep_34 : decode cX3_keep 34 = .ok (.iconst 0, 1) := by decide +kernel
theorem dX3_keep_35 : decode cX3_keep 35 = .ok (.putfield 20, 3) := by decide +kernel
theorem dX3_keep_38 : decode cX3_keep 38 = .ok (.aload_n 0, 1) := by decide +kernel
theorem dX3_keep_39 : decode cX3_keep 39 = .ok (.bipush 24, 2) := by decide +kernel
theorem dX3_keep_41 : decode cX3_keep 41 = .ok (.aload_n 0, 1) := by decide +kernel
theorem dX3_keep_42 : decode cX3_keep 42 = .ok (.getfield 28, 3) := by decide +kernel
theorem dX3_keep_45 : decode cX3_keep 45 = .ok (.iconst 1, 1) := by decide +kernel
theorem dX3_keep_46 : decode cX3_keep 46 = .ok (.iadd, 1) := by decide +kernel
theorem dX3_keep_47 : decode cX3_keep 47 = .ok (.invokestatic 31, 3) := by decide +kernel
theorem dX3_keep_50 : decode cX3_keep 50 = .ok (.putfield 28, 3) := by decide +kernel
theorem dX3_keep_53 : decode cX3_keep 53 = .ok (.return_, 1) := by decide +kernel
theorem dX3_giveBack_0 : decode cX3_giveBack 0 = .ok (.aload_n 0, 1) := by decide +kernel
theorem dX3_giveBack_1 : decode cX3_giveBack 1 = .ok (.getfield 28, 3) := by decide +kernel
theorem dX3_giveBack_4 : decode cX3_giveBack 4 = .ok (.ifCond .ne 5, 3) := by decide +kernel
theorem dX3_giveBack_7 : decode cX3_giveBack 7 = .ok (.iconst 0, 1) := by decide +kernel
theorem dX3_giveBack_8 : decode cX3_giveBack 8 = .ok (.ireturn, 1) := by decide +kernel
theorem dX3_giveBack_9 : decode cX3_giveBack 9 = .ok (.aload_n 0, 1) := by decide +kernel
theorem dX3_giveBack_10 : decode cX3_giveBack 10 = .ok (.aload_n 0, 1) := by decide +kernel
theorem dX3_giveBack_11 : decode cX3_giveBack 11 = .ok (.getfield 20, 3) := by decide +kernel
theorem dX3_giveBack_14 : decode cX3_giveBack 14 = .ok (.ifCond .le 12, 3) := by decide +kernel
theorem dX3_giveBack_17 : decode cX3_giveBack 17 = .ok (.aload_n 0, 1) := by decide +kernel
theorem dX3_giveBack_18 : decode cX3_giveBack 18 = .ok (.getfield 20, 3) := by decide +kernel
theorem dX3_giveBack_21 : decode cX3_giveBack 21 = .ok (.iconst 1, 1) := by decide +kernel
theorem dX3_giveBack_22 : decode cX3_giveBack 22 = .ok (.isub, 1) := by decide +kernel
theorem dX3_giveBack_23 : decode cX3_giveBack 23 = .ok (.goto 5, 3) := by decide +kernel
theorem dX3_giveBack_26 : decode cX3_giveBack 26 = .ok (.bipush 23, 2) := by decide +kernel
theorem dX3_giveBack_28 : decode cX3_giveBack 28 = .ok (.putfield 20, 3) := by decide +kernel
theorem dX3_giveBack_31 : decode cX3_giveBack 31 = .ok (.aload_n 0, 1) := by decide +kernel
theorem dX3_giveBack_32 : decode cX3_giveBack 32 = .ok (.dup, 1) := by decide +kernel
theorem dX3_giveBack_33 : decode cX3_giveBack 33 = .ok (.getfield 28, 3) := by decide +kernel
theorem dX3_giveBack_36 : decode cX3_giveBack 36 = .ok (.iconst 1, 1) := by decide +kernel
theorem dX3_giveBack_37 : decode cX3_giveBack 37 = .ok (.isub, 1) := by decide +kernel
theorem dX3_giveBack_38 : decode cX3_giveBack 38 = .ok (.putfield 28, 3) := by decide +kernel
theorem dX3_giveBack_41 : decode cX3_giveBack 41 = .ok (.aload_n 1, 1) := by decide +kernel
theorem dX3_giveBack_42 : decode cX3_giveBack 42 = .ok (.aload_n 0, 1) := by decide +kernel
theorem dX3_giveBack_43 : decode cX3_giveBack 43 = .ok (.getfield 11, 3) := by decide +kernel
theorem dX3_giveBack_46 : decode cX3_giveBack 46 = .ok (.aload_n 0, 1) := by decide +kernel
theorem dX3_giveBack_47 : decode cX3_giveBack 47 = .ok (.getfield 20, 3) := by decide +kernel
theorem dX3_giveBack_50 : decode cX3_giveBack 50 = .ok (.aaload, 1) := by decide +kernel
theorem dX3_giveBack_51 : decode cX3_giveBack 51 = .ok (.invokevirtual 24, 3) := by decide +kernel
theorem dX3_giveBack_54 : decode cX3_giveBack 54 = .ok (.iconst 1, 1) := by decide +kernel
theorem dX3_giveBack_55 : decode cX3_giveBack 55 = .ok (.ireturn, 1) := by decide +kernel
theorem dX3_forget_0 : decode cX3_forget 0 = .ok (.aload_n 0, 1) := by decide +kernel
theorem dX3_forget_1 : decode cX3_forget 1 = .ok (.iconst 0, 1) := by decide +kernel
theorem dX3_forget_2 : decode cX3_forget 2 = .ok (.putfield 28, 3) := by decide +kernel
theorem dX3_forget_5 : decode cX3_forget 5 = .ok (.return_, 1) := by decide +kernel
theorem dX4_init_0 : decode cX4_init 0 = .ok (.aload_n 0, 1) := by decide +kernel
theorem dX4_init_1 : decode cX4_init 1 = .ok (.invokespecial 3, 3) := by decide +kernel
theorem dX4_init_4 : decode cX4_init 4 = .ok (.aload_n 0, 1) := by decide +kernel
theorem dX4_init_5 : decode cX4_init 5 = .ok (.bipush 120, 2) := by decide +kernel
theorem dX4_init_7 : decode cX4_init 7 = .ok (.newarray .int, 2) := by decide +kernel
theorem dX4_init_9 : decode cX4_init 9 = .ok (.putfield 9, 3) := by decide +kernel
theorem dX4_init_12 : decode cX4_init 12 = .ok (.aload_n 0, 1) := by decide +kernel
theorem dX4_init_13 : decode cX4_init 13 = .ok (.new 15, 3) := by decide +kernel
theorem dX4_init_16 : decode cX4_init 16 = .ok (.dup, 1) := by decide +kernel
theorem dX4_init_17 : decode cX4_init 17 = .ok (.invokespecial 17, 3) := by decide +kernel
theorem dX4_init_20 : decode cX4_init 20 = .ok (.putfield 18, 3) := by decide +kernel
theorem dX4_init_23 : decode cX4_init 23 = .ok (.aload_n 0, 1) := by decide +kernel
theorem dX4_init_24 : decode cX4_init 24 = .ok (.new 22, 3) := by decide +kernel
theorem dX4_init_27 : decode cX4_init 27 = .ok (.dup, 1) := by decide +kernel
theorem dX4_init_28 : decode cX4_init 28 = .ok (.aload_n 0, 1) := by decide +kernel
theorem dX4_init_29 : decode cX4_init 29 = .ok (.getfield 18, 3) := by decide +kernel
theorem dX4_init_32 : decode cX4_init 32 = .ok (.invokespecial 24, 3) := by decide +kernel
theorem dX4_init_35 : decode cX4_init 35 = .ok (.putfield 27, 3) := by decide +kernel
theorem dX4_init_38 : decode cX4_init 38 = .ok (.return_, 1) := by decide +kernel
theorem dX4_append_0 : decode cX4_append 0 = .ok (.aload_n 0, 1) := by decide +kernel
theorem dX4_append_1 : decode cX4_append 1 = .ok (.getfield 31, 3) := by decide +kernel
theorem dX4_append_4 : decode cX4_append 4 = .ok (.bipush 120, 2) := by decide +kernel
theorem dX4_append_6 : decode cX4_append 6 = .ok (.if_icmp .lt 5, 3) := by decide +kernel
theorem dX4_append_9 : decode cX4_append 9 = .ok (.iconst 0, 1) := by decide +kernel
theorem dX4_append_10 : decode cX4_append 10 = .ok (.ireturn, 1) := by decide +kernel
theorem dX4_append_11 : decode cX4_append 11 = .ok (.aload_n 0, 1) := by decide +kernel
theorem dX4_append_12 : decode cX4_append 12 = .ok (.getfield 9, 3) := by decide +kernel
theorem dX4_append_15 : decode cX4_append 15 = .ok (.aload_n 0, 1) := by decide +kernel
theorem dX4_append_16 : decode cX4_append 16 = .ok (.getfield 31, 3) := by decide +kernel
theorem dX4_append_19 : decode cX4_append 19 = .ok (.iload_n 1, 1) := by decide +kernel
theorem dX4_append_20 : decode cX4_append 20 = .ok (.iastore, 1) := by decide +kernel
theorem dX4_append_21 : decode cX4_append 21 = .ok (.aload_n 0, 1) := by decide +kernel
theorem dX4_append_22 : decode cX4_append 22 = .ok (.dup, 1) := by decide +kernel
theorem dX4_append_23 : decode cX4_append 23 = .ok (.getfield 31, 3) := by decide +kernel
theorem dX4_append_26 : decode cX4_append 26 = .ok (.iconst 1, 1) := by decide +kernel
theorem dX4_append_27 : decode cX4_append 27 = .ok (.iadd, 1) := by decide +kernel
theorem dX4_append_28 : decode cX4_append 28 = .ok (.putfield 31, 3) := by decide +kernel
theorem dX4_append_31 : decode cX4_append 31 = .ok (.iconst 1, 1) := by decide +kernel
theorem dX4_append_32 : decode cX4_append 32 = .ok (.ireturn, 1) := by decide +kernel
theorem dX4_readTape_0 : decode cX4_readTape 0 = .ok (.aload_n 0, 1) := by decide +kernel
theorem dX4_readTape_1 : decode cX4_readTape 1 = .ok (.aload_n 0, 1) := by decide +kernel
theorem dX4_readTape_2 : decode cX4_readTape 2 = .ok (.getfield 31, 3) := by decide +kernel
theorem dX4_readTape_5 : decode cX4_readTape 5 = .ok (.putfield 35, 3) := by decide +kernel
theorem dX4_readTape_8 : decode cX4_readTape 8 = .ok (.aload_n 0, 1) := by decide +kernel
theorem dX4_readTape_9 : decode cX4_readTape 9 = .ok (.iconst 0, 1) := by decide +kernel
theorem dX4_readTape_10 : decode cX4_readTape 10 = .ok (.putfield 31, 3) := by decide +kernel
theorem dX4_readTape_13 : decode cX4_readTape 13 = .ok (.aload_n 0, 1) := by decide +kernel
theorem dX4_readTape_14 : decode cX4_readTape 14 = .ok (.iconst 0, 1) := by decide +kernel
theorem dX4_readTape_15 : decode cX4_readTape 15 = .ok (.putfield 38, 3) := by decide +kernel
theorem dX4_readTape_18 : decode cX4_readTape 18 = .ok (.aload_n 0, 1) := by decide +kernel
theorem dX4_readTape_19 : decode cX4_readTape 19 = .ok (.getfield 18, 3) := by decide +kernel
theorem dX4_readTape_22 : decode cX4_readTape 22 = .ok (.iconst 0, 1) := by decide +kernel
theorem dX4_readTape_23 : decode cX4_readTape 23 = .ok (.putfield 41, 3) := by decide +kernel
theorem dX4_readTape_26 : decode cX4_readTape 26 = .ok (.aload_n 0, 1) := by decide +kernel
theorem dX4_readTape_27 : decode cX4_readTape 27 = .ok (.getfield 18, 3) := by decide +kernel
theorem dX4_readTape_30 : decode cX4_readTape 30 = .ok (.iconst 0, 1) := by decide +kernel
theorem dX4_readTape_31 : decode cX4_readTape 31 = .ok (.putfield 44, 3) := by decide +kernel
theorem dX4_readTape_34 : decode cX4_readTape 34 = .ok (.aload_n 0, 1) := by decide +kernel
theorem dX4_readTape_35 : decode cX4_readTape 35 = .ok (.invokevirtual 47, 3) := by decide +kernel
theorem dX4_readTape_38 : decode cX4_readTape 38 = .ok (.aload_n 0, 1) := by decide +kernel
theorem dX4_readTape_39 : decode cX4_readTape 39 = .ok (.invokevirtual 50, 3) := by decide +kernel
theorem dX4_readTape_42 : decode cX4_readTape 42 = .ok (.ifCond .eq 21, 3) := by decide +kernel
theorem dX4_readTape_45 : decode cX4_readTape 45 = .ok (.aload_n 0, 1) := by decide +kernel
theorem dX4_readTape_46 : decode cX4_readTape 46 = .ok (.invokevirtual 54, 3) := by decide +kernel
theorem dX4_readTape_49 : decode cX4_readTape 49 = .ok (.ifCond .eq 14, 3) := by decide +kernel
theorem dX4_readTape_52 : decode cX4_readTape 52 = .ok (.aload_n 0, 1) := by decide +kernel
theorem dX4_readTape_53 : decode cX4_readTape 53 = .ok (.invokevirtual 57, 3) := by decide +kernel
theorem dX4_readTape_56 : decode cX4_readTape 56 = .ok (.ifCond .eq 7, 3) := by decide +kernel
theorem dX4_readTape_59 : decode cX4_readTape 59 = .ok (.iconst 1, 1) := by decide +kernel
theorem dX4_readTape_60 : decode cX4_readTape 60 = .ok (.goto 4, 3) := by decide +kernel
theorem dX4_readTape_63 : decode cX4_readTape 63 = .ok (.iconst 0, 1) := by decide +kernel
theorem dX4_readTape_64 : decode cX4_readTape 64 = .ok (.ireturn, 1) := by decide +kernel
theorem dX4_readLaw_0 : decode cX4_readLaw 0 = .ok (.aload_n 0, 1) := by decide +kernel
theorem dX4_readLaw_1 : decode cX4_readLaw 1 = .ok (.bipush 99, 2) := by decide +kernel
theorem dX4_readLaw_3 : decode cX4_readLaw 3 = .ok (.invokevirtual 60, 3) := by decide +kernel
theorem dX4_readLaw_6 : decode cX4_readLaw 6 = .ok (.ifCond .eq 13, 3) := by decide +kernel
theorem dX4_readLaw_9 : decode cX4_readLaw 9 = .ok (.aload_n 0, 1) := by decide +kernel
theorem dX4_readLaw_10 : decode cX4_readLaw 10 = .ok (.iconst 1, 1) := by decide +kernel
theorem dX4_readLaw_11 : decode cX4_readLaw 11 = .ok (.bipush 60, 2) := by decide +kernel
theorem dX4_readLaw_13 : decode cX4_readLaw 13 = .ok (.invokevirtual 64, 3) := by decide +kernel
theorem dX4_readLaw_16 : decode cX4_readLaw 16 = .ok (.ifCond .ne 5, 3) := by decide +kernel
theorem dX4_readLaw_19 : decode cX4_readLaw 19 = .ok (.iconst 0, 1) := by decide +kernel
theorem dX4_readLaw_20 : decode cX4_readLaw 20 = .ok (.ireturn, 1) := by decide +kernel
theorem dX4_readLaw_21 : decode cX4_readLaw 21 = .ok (.aload_n 0, 1) := by decide +kernel
theorem dX4_readLaw_22 : decode cX4_readLaw 22 = .ok (.getfield 18, 3) := by decide +kernel
theorem dX4_readLaw_25 : decode cX4_readLaw 25 = .ok (.aload_n 0, 1) := by decide +kernel
theorem dX4_readLaw_26 : decode cX4_readLaw 26 = .ok (.getfield 68, 3) := by decide +kernel
theorem dX4_readLaw_29 : decode cX4_readLaw 29 = .ok (.putfield 71, 3) := by decide +kernel
theorem dX4_readLaw_32 : decode cX4_readLaw 32 = .ok (.aload_n 0, 1) := by decide +kernel
theorem dX4_readLaw_33 : decode cX4_readLaw 33 = .ok (.getfield 27, 3) := by decide +kernel
theorem dX4_readLaw_36 : decode cX4_readLaw 36 = .ok (.aload_n 0, 1) := by decide +kernel
theorem dX4_readLaw_37 : decode cX4_readLaw 37 = .ok (.getfield 68, 3) := by decide +kernel
theorem dX4_readLaw_40 : decode cX4_readLaw 40 = .ok (.putfield 74, 3) := by decide +kernel
theorem dX4_readLaw_43 : decode cX4_readLaw 43 = .ok (.aload_n 0, 1) := by decide +kernel
theorem dX4_readLaw_44 : decode cX4_readLaw 44 = .ok (.bipush 44, 2) := by decide +kernel
theorem dX4_readLaw_46 : decode cX4_readLaw 46 = .ok (.invokevirtual 60, 3) := by decide +kernel
theorem dX4_readLaw_49 : decode cX4_readLaw 49 = .ok (.ifCond .eq 13, 3) := by decide +kernel
theorem dX4_readLaw_52 : decode cX4_readLaw 52 = .ok (.aload_n 0, 1) := by decide +kernel
theorem dX4_readLaw_53 : decode cX4_readLaw 53 = .ok (.iconst 1, 1) := by decide +kernel
theorem dX4_readLaw_54 : decode cX4_readLaw 54 = .ok (.bipush 9, 2) := by decide +kernel
theorem dX4_readLaw_56 : decode cX4_readLaw 56 = .ok (.invokevirtual 64, 3) := by decide +kernel
theorem dX4_readLaw_59 : decode cX4_readLaw 59 = .ok (.ifCond .ne 5, 3) := by decide +kernel
theorem dX4_readLaw_62 : decode cX4_readLaw 62 = .ok (.iconst 0, 1) := by decide +kernel
theorem dX4_readLaw_63 : decode cX4_readLaw 63 = .ok (.ireturn, 1) := by decide +kernel
theorem dX4_readLaw_64 : decode cX4_readLaw 64 = .ok (.aload_n 0, 1) := by decide +kernel
theorem dX4_readLaw_65 : decode cX4_readLaw 65 = .ok (.getfield 27, 3) := by decide +kernel
theorem dX4_readLaw_68 : decode cX4_readLaw 68 = .ok (.aload_n 0, 1) := by decide +kernel
theorem dX4_readLaw_69 : decode cX4_readLaw 69 = .ok (.getfield 68, 3) := by decide +kernel
theorem dX4_readLaw_72 : decode cX4_readLaw 72 = .ok (.putfield 77, 3) := by decide +kernel
theorem dX4_readLaw_75 : decode cX4_readLaw 75 = .ok (.aload_n 0, 1) := by decide +kernel
theorem dX4_readLaw_76 : decode cX4_readLaw 76 = .ok (.bipush 59, 2) := by decide +kernel
theorem dX4_readLaw_78 : decode cX4_readLaw 78 = .ok (.invokevirtual 60, 3) := by decide +kernel
theorem dX4_readLaw_81 : decode cX4_readLaw 81 = .ok (.ireturn, 1) := by decide +kernel
theorem dX4_readPeople_0 : decode cX4_readPeople 0 = .ok (.iconst 0, 1) := by decide +kernel
theorem dX4_readPeople_1 : decode cX4_readPeople 1 = .ok (.istore_n 1, 1) := by decide +kernel
theorem dX4_readPeople_2 : decode cX4_readPeople 2 = .ok (.iload_n 1, 1) := by decide +kernel
theorem dX4_readPeople_3 : decode cX4_readPeople 3 = .ok (.iconst 5, 1) := by decide +kernel
theorem dX4_readPeople_4 : decode cX4_readPeople 4 = .ok (.if_icmp .gt 31, 3) := by decide +kernel
theorem dX4_readPeople_7 : decode cX4_readPeople 7 = .ok (.iload_n 1, 1) := by decide +kernel
theorem dX4_readPeople_8 : decode cX4_readPeople 8 = .ok (.ifCond .eq 12, 3) := by decide +kernel
theorem dX4_readPeople_11 : decode cX4_readPeople 11 = .ok (.aload_n 0, 1) := by decide +kernel
theorem dX4_readPeople_12 : decode cX4_readPeople 12 = .ok (.getfield 80, 3) := by decide +kernel
theorem dX4_readPeople_15 : decode cX4_readPeople 15 = .ok (.bipush 122, 2) := by decide +kernel
theorem dX4_readPeople_17 : decode cX4_readPeople 17 = .ok (.if_icmp .ne 18, 3) := by decide +kernel
theorem dX4_readPeople_20 : decode cX4_readPeople 20 = .ok (.aload_n 0, 1) := by decide +kernel
theorem dX4_readPeople_21 : decode cX4_readPeople 21 = .ok (.invokevirtual 83, 3) := by decide +kernel
theorem dX4_readPeople_24 : decode cX4_readPeople 24 = .ok (.ifCond .ne 5, 3) := by decide +kernel
theorem dX4_readPeople_27 : decode cX4_readPeople 27 = .ok (.iconst 0, 1) := by decide +kernel
theorem dX4_readPeople_28 : decode cX4_readPeople 28 = .ok (.ireturn, 1) := by decide +kernel
theorem dX4_readPeople_29 : decode cX4_readPeople 29 = .ok (.iinc 1 1, 3) := by decide +kernel
theorem dX4_readPeople_32 : decode cX4_readPeople 32 = .ok (.goto (-30), 3) := by decide +kernel
theorem dX4_readPeople_35 : decode cX4_readPeople 35 = .ok (.iconst 1, 1) := by decide +kernel
theorem dX4_readPeople_36 : decode cX4_readPeople 36 = .ok (.ireturn, 1) := by decide +kernel
theorem dX4_readPerson_0 : decode cX4_readPerson 0 = .ok (.aload_n 0, 1) := by decide +kernel
theorem dX4_readPerson_1 : decode cX4_readPerson 1 = .ok (.getfield 18, 3) := by decide +kernel
theorem dX4_readPerson_4 : decode cX4_readPerson 4 = .ok (.getfield 41, 3) := by decide +kernel
theorem dX4_readPerson_7 : decode cX4_readPerson 7 = .ok (.istore_n 1, 1) := by decide +kernel
theorem dX4_readPerson_8 : decode cX4_readPerson 8 = .ok (.aload_n 0, 1) := by decide +kernel
theorem dX4_readPerson_9 : decode cX4_readPerson 9 = .ok (.getfield 80, 3) := by decide +kernel
theorem dX4_readPerson_12 : decode cX4_readPerson 12 = .ok (.bipush 122, 2) := by decide +kernel
theorem dX4_readPerson_14 : decode cX4_readPerson 14 = .ok (.if_icmp .ne 14, 3) := by decide +kernel
theorem dX4_readPerson_17 : decode cX4_readPerson 17 = .ok (.iload_n 1, 1) := by decide +kernel
theorem dX4_readPerson_18 : decode cX4_readPerson 18 = .ok (.iconst 5, 1) := by decide +kernel
theorem dX4_readPerson_19 : decode cX4_readPerson 19 = .ok (.if_icmp .lt 9, 3) := by decide +kernel
theorem dX4_readPerson_22 : decode cX4_readPerson 22 = .ok (.aload_n 0, 1) := by decide +kernel
theorem dX4_readPerson_23 : decode cX4_readPerson 23 = .ok (.iconst 3, 1) := by decide +kernel
theorem dX4_readPerson_24 : decode cX4_readPerson 24 = .ok (.invokevirtual 86, 3) := by decide +kernel
theorem dX4_readPerson_27 : decode cX4_readPerson 27 = .ok (.ireturn, 1) := by decide +kernel
theorem dX4_readPerson_28 : decode cX4_readPerson 28 = .ok (.aload_n 0, 1) := by decide +kernel
theorem dX4_readPerson_29 : decode cX4_readPerson 29 = .ok (.bipush 122, 2) := by decide +kernel
theorem dX4_readPerson_31 : decode cX4_readPerson 31 = .ok (.invokevirtual 60, 3) := by decide +kernel
theorem dX4_readPerson_34 : decode cX4_readPerson 34 = .ok (.ifCond .eq 13, 3) := by decide +kernel
theorem dX4_readPerson_37 : decode cX4_readPerson 37 = .ok (.aload_n 0, 1) := by decide +kernel
theorem dX4_readPerson_38 : decode cX4_readPerson 38 = .ok (.iconst 0, 1) := by decide +kernel
theorem dX4_readPerson_39 : decode cX4_readPerson 39 = .ok (.bipush 99, 2) := by decide +kernel
theorem dX4_readPerson_41 : decode cX4_readPerson 41 = .ok (.invokevirtual 64, 3) := by decide +kernel
theorem dX4_readPerson_44 : decode cX4_readPerson 44 = .ok (.ifCond .ne 5, 3) := by decide +kernel
theorem dX4_readPerson_47 : decode cX4_readPerson 47 = .ok (.iconst 0, 1) := by decide +kernel
theorem dX4_readPerson_48 : decode cX4_readPerson 48 = .ok (.ireturn, 1) := by decide +kernel
theorem dX4_readPerson_49 : decode cX4_readPerson 49 = .ok (.aload_n 0, 1) := by decide +kernel
theorem dX4_readPerson_50 : decode cX4_readPerson 50 = .ok (.getfield 27, 3) := by decide +kernel
theorem dX4_readPerson_53 : decode cX4_readPerson 53 = .ok (.getfield 89, 3) := by decide +kernel
theorem dX4_readPerson_56 : decode cX4_readPerson 56 = .ok (.iload_n 1, 1) := by decide +kernel
theorem dX4_readPerson_57 : decode cX4_readPerson 57 = .ok (.aload_n 0, 1) := by decide +kernel
theorem dX4_readPerson_58 : decode cX4_readPerson 58 = .ok (.getfield 68, 3) := by decide +kernel
theorem dX4_readPerson_61 : decode cX4_readPerson 61 = .ok (.iastore, 1) := by decide +kernel
theorem dX4_readPerson_62 : decode cX4_readPerson 62 = .ok (.aload_n 0, 1) := by decide +kernel
theorem dX4_readPerson_63 : decode cX4_readPerson 63 = .ok (.bipush 44, 2) := by decide +kernel
theorem dX4_readPerson_65 : decode cX4_readPerson 65 = .ok (.invokevirtual 60, 3) := by decide +kernel
theorem dX4_readPerson_68 : decode cX4_readPerson 68 = .ok (.ifCond .eq 13, 3) := by decide +kernel
theorem dX4_readPerson_71 : decode cX4_readPerson 71 = .ok (.aload_n 0, 1) := by decide +kernel
theorem dX4_readPerson_72 : decode cX4_readPerson 72 = .ok (.iconst 0, 1) := by decide +kernel
theorem dX4_readPerson_73 : decode cX4_readPerson 73 = .ok (.bipush 20, 2) := by decide +kernel
theorem dX4_readPerson_75 : decode cX4_readPerson 75 = .ok (.invokevirtual 64, 3) := by decide +kernel
theorem dX4_readPerson_78 : decode cX4_readPerson 78 = .ok (.ifCond .ne 5, 3) := by decide +kernel
theorem dX4_readPerson_81 : decode cX4_readPerson 81 = .ok (.iconst 0, 1) := by decide +kernel
theorem dX4_readPerson_82 : decode cX4_readPerson 82 = .ok (.ireturn, 1) := by decide +kernel
theorem dX4_readPerson_83 : decode cX4_readPerson 83 = .ok (.aload_n 0, 1) := by decide +kernel
theorem dX4_readPerson_84 : decode cX4_readPerson 84 = .ok (.getfield 18, 3) := by decide +kernel
theorem dX4_readPerson_87 : decode cX4_readPerson 87 = .ok (.getfield 92, 3) := by decide +kernel
theorem dX4_readPerson_90 : decode cX4_readPerson 90 = .ok (.iload_n 1, 1) := by decide +kernel
theorem dX4_readPerson_91 : decode cX4_readPerson 91 = .ok (.aload_n 0, 1) := by decide +kernel
theorem dX4_readPerson_92 : decode cX4_readPerson 92 = .ok (.getfield 68, 3) := by decide +kernel
theorem dX4_readPerson_95 : decode cX4_readPerson 95 = .ok (.iastore, 1) := by decide +kernel
theorem dX4_readPerson_96 : decode cX4_readPerson 96 = .ok (.aload_n 0, 1) := by decide +kernel
theorem dX4_readPerson_97 : decode cX4_readPerson 97 = .ok (.getfield 18, 3) := by decide +kernel
theorem dX4_readPerson_100 : decode cX4_readPerson 100 = .ok (.dup, 1) := by decide +kernel
theorem dX4_readPerson_101 : decode cX4_readPerson 101 = .ok (.getfield 41, 3) := by decide +kernel
theorem dX4_readPerson_104 : decode cX4_readPerson 104 = .ok (.iconst 1, 1) := by decide +kernel
theorem dX4_readPerson_105 : decode cX4_readPerson 105 = .ok (.iadd, 1) := by decide +kernel
theorem dX4_readPerson_106 : decode cX4_readPerson 106 = .ok (.putfield 41, 3) := by decide +kernel
theorem dX4_readPerson_109 : decode cX4_readPerson 109 = .ok (.aload_n 0, 1) := by decide +kernel
theorem dX4_readPerson_110 : decode cX4_readPerson 110 = .ok (.bipush 59, 2) := by decide +kernel
theorem dX4_readPerson_112 : decode cX4_readPerson 112 = .ok (.invokevirtual 60, 3) := by decide +kernel
theorem dX4_readPerson_115 : decode cX4_readPerson 115 = .ok (.ireturn, 1) := by decide +kernel
theorem dX4_readSpeeches_0 : decode cX4_readSpeeches 0 = .ok (.iconst 0, 1) := by decide +kernel
theorem dX4_readSpeeches_1 : decode cX4_readSpeeches 1 = .ok (.istore_n 1, 1) := by decide +kernel
theorem dX4_readSpeeches_2 : decode cX4_readSpeeches 2 = .ok (.iload_n 1, 1) := by decide +kernel
theorem dX4_readSpeeches_3 : decode cX4_readSpeeches 3 = .ok (.bipush 6, 2) := by decide +kernel
theorem dX4_readSpeeches_5 : decode cX4_readSpeeches 5 = .ok (.if_icmp .gt 30, 3) := by decide +kernel
theorem dX4_readSpeeches_8 : decode cX4_readSpeeches 8 = .ok (.iload_n 1, 1) := by decide +kernel
theorem dX4_readSpeeches_9 : decode cX4_readSpeeches 9 = .ok (.ifCond .eq 11, 3) := by decide +kernel
theorem dX4_readSpeeches_12 : decode cX4_readSpeeches 12 = .ok (.aload_n 0, 1) := by decide +kernel
theorem dX4_readSpeeches_13 : decode cX4_readSpeeches 13 = .ok (.getfield 80, 3) := by decide +kernel
theorem dX4_readSpeeches_16 : decode cX4_readSpeeches 16 = .ok (.iconst (-1), 1) := by decide +kernel
theorem dX4_readSpeeches_17 : decode cX4_readSpeeches 17 = .ok (.if_icmp .eq 18, 3) := by decide +kernel
theorem dX4_readSpeeches_20 : decode cX4_readSpeeches 20 = .ok (.aload_n 0, 1) := by decide +kernel
theorem dX4_readSpeeches_21 : decode cX4_readSpeeches 21 = .ok (.invokevirtual 95, 3) := by decide +kernel
theorem dX4_readSpeeches_24 : decode cX4_readSpeeches 24 = .ok (.ifCond .ne 5, 3) := by decide +kernel
theorem dX4_readSpeeches_27 : decode cX4_readSpeeches 27 = .ok (.iconst 0, 1) := by decide +kernel
theorem dX4_readSpeeches_28 : decode cX4_readSpeeches 28 = .ok (.ireturn, 1) := by decide +kernel
theorem dX4_readSpeeches_29 : decode cX4_readSpeeches 29 = .ok (.iinc 1 1, 3) := by decide +kernel
theorem dX4_readSpeeches_32 : decode cX4_readSpeeches 32 = .ok (.goto (-30), 3) := by decide +kernel
theorem dX4_readSpeeches_35 : decode cX4_readSpeeches 35 = .ok (.iconst 1, 1) := by decide +kernel
theorem dX4_readSpeeches_36 : decode cX4_readSpeeches 36 = .ok (.ireturn, 1) := by decide +kernel
theorem dX4_readSpeech_0 : decode cX4_readSpeech 0 = .ok (.aload_n 0, 1) := by decide +kernel
theorem dX4_readSpeech_1 : decode cX4_readSpeech 1 = .ok (.getfield 18, 3) := by decide +kernel
theorem dX4_readSpeech_4 : decode cX4_readSpeech 4 = .ok (.getfield 44, 3) := by decide +kernel
theorem dX4_readSpeech_7 : decode cX4_readSpeech 7 = .ok (.istore_n 1, 1) := by decide +kernel
theorem dX4_readSpeech_8 : decode cX4_readSpeech 8 = .ok (.aload_n 0, 1) := by decide +kernel
theorem dX4_readSpeech_9 : decode cX4_readSpeech 9 = .ok (.getfield 80, 3) := by decide +kernel
theorem dX4_readSpeech_12 : decode cX4_readSpeech 12 = .ok (.invokestatic 98, 3) := by decide +kernel
theorem dX4_readSpeech_15 : decode cX4_readSpeech 15 = .ok (.istore_n 2, 1) := by decide +kernel
theorem dX4_readSpeech_16 : decode cX4_readSpeech 16 = .ok (.iload_n 2, 1) := by decide +kernel
theorem dX4_readSpeech_17 : decode cX4_readSpeech 17 = .ok (.ifCond .ne 9, 3) := by decide +kernel
theorem dX4_readSpeech_20 : decode cX4_readSpeech 20 = .ok (.aload_n 0, 1) := by decide +kernel
theorem dX4_readSpeech_21 : decode cX4_readSpeech 21 = .ok (.iconst 1, 1) := by decide +kernel
theorem dX4_readSpeech_22 : decode cX4_readSpeech 22 = .ok (.invokevirtual 86, 3) := by decide +kernel
theorem dX4_readSpeech_25 : decode cX4_readSpeech 25 = .ok (.ireturn, 1) := by decide +kernel
theorem dX4_readSpeech_26 : decode cX4_readSpeech 26 = .ok (.iload_n 1, 1) := by decide +kernel
theorem dX4_readSpeech_27 : decode cX4_readSpeech 27 = .ok (.bipush 6, 2) := by decide +kernel
theorem dX4_readSpeech_29 : decode cX4_readSpeech 29 = .ok (.if_icmp .lt 9, 3) := by decide +kernel
theorem dX4_readSpeech_32 : decode cX4_readSpeech 32 = .ok (.aload_n 0, 1) := by decide +kernel
theorem dX4_readSpeech_33 : decode cX4_readSpeech 33 = .ok (.iconst 3, 1) := by decide +kernel
theorem dX4_readSpeech_34 : decode cX4_readSpeech 34 = .ok (.invokevirtual 86, 3) := by decide +kernel
theorem dX4_readSpeech_37 : decode cX4_readSpeech 37 = .ok (.ireturn, 1) := by decide +kernel
theorem dX4_readSpeech_38 : decode cX4_readSpeech 38 = .ok (.aload_n 0, 1) := by decide +kernel
theorem dX4_readSpeech_39 : decode cX4_readSpeech 39 = .ok (.getfield 18, 3) := by decide +kernel
theorem dX4_readSpeech_42 : decode cX4_readSpeech 42 = .ok (.getfield 102, 3) := by decide +kernel
theorem dX4_readSpeech_45 : decode cX4_readSpeech 45 = .ok (.iload_n 1, 1) := by decide +kernel
theorem dX4_readSpeech_46 : decode cX4_readSpeech 46 = .ok (.iload_n 2, 1) := by decide +kernel
theorem dX4_readSpeech_47 : decode cX4_readSpeech 47 = .ok (.iastore, 1) := by decide +kernel
theorem dX4_readSpeech_48 : decode cX4_readSpeech 48 = .ok (.aload_n 0, 1) := by decide +kernel
theorem dX4_readSpeech_49 : decode cX4_readSpeech 49 = .ok (.invokevirtual 47, 3) := by decide +kernel
theorem dX4_readSpeech_52 : decode cX4_readSpeech 52 = .ok (.aload_n 0, 1) := by decide +kernel
theorem dX4_readSpeech_53 : decode cX4_readSpeech 53 = .ok (.iconst 0, 1) := by decide +kernel
theorem dX4_readSpeech_54 : decode cX4_readSpeech 54 = .ok (.aload_n 0, 1) := by decide +kernel
theorem dX4_readSpeech_55 : decode cX4_readSpeech 55 = .ok (.getfield 18, 3) := by decide +kernel
theorem dX4_readSpeech_58 : decode cX4_readSpeech 58 = .ok (.getfield 41, 3) := by decide +kernel
theorem dX4_readSpeech_61 : decode cX4_readSpeech 61 = .ok (.iconst 1, 1) := by decide +kernel
theorem dX4_readSpeech_62 : decode cX4_readSpeech 62 = .ok (.isub, 1) := by decide +kernel
theorem dX4_readSpeech_63 : decode cX4_readSpeech 63 = .ok (.invokevirtual 64, 3) := by decide +kernel
theorem dX4_readSpeech_66 : decode cX4_readSpeech 66 = .ok (.ifCond .ne 5, 3) := by decide +kernel
theorem dX4_readSpeech_69 : decode cX4_readSpeech 69 = .ok (.iconst 0, 1) := by decide +kernel
theorem dX4_readSpeech_70 : decode cX4_readSpeech 70 = .ok (.ireturn, 1) := by decide +kernel
theorem dX4_readSpeech_71 : decode cX4_readSpeech 71 = .ok (.aload_n 0, 1) := by decide +kernel
theorem dX4_readSpeech_72 : decode cX4_readSpeech 72 = .ok (.getfield 18, 3) := by decide +kernel
theorem dX4_readSpeech_75 : decode cX4_readSpeech 75 = .ok (.getfield 105, 3) := by decide +kernel
theorem dX4_readSpeech_78 : decode cX4_readSpeech 78 = .ok (.iload_n 1, 1) := by decide +kernel
theorem dX4_readSpeech_79 : decode cX4_readSpeech 79 = .ok (.aload_n 0, 1) := by decide +kernel
theorem dX4_readSpeech_80 : decode cX4_readSpeech 80 = .ok (.getfield 68, 3) := by decide +kernel
theorem dX4_readSpeech_83 : decode cX4_readSpeech 83 = .ok (.iastore, 1) := by decide +kernel
theorem dX4_readSpeech_84 : decode cX4_readSpeech 84 = .ok (.aload_n 0, 1) := by decide +kernel
theorem dX4_readSpeech_85 : decode cX4_readSpeech 85 = .ok (.bipush 44, 2) := by decide +kernel
theorem dX4_readSpeech_87 : decode cX4_readSpeech 87 = .ok (.invokevirtual 60, 3) := by decide +kernel
theorem dX4_readSpeech_90 : decode cX4_readSpeech 90 = .ok (.ifCond .eq 13, 3) := by decide +kernel
theorem dX4_readSpeech_93 : decode cX4_readSpeech 93 = .ok (.aload_n 0, 1) := by decide +kernel
theorem dX4_readSpeech_94 : decode cX4_readSpeech 94 = .ok (.iconst 1, 1) := by decide +kernel
theorem dX4_readSpeech_95 : decode cX4_readSpeech 95 = .ok (.bipush 30, 2) := by decide +kernel
theorem dX4_readSpeech_97 : decode cX4_readSpeech 97 = .ok (.invokevirtual 64, 3) := by decide +kernel
theorem dX4_readSpeech_100 : decode cX4_readSpeech 100 = .ok (.ifCond .ne 5, 3) := by decide +kernel
theorem dX4_readSpeech_103 : decode cX4_readSpeech 103 = .ok (.iconst 0, 1) := by decide +kernel
theorem dX4_readSpeech_104 : decode cX4_readSpeech 104 = .ok (.ireturn, 1) := by decide +kernel
theorem dX4_readSpeech_105 : decode cX4_readSpeech 105 = .ok (.aload_n 0, 1) := by decide +kernel
theorem dX4_readSpeech_106 : decode cX4_readSpeech 106 = .ok (.getfield 18, 3) := by decide +kernel
theorem dX4_readSpeech_109 : decode cX4_readSpeech 109 = .ok (.getfield 108, 3) := by decide +kernel
theorem dX4_readSpeech_112 : decode cX4_readSpeech 112 = .ok (.iload_n 1, 1) := by decide +kernel
theorem dX4_readSpeech_113 : decode cX4_readSpeech 113 = .ok (.aload_n 0, 1) := by decide +kernel
theorem dX4_readSpeech_114 : decode cX4_readSpeech 114 = .ok (.getfield 68, 3) := by decide +kernel
theorem dX4_readSpeech_117 : decode cX4_readSpeech 117 = .ok (.iastore, 1) := by decide +kernel
theorem dX4_readSpeech_118 : decode cX4_readSpeech 118 = .ok (.aload_n 0, 1) := by decide +kernel
theorem dX4_readSpeech_119 : decode cX4_readSpeech 119 = .ok (.bipush 44, 2) := by decide +kernel
theorem dX4_readSpeech_121 : decode cX4_readSpeech 121 = .ok (.invokevirtual 60, 3) := by decide +kernel
theorem dX4_readSpeech_124 : decode cX4_readSpeech 124 = .ok (.ifCond .eq 12, 3) := by decide +kernel
theorem dX4_readSpeech_127 : decode cX4_readSpeech 127 = .ok (.aload_n 0, 1) := by decide +kernel
theorem dX4_readSpeech_128 : decode cX4_readSpeech 128 = .ok (.iconst 0, 1) := by decide +kernel
theorem dX4_readSpeech_129 : decode cX4_readSpeech 129 = .ok (.iload_n 1, 1) := by decide +kernel
theorem dX4_readSpeech_130 : decode cX4_readSpeech 130 = .ok (.invokevirtual 64, 3) := by decide +kernel
theorem dX4_readSpeech_133 : decode cX4_readSpeech 133 = .ok (.ifCond .ne 5, 3) := by decide +kernel
theorem dX4_readSpeech_136 : decode cX4_readSpeech 136 = .ok (.iconst 0, 1) := by decide +kernel
theorem dX4_readSpeech_137 : decode cX4_readSpeech 137 = .ok (.ireturn, 1) := by decide +kernel
theorem dX4_readSpeech_138 : decode cX4_readSpeech 138 = .ok (.aload_n 0, 1) := by decide +kernel
theorem dX4_readSpeech_139 : decode cX4_readSpeech 139 = .ok (.getfield 18, 3) := by decide +kernel
theorem dX4_readSpeech_142 : decode cX4_readSpeech 142 = .ok (.getfield 111, 3) := by decide +kernel
theorem dX4_readSpeech_145 : decode cX4_readSpeech 145 = .ok (.iload_n 1, 1) := by decide +kernel
theorem dX4_readSpeech_146 : decode cX4_readSpeech 146 = .ok (.aload_n 0, 1) := by decide +kernel
theorem dX4_readSpeech_147 : decode cX4_readSpeech 147 = .ok (.getfield 68, 3) := by decide +kernel
theorem dX4_readSpeech_150 : decode cX4_readSpeech 150 = .ok (.iastore, 1) := by decide +kernel
theorem dX4_readSpeech_151 : decode cX4_readSpeech 151 = .ok (.aload_n 0, 1) := by decide +kernel
theorem dX4_readSpeech_152 : decode cX4_readSpeech 152 = .ok (.getfield 18, 3) := by decide +kernel
theorem dX4_readSpeech_155 : decode cX4_readSpeech 155 = .ok (.dup, 1) := by decide +kernel
theorem dX4_readSpeech_156 : decode cX4_readSpeech 156 = .ok (.getfield 44, 3) := by decide +kernel
theorem dX4_readSpeech_159 : decode cX4_readSpeech 159 = .ok (.iconst 1, 1) := by decide +kernel
theorem dX4_readSpeech_160 : decode cX4_readSpeech 160 = .ok (.iadd, 1) := by decide +kernel
theorem dX4_readSpeech_161 : decode cX4_readSpeech 161 = .ok (.putfield 44, 3) := by decide +kernel
theorem dX4_readSpeech_164 : decode cX4_readSpeech 164 = .ok (.aload_n 0, 1) := by decide +kernel
theorem dX4_readSpeech_165 : decode cX4_readSpeech 165 = .ok (.bipush 59, 2) := by decide +kernel
theorem dX4_readSpeech_167 : decode cX4_readSpeech 167 = .ok (.invokevirtual 60, 3) := by decide +kernel
theorem dX4_readSpeech_170 : decode cX4_readSpeech 170 = .ok (.ireturn, 1) := by decide +kernel
theorem dX4_kindOfSort_0 : decode cX4_kindOfSort 0 = .ok (.iload_n 0, 1) := by decide +kernel
theorem dX4_kindOfSort_1 : decode cX4_kindOfSort 1 = .ok (.lookupswitch 61 #[(98, 53), (101, 59), (110, 51), (115, 55), (119, 57)], 51) := by decide +kernel
theorem dX4_kindOfSort_52 : decode cX4_kindOfSort 52 = .ok (.iconst 1, 1) := by decide +kernel
theorem dX4_kindOfSort_53 : decode cX4_kindOfSort 53 = .ok (.ireturn, 1) := by decide +kernel
theorem dX4_kindOfSort_54 : decode cX4_kindOfSort 54 = .ok (.iconst 2, 1) := by decide +kernel
theorem dX4_kindOfSort_55 : decode cX4_kindOfSort 55 = .ok (.ireturn, 1) := by decide +kernel
theorem dX4_kindOfSort_56 : decode cX4_kindOfSort 56 = .ok (.iconst 3, 1) := by decide +kernel
theorem dX4_kindOfSort_57 : decode cX4_kindOfSort 57 = .ok (.ireturn, 1) := by decide +kernel
theorem dX4_kindOfSort_58 : decode cX4_kindOfSort 58 = .ok (.iconst 4, 1) := by decide +kernel
theorem dX4_kindOfSort_59 : decode cX4_kindOfSort 59 = .ok (.ireturn, 1) := by decide +kernel
theorem dX4_kindOfSort_60 : decode cX4_kindOfSort 60 = .ok (.iconst 5, 1) := by decide +kernel
theorem dX4_kindOfSort_61 : decode cX4_kindOfSort 61 = .ok (.ireturn, 1) := by decide +kernel
theorem dX4_kindOfSort_62 : decode cX4_kindOfSort 62 = .ok (.iconst 0, 1) := by decide +kernel
theorem dX4_kindOfSort_63 : decode cX4_kindOfSort 63 = .ok (.ireturn, 1) := by decide +kernel
theorem dX4_takeSign_0 : decode cX4_takeSign 0 = .ok (.aload_n 0, 1) := by decide +kernel
theorem dX4_takeSign_1 : decode cX4_takeSign 1 = .ok (.getfield 80, 3) := by decide +kernel
theorem dX4_takeSign_4 : decode cX4_takeSign 4 = .ok (.iload_n 1, 1) := by decide +kernel
theorem dX4_takeSign_5 : decode cX4_takeSign 5 = .ok (.if_icmp .eq 9, 3) := by decide +kernel
theorem dX4_takeSign_8 : decode cX4_takeSign 8 = .ok (.aload_n 0, 1) := by decide +kernel
theorem dX4_takeSign_9 : decode cX4_takeSign 9 = .ok (.iconst 1, 1) := by decide +kernel
theorem dX4_takeSign_10 : decode cX4_takeSign 10 = .ok (.invokevirtual 86, 3) := by decide +kernel
theorem dX4_takeSign_13 : decode cX4_takeSign 13 = .ok (.ireturn, 1) := by decide +kernel
theorem dX4_takeSign_14 : decode cX4_takeSign 14 = .ok (.aload_n 0, 1) := by decide +kernel
theorem dX4_takeSign_15 : decode cX4_takeSign 15 = .ok (.invokevirtual 47, 3) := by decide +kernel
theorem dX4_takeSign_18 : decode cX4_takeSign 18 = .ok (.iconst 1, 1) := by decide +kernel
theorem dX4_takeSign_19 : decode cX4_takeSign 19 = .ok (.ireturn, 1) := by decide +kernel
theorem dX4_takeNumber_0 : decode cX4_takeNumber 0 = .ok (.aload_n 0, 1) := by decide +kernel
theorem dX4_takeNumber_1 : decode cX4_takeNumber 1 = .ok (.getfield 80, 3) := by decide +kernel
theorem dX4_takeNumber_4 : decode cX4_takeNumber 4 = .ok (.bipush (-3), 2) := by decide +kernel
theorem dX4_takeNumber_6 : decode cX4_takeNumber 6 = .ok (.if_icmp .eq 9, 3) := by decide +kernel
theorem dX4_takeNumber_9 : decode cX4_takeNumber 9 = .ok (.aload_n 0, 1) := by decide +kernel
theorem dX4_takeNumber_10 : decode cX4_takeNumber 10 = .ok (.iconst 1, 1) := by decide +kernel
theorem dX4_takeNumber_11 : decode cX4_takeNumber 11 = .ok (.invokevirtual 86, 3) := by decide +kernel
theorem dX4_takeNumber_14 : decode cX4_takeNumber 14 = .ok (.ireturn, 1) := by decide +kernel
theorem dX4_takeNumber_15 : decode cX4_takeNumber 15 = .ok (.aload_n 0, 1) := by decide +kernel
theorem dX4_takeNumber_16 : decode cX4_takeNumber 16 = .ok (.getfield 114, 3) := by decide +kernel
theorem dX4_takeNumber_19 : decode cX4_takeNumber 19 = .ok (.iload_n 1, 1) := by decide +kernel
theorem dX4_takeNumber_20 : decode cX4_takeNumber 20 = .ok (.if_icmp .lt 11, 3) := by decide +kernel
theorem dX4_takeNumber_23 : decode cX4_takeNumber 23 = .ok (.aload_n 0, 1) := by decide +kernel
theorem dX4_takeNumber_24 : decode cX4_takeNumber 24 = .ok (.getfield 114, 3) := by decide +kernel
theorem dX4_takeNumber_27 : decode cX4_takeNumber 27 = .ok (.iload_n 2, 1) := by decide +kernel
theorem dX4_takeNumber_28 : decode cX4_takeNumber 28 = .ok (.if_icmp .le 9, 3) := by decide +kernel
theorem dX4_takeNumber_31 : decode cX4_takeNumber 31 = .ok (.aload_n 0, 1) := by decide +kernel
theorem dX4_takeNumber_32 : decode cX4_takeNumber 32 = .ok (.iconst 2, 1) := by decide +kernel
theorem dX4_takeNumber_33 : decode cX4_takeNumber 33 = .ok (.invokevirtual 86, 3) := by decide +kernel
theorem dX4_takeNumber_36 : decode cX4_takeNumber 36 = .ok (.ireturn, 1) := by decide +kernel
theorem dX4_takeNumber_37 : decode cX4_takeNumber 37 = .ok (.aload_n 0, 1) := by decide +kernel
theorem dX4_takeNumber_38 : decode cX4_takeNumber 38 = .ok (.aload_n 0, 1) := by decide +kernel
theorem dX4_takeNumber_39 : decode cX4_takeNumber 39 = .ok (.getfield 114, 3) := by decide +kernel
theorem dX4_takeNumber_42 : decode cX4_takeNumber 42 = .ok (.putfield 68, 3) := by decide +kernel
theorem dX4_takeNumber_45 : decode cX4_takeNumber 45 = .ok (.aload_n 0, 1) := by decide +kernel
theorem dX4_takeNumber_46 : decode cX4_takeNumber 46 = .ok (.invokevirtual 47, 3) := by decide +kernel
theorem dX4_takeNumber_49 : decode cX4_takeNumber 49 = .ok (.iconst 1, 1) := by decide +kernel
theorem dX4_takeNumber_50 : decode cX4_takeNumber 50 = .ok (.ireturn, 1) := by decide +kernel
theorem dX4_fail_0 : decode cX4_fail 0 = .ok (.aload_n 0, 1) := by decide +kernel
theorem dX4_fail_1 : decode cX4_fail 1 = .ok (.iload_n 1, 1) := by decide +kernel
theorem dX4_fail_2 : decode cX4_fail 2 = .ok (.putfield 117, 3) := by decide +kernel
theorem dX4_fail_5 : decode cX4_fail 5 = .ok (.iconst 0, 1) := by decide +kernel
theorem dX4_fail_6 : decode cX4_fail 6 = .ok (.ireturn, 1) := by decide +kernel
theorem dX4_advance_0 : decode cX4_advance 0 = .ok (.aload_n 0, 1) := by decide +kernel
theorem dX4_advance_1 : decode cX4_advance 1 = .ok (.aload_n 0, 1) := by decide +kernel
theorem dX4_advance_2 : decode cX4_advance 2 = .ok (.getfield 38, 3) := by decide +kernel
theorem dX4_advance_5 : decode cX4_advance 5 = .ok (.putfield 120, 3) := by decide +kernel
theorem dX4_advance_8 : decode cX4_advance 8 = .ok (.aload_n 0, 1) := by decide +kernel
theorem dX4_advance_9 : decode cX4_advance 9 = .ok (.getfield 38, 3) := by decide +kernel
theorem dX4_advance_12 : decode cX4_advance 12 = .ok (.aload_n 0, 1) := by decide +kernel
theorem dX4_advance_13 : decode cX4_advance 13 = .ok (.getfield 35, 3) := by decide +kernel
theorem dX4_advance_16 : decode cX4_advance 16 = .ok (.if_icmp .lt 9, 3) := by decide +kernel
theorem dX4_advance_19 : decode cX4_advance 19 = .ok (.aload_n 0, 1) := by decide +kernel
theorem dX4_advance_20 : decode cX4_advance 20 = .ok (.iconst (-1), 1) := by decide +kernel
theorem dX4_advance_21 : decode cX4_advance 21 = .ok (.putfield 80, 3) := by decide +kernel
theorem dX4_advance_24 : decode cX4_advance 24 = .ok (.return_, 1) := by decide +kernel
theorem dX4_advance_25 : decode cX4_advance 25 = .ok (.aload_n 0, 1) := by decide +kernel
theorem dX4_advance_26 : decode cX4_advance 26 = .ok (.getfield 9, 3) := by decide +kernel
theorem dX4_advance_29 : decode cX4_advance 29 = .ok (.aload_n 0, 1) := by decide +kernel
theorem dX4_advance_30 : decode cX4_advance 30 = .ok (.getfield 38, 3) := by decide +kernel
theorem dX4_advance_33 : decode cX4_advance 33 = .ok (.iaload, 1) := by decide +kernel
theorem dX4_advance_34 : decode cX4_advance 34 = .ok (.istore_n 1, 1) := by decide +kernel
theorem dX4_advance_35 : decode cX4_advance 35 = .ok (.iload_n 1, 1) := by decide +kernel
theorem dX4_advance_36 : decode cX4_advance 36 = .ok (.invokestatic 123, 3) := by decide +kernel
theorem dX4_advance_39 : decode cX4_advance 39 = .ok (.ifCond .eq 8, 3) := by decide +kernel
theorem dX4_advance_42 : decode cX4_advance 42 = .ok (.aload_n 0, 1) := by decide +kernel
theorem dX4_advance_43 : decode cX4_advance 43 = .ok (.invokevirtual 126, 3) := by decide +kernel
theorem dX4_advance_46 : decode cX4_advance 46 = .ok (.return_, 1) := by decide +kernel
theorem dX4_advance_47 : decode cX4_advance 47 = .ok (.iload_n 1, 1) := by decide +kernel
theorem dX4_advance_48 : decode cX4_advance 48 = .ok (.bipush 97, 2) := by decide +kernel
theorem dX4_advance_50 : decode cX4_advance 50 = .ok (.if_icmp .lt 9, 3) := by decide +kernel
theorem dX4_advance_53 : decode cX4_advance 53 = .ok (.iload_n 1, 1) := by decide +kernel
theorem dX4_advance_54 : decode cX4_advance 54 = .ok (.bipush 122, 2) := by decide +kernel
theorem dX4_advance_56 : decode cX4_advance 56 = .ok (.if_icmp .le 15, 3) := by decide +kernel
theorem dX4_advance_59 : decode cX4_advance 59 = .ok (.iload_n 1, 1) := by decide +kernel
theorem dX4_advance_60 : decode cX4_advance 60 = .ok (.bipush 44, 2) := by decide +kernel
theorem dX4_advance_62 : decode cX4_advance 62 = .ok (.if_icmp .eq 9, 3) := by decide +kernel
theorem dX4_advance_65 : decode cX4_advance 65 = .ok (.iload_n 1, 1) := by decide +kernel
theorem dX4_advance_66 : decode cX4_advance 66 = .ok (.bipush 59, 2) := by decide +kernel
theorem dX4_advance_68 : decode cX4_advance 68 = .ok (.if_icmp .ne 7, 3) := by decide +kernel
theorem dX4_advance_71 : decode cX4_advance 71 = .ok (.iconst 1, 1) := by decide +kernel
theorem dX4_advance_72 : decode cX4_advance 72 = .ok (.goto 4, 3) := by decide +kernel
theorem dX4_advance_75 : decode cX4_advance 75 = .ok (.iconst 0, 1) := by decide +kernel
theorem dX4_advance_76 : decode cX4_advance 76 = .ok (.istore_n 2, 1) := by decide +kernel
theorem dX4_advance_77 : decode cX4_advance 77 = .ok (.aload_n 0, 1) := by decide +kernel
theorem dX4_advance_78 : decode cX4_advance 78 = .ok (.iload_n 2, 1) := by decide +kernel
theorem dX4_advance_79 : decode cX4_advance 79 = .ok (.ifCond .eq 7, 3) := by decide +kernel
theorem dX4_advance_82 : decode cX4_advance 82 = .ok (.iload_n 1, 1) := by decide +kernel
theorem dX4_advance_83 : decode cX4_advance 83 = .ok (.goto 5, 3) := by decide +kernel
theorem dX4_advance_86 : decode cX4_advance 86 = .ok (.bipush (-2), 2) := by decide +kernel
theorem dX4_advance_88 : decode cX4_advance 88 = .ok (.putfield 80, 3) := by decide +kernel
theorem dX4_advance_91 : decode cX4_advance 91 = .ok (.aload_n 0, 1) := by decide +kernel
theorem dX4_advance_92 : decode cX4_advance 92 = .ok (.dup, 1) := by decide +kernel
theorem dX4_advance_93 : decode cX4_advance 93 = .ok (.getfield 38, 3) := by decide +kernel
theorem dX4_advance_96 : decode cX4_advance 96 = .ok (.iconst 1, 1) := by decide +kernel
theorem dX4_advance_97 : decode cX4_advance 97 = .ok (.iadd, 1) := by decide +kernel
theorem dX4_advance_98 : decode cX4_advance 98 = .ok (.putfield 38, 3) := by decide +kernel
theorem dX4_advance_101 : decode cX4_advance 101 = .ok (.return_, 1) := by decide +kernel
theorem dX4_readFigures_0 : decode cX4_readFigures 0 = .ok (.iconst 0, 1) := by decide +kernel
theorem dX4_readFigures_1 : decode cX4_readFigures 1 = .ok (.istore_n 1, 1) := by decide +kernel
theorem dX4_readFigures_2 : decode cX4_readFigures 2 = .ok (.aload_n 0, 1) := by decide +kernel
theorem dX4_readFigures_3 : decode cX4_readFigures 3 = .ok (.iconst 0, 1) := by decide +kernel
theorem dX4_readFigures_4 : decode cX4_readFigures 4 = .ok (.putfield 114, 3) := by decide +kernel
theorem dX4_readFigures_7 : decode cX4_readFigures 7 = .ok (.aload_n 0, 1) := by decide +kernel
theorem dX4_readFigures_8 : decode cX4_readFigures 8 = .ok (.getfield 38, 3) := by decide +kernel
theorem dX4_readFigures_11 : decode cX4_readFigures 11 = .ok (.aload_n 0, 1) := by decide +kernel
theorem dX4_readFigures_12 : decode cX4_readFigures 12 = .ok (.getfield 35, 3) := by decide +kernel
theorem dX4_readFigures_15 : decode cX4_readFigures 15 = .ok (.if_icmp .ge 67, 3) := by decide +kernel
theorem dX4_readFigures_18 : decode cX4_readFigures 18 = .ok (.aload_n 0, 1) := by decide +kernel
theorem dX4_readFigures_19 : decode cX4_readFigures 19 = .ok (.getfield 9, 3) := by decide +kernel
theorem dX4_readFigures_22 : decode cX4_readFigures 22 = .ok (.aload_n 0, 1) := by decide +kernel
theorem dX4_readFigures_23 : decode cX4_readFigures 23 = .ok (.getfield 38, 3) := by decide +kernel
theorem dX4_readFigures_26 : decode cX4_readFigures 26 = .ok (.iaload, 1) := by decide +kernel
theorem dX4_readFigures_27 : decode cX4_readFigures 27 = .ok (.invokestatic 123, 3) := by decide +kernel
theorem dX4_readFigures_30 : decode cX4_readFigures 30 = .ok (.ifCond .eq 52, 3) := by decide +kernel
theorem dX4_readFigures_33 : decode cX4_readFigures 33 = .ok (.iinc 1 1, 3) := by decide +kernel
theorem dX4_readFigures_36 : decode cX4_readFigures 36 = .ok (.aload_n 0, 1) := by decide +kernel
theorem dX4_readFigures_37 : decode cX4_readFigures 37 = .ok (.iload_n 1, 1) := by decide +kernel
theorem dX4_readFigures_38 : decode cX4_readFigures 38 = .ok (.iconst 2, 1) := by decide +kernel
theorem dX4_readFigures_39 : decode cX4_readFigures 39 = .ok (.if_icmp .le 7, 3) := by decide +kernel
theorem dX4_readFigures_42 : decode cX4_readFigures 42 = .ok (.iconst 0, 1) := by decide +kernel
theorem dX4_readFigures_43 : decode cX4_readFigures 43 = .ok (.goto 23, 3) := by decide +kernel
theorem dX4_readFigures_46 : decode cX4_readFigures 46 = .ok (.aload_n 0, 1) := by decide +kernel
theorem dX4_readFigures_47 : decode cX4_readFigures 47 = .ok (.getfield 114, 3) := by decide +kernel
theorem dX4_readFigures_50 : decode cX4_readFigures 50 = .ok (.bipush 10, 2) := by decide +kernel
theorem dX4_readFigures_52 : decode cX4_readFigures 52 = .ok (.imul, 1) := by decide +kernel
theorem dX4_readFigures_53 : decode cX4_readFigures 53 = .ok (.aload_n 0, 1) := by decide +kernel
theorem dX4_readFigures_54 : decode cX4_readFigures 54 = .ok (.getfield 9, 3) := by decide +kernel
theorem dX4_readFigures_57 : decode cX4_readFigures 57 = .ok (.aload_n 0, 1) := by decide +kernel
theorem dX4_readFigures_58 : decode cX4_readFigures 58 = .ok (.getfield 38, 3) := by decide +kernel
theorem dX4_readFigures_61 : decode cX4_readFigures 61 = .ok (.iaload, 1) := by decide +kernel
theorem dX4_readFigures_62 : decode cX4_readFigures 62 = .ok (.iadd, 1) := by decide +kernel
theorem dX4_readFigures_63 : decode cX4_readFigures 63 = .ok (.bipush 48, 2) := by decide +kernel
theorem dX4_readFigures_65 : decode cX4_readFigures 65 = .ok (.isub, 1) := by decide +kernel
theorem dX4_readFigures_66 : decode cX4_readFigures 66 = .ok (.putfield 114, 3) := by decide +kernel
theorem dX4_readFigures_69 : decode cX4_readFigures 69 = .ok (.aload_n 0, 1) := by decide +kernel
theorem dX4_readFigures_70 : decode cX4_readFigures 70 = .ok (.dup, 1) := by decide +kernel
theorem dX4_readFigures_71 : decode cX4_readFigures 71 = .ok (.getfield 38, 3) := by decide +kernel
theorem dX4_readFigures_74 : decode cX4_readFigures 74 = .ok (.iconst 1, 1) := by decide +kernel
theorem dX4_readFigures_75 : decode cX4_readFigures 75 = .ok (.iadd, 1) := by decide +kernel
theorem dX4_readFigures_76 : decode cX4_readFigures 76 = .ok (.putfield 38, 3) := by decide +kernel
theorem dX4_readFigures_79 : decode cX4_readFigures 79 = .ok (.goto (-72), 3) := by decide +kernel
theorem dX4_readFigures_82 : decode cX4_readFigures 82 = .ok (.aload_n 0, 1) := by decide +kernel
theorem dX4_readFigures_83 : decode cX4_readFigures 83 = .ok (.iload_n 1, 1) := by decide +kernel
theorem dX4_readFigures_84 : decode cX4_readFigures 84 = .ok (.iconst 2, 1) := by decide +kernel
theorem dX4_readFigures_85 : decode cX4_readFigures 85 = .ok (.if_icmp .le 8, 3) := by decide +kernel
theorem dX4_readFigures_88 : decode cX4_readFigures 88 = .ok (.bipush (-2), 2) := by decide +kernel
theorem dX4_readFigures_90 : decode cX4_readFigures 90 = .ok (.goto 5, 3) := by decide +kernel
theorem dX4_readFigures_93 : decode cX4_readFigures 93 = .ok (.bipush (-3), 2) := by decide +kernel
theorem dX4_readFigures_95 : decode cX4_readFigures 95 = .ok (.putfield 80, 3) := by decide +kernel
theorem dX4_readFigures_98 : decode cX4_readFigures 98 = .ok (.return_, 1) := by decide +kernel
theorem dX4_isFigure_0 : decode cX4_isFigure 0 = .ok (.iload_n 0, 1) := by decide +kernel
theorem dX4_isFigure_1 : decode cX4_isFigure 1 = .ok (.bipush 48, 2) := by decide +kernel
theorem dX4_isFigure_3 : decode cX4_isFigure 3 = .ok (.if_icmp .lt 13, 3) := by decide +kernel
theorem dX4_isFigure_6 : decode cX4_isFigure 6 = .ok (.iload_n 0, 1) := by decide +kernel
theorem dX4_isFigure_7 : decode cX4_isFigure 7 = .ok (.bipush 57, 2) := by decide +kernel
theorem dX4_isFigure_9 : decode cX4_isFigure 9 = .ok (.if_icmp .gt 7, 3) := by decide +kernel
theorem dX4_isFigure_12 : decode cX4_isFigure 12 = .ok (.iconst 1, 1) := by decide +kernel
theorem dX4_isFigure_13 : decode cX4_isFigure 13 = .ok (.goto 4, 3) := by decide +kernel
theorem dX4_isFigure_16 : decode cX4_isFigure 16 = .ok (.iconst 0, 1) := by decide +kernel
theorem dX4_isFigure_17 : decode cX4_isFigure 17 = .ok (.ireturn, 1) := by decide +kernel
theorem dX5_init_0 : decode cX5_init 0 = .ok (.aload_n 0, 1) := by decide +kernel
theorem dX5_init_1 : decode cX5_init 1 = .ok (.invokespecial 3, 3) := by decide +kernel
theorem dX5_init_4 : decode cX5_init 4 = .ok (.aload_n 0, 1) := by decide +kernel
theorem dX5_init_5 : decode cX5_init 5 = .ok (.bipush 40, 2) := by decide +kernel
theorem dX5_init_7 : decode cX5_init 7 = .ok (.newarray .int, 2) := by decide +kernel
theorem dX5_init_9 : decode cX5_init 9 = .ok (.putfield 9, 3) := by decide +kernel
theorem dX5_init_12 : decode cX5_init 12 = .ok (.return_, 1) := by decide +kernel
theorem dX5_begin_0 : decode cX5_begin 0 = .ok (.aload_n 0, 1) := by decide +kernel
theorem dX5_begin_1 : decode cX5_begin 1 = .ok (.iconst 1, 1) := by decide +kernel
theorem dX5_begin_2 : decode cX5_begin 2 = .ok (.putfield 15, 3) := by decide +kernel
theorem dX5_begin_5 : decode cX5_begin 5 = .ok (.aload_n 0, 1) := by decide +kernel
theorem dX5_begin_6 : decode cX5_begin 6 = .ok (.iload_n 1, 1) := by decide +kernel
theorem dX5_begin_7 : decode cX5_begin 7 = .ok (.putfield 19, 3) := by decide +kernel
theorem dX5_begin_10 : decode cX5_begin 10 = .ok (.aload_n 0, 1) := by decide +kernel
theorem dX5_begin_11 : decode cX5_begin 11 = .ok (.iload_n 2, 1) := by decide +kernel
theorem dX5_begin_12 : decode cX5_begin 12 = .ok (.putfield 23, 3) := by decide +kernel
theorem dX5_begin_15 : decode cX5_begin 15 = .ok (.iconst 0, 1) := by decide +kernel
theorem dX5_begin_16 : decode cX5_begin 16 = .ok (.istore_n 3, 1) := by decide +kernel
theorem dX5_begin_17 : decode cX5_begin 17 = .ok (.iload_n 3, 1) := by decide +kernel
theorem dX5_begin_18 : decode cX5_begin 18 = .ok (.bipush 40, 2) := by decide +kernel
theorem dX5_begin_20 : decode cX5_begin 20 = .ok (.if_icmp .ge 16, 3) := by decide +kernel
theorem dX5_begin_23 : decode cX5_begin 23 = .ok (.aload_n 0, 1) := by decide +kernel
theorem dX5_begin_24 : decode cX5_begin 24 = .ok (.getfield 9, 3) := by decide +kernel
theorem dX5_begin_27 : decode cX5_begin 27 = .ok (.iload_n 3, 1) := by decide +kernel
theorem dX5_begin_28 : decode cX5_begin 28 = .ok (.iconst 0, 1) := by decide +kernel
theorem dX5_begin_29 : decode cX5_begin 29 = .ok (.iastore, 1) := by decide +kernel
theorem dX5_begin_30 : decode cX5_begin 30 = .ok (.iinc 3 1, 3) := by decide +kernel
theorem dX5_begin_33 : decode cX5_begin 33 = .ok (.goto (-16), 3) := by decide +kernel
theorem dX5_begin_36 : decode cX5_begin 36 = .ok (.return_, 1) := by decide +kernel
theorem dX5_holds_0 : decode cX5_holds 0 = .ok (.iload_n 2, 1) := by decide +kernel
theorem dX5_holds_1 : decode cX5_holds 1 = .ok (.ifCond .lt 21, 3) := by decide +kernel
theorem dX5_holds_4 : decode cX5_holds 4 = .ok (.iload_n 1, 1) := by decide +kernel
theorem dX5_holds_5 : decode cX5_holds 5 = .ok (.ifCond .lt 17, 3) := by decide +kernel
theorem dX5_holds_8 : decode cX5_holds 8 = .ok (.iload_n 1, 1) := by decide +kernel
theorem dX5_holds_9 : decode cX5_holds 9 = .ok (.aload_n 0, 1) := by decide +kernel
theorem dX5_holds_10 : decode cX5_holds 10 = .ok (.getfield 23, 3) := by decide +kernel
theorem dX5_holds_13 : decode cX5_holds 13 = .ok (.iload_n 2, 1) := by decide +kernel
theorem dX5_holds_14 : decode cX5_holds 14 = .ok (.isub, 1) := by decide +kernel
theorem dX5_holds_15 : decode cX5_holds 15 = .ok (.if_icmp .gt 7, 3) := by decide +kernel
theorem dX5_holds_18 : decode cX5_holds 18 = .ok (.iconst 1, 1) := by decide +kernel
theorem dX5_holds_19 : decode cX5_holds 19 = .ok (.goto 4, 3) := by decide +kernel
theorem dX5_holds_22 : decode cX5_holds 22 = .ok (.iconst 0, 1) := by decide +kernel
theorem dX5_holds_23 : decode cX5_holds 23 = .ok (.ireturn, 1) := by decide +kernel
theorem dX5_put_0 : decode cX5_put 0 = .ok (.aload_n 0, 1) := by decide +kernel
theorem dX5_put_1 : decode cX5_put 1 = .ok (.getfield 9, 3) := by decide +kernel
theorem dX5_put_4 : decode cX5_put 4 = .ok (.iload_n 1, 1) := by decide +kernel
theorem dX5_put_5 : decode cX5_put 5 = .ok (.aload_n 0, 1) := by decide +kernel
theorem dX5_put_6 : decode cX5_put 6 = .ok (.getfield 19, 3) := by decide +kernel
theorem dX5_put_9 : decode cX5_put 9 = .ok (.ifCond .ne 8, 3) := by decide +kernel
theorem dX5_put_12 : decode cX5_put 12 = .ok (.iload_n 2, 1) := by decide +kernel
theorem dX5_put_13 : decode cX5_put 13 = .ok (.i2b, 1) := by decide +kernel
theorem dX5_put_14 : decode cX5_put 14 = .ok (.goto 17, 3) := by decide +kernel
theorem dX5_put_17 : decode cX5_put 17 = .ok (.aload_n 0, 1) := by decide +kernel
theorem dX5_put_18 : decode cX5_put 18 = .ok (.getfield 19, 3) := by decide +kernel
theorem dX5_put_21 : decode cX5_put 21 = .ok (.iconst 1, 1) := by decide +kernel
theorem dX5_put_22 : decode cX5_put 22 = .ok (.if_icmp .ne 8, 3) := by decide +kernel
theorem dX5_put_25 : decode cX5_put 25 = .ok (.iload_n 2, 1) := by decide +kernel
theorem dX5_put_26 : decode cX5_put 26 = .ok (.i2s, 1) := by decide +kernel
theorem dX5_put_27 : decode cX5_put 27 = .ok (.goto 4, 3) := by decide +kernel
theorem dX5_put_30 : decode cX5_put 30 = .ok (.iload_n 2, 1) := by decide +kernel
theorem dX5_put_31 : decode cX5_put 31 = .ok (.iastore, 1) := by decide +kernel
theorem dX5_put_32 : decode cX5_put 32 = .ok (.aload_n 0, 1) := by decide +kernel
theorem dX5_put_33 : decode cX5_put 33 = .ok (.getfield 9, 3) := by decide +kernel
theorem dX5_put_36 : decode cX5_put 36 = .ok (.iload_n 1, 1) := by decide +kernel
theorem dX5_put_37 : decode cX5_put 37 = .ok (.iaload, 1) := by decide +kernel
theorem dX5_put_38 : decode cX5_put 38 = .ok (.ireturn, 1) := by decide +kernel
theorem dX5_allWithin_0 : decode cX5_allWithin 0 = .ok (.iload_n 1, 1) := by decide +kernel
theorem dX5_allWithin_1 : decode cX5_allWithin 1 = .ok (.istore 5, 2) := by decide +kernel
theorem dX5_allWithin_3 : decode cX5_allWithin 3 = .ok (.iload 5, 2) := by decide +kernel
theorem dX5_allWithin_5 : decode cX5_allWithin 5 = .ok (.iload_n 1, 1) := by decide +kernel
theorem dX5_allWithin_6 : decode cX5_allWithin 6 = .ok (.iload_n 2, 1) := by decide +kernel
theorem dX5_allWithin_7 : decode cX5_allWithin 7 = .ok (.iadd, 1) := by decide +kernel
theorem dX5_allWithin_8 : decode cX5_allWithin 8 = .ok (.if_icmp .ge 34, 3) := by decide +kernel
theorem dX5_allWithin_11 : decode cX5_allWithin 11 = .ok (.aload_n 0, 1) := by decide +kernel
theorem dX5_allWithin_12 : decode cX5_allWithin 12 = .ok (.getfield 9, 3) := by decide +kernel
theorem dX5_allWithin_15 : decode cX5_allWithin 15 = .ok (.iload 5, 2) := by decide +kernel
theorem dX5_allWithin_17 : decode cX5_allWithin 17 = .ok (.iaload, 1) := by decide +kernel
theorem dX5_allWithin_18 : decode cX5_allWithin 18 = .ok (.iload_n 3, 1) := by decide +kernel
theorem dX5_allWithin_19 : decode cX5_allWithin 19 = .ok (.if_icmp .lt 15, 3) := by decide +kernel
theorem dX5_allWithin_22 : decode cX5_allWithin 22 = .ok (.aload_n 0, 1) := by decide +kernel
theorem dX5_allWithin_23 : decode cX5_allWithin 23 = .ok (.getfield 9, 3) := by decide +kernel
theorem dX5_allWithin_26 : decode cX5_allWithin 26 = .ok (.iload 5, 2) := by decide +kernel
theorem dX5_allWithin_28 : decode cX5_allWithin 28 = .ok (.iaload, 1) := by decide +kernel
theorem dX5_allWithin_29 : decode cX5_allWithin 29 = .ok (.iload 4, 2) := by decide +kernel
theorem dX5_allWithin_31 : decode cX5_allWithin 31 = .ok (.if_icmp .le 5, 3) := by decide +kernel
theorem dX5_allWithin_34 : decode cX5_allWithin 34 = .ok (.iconst 0, 1) := by decide +kernel
theorem dX5_allWithin_35 : decode cX5_allWithin 35 = .ok (.ireturn, 1) := by decide +kernel
theorem dX5_allWithin_36 : decode cX5_allWithin 36 = .ok (.iinc 5 1, 3) := by decide +kernel
theorem dX5_allWithin_39 : decode cX5_allWithin 39 = .ok (.goto (-36), 3) := by decide +kernel
theorem dX5_allWithin_42 : decode cX5_allWithin 42 = .ok (.iconst 1, 1) := by decide +kernel
theorem dX5_allWithin_43 : decode cX5_allWithin 43 = .ok (.ireturn, 1) := by decide +kernel
theorem dX6_init_0 : decode cX6_init 0 = .ok (.aload_n 0, 1) := by decide +kernel
theorem dX6_init_1 : decode cX6_init 1 = .ok (.invokespecial 3, 3) := by decide +kernel
theorem dX6_init_4 : decode cX6_init 4 = .ok (.aload_n 0, 1) := by decide +kernel
theorem dX6_init_5 : decode cX6_init 5 = .ok (.iconst 5, 1) := by decide +kernel
theorem dX6_init_6 : decode cX6_init 6 = .ok (.newarray .int, 2) := by decide +kernel
theorem dX6_init_8 : decode cX6_init 8 = .ok (.putfield 9, 3) := by decide +kernel
theorem dX6_init_11 : decode cX6_init 11 = .ok (.aload_n 0, 1) := by decide +kernel
theorem dX6_init_12 : decode cX6_init 12 = .ok (.iconst 5, 1) := by decide +kernel
theorem dX6_init_13 : decode cX6_init 13 = .ok (.newarray .int, 2) := by decide +kernel
theorem dX6_init_15 : decode cX6_init 15 = .ok (.putfield 15, 3) := by decide +kernel
theorem dX6_init_18 : decode cX6_init 18 = .ok (.aload_n 0, 1) := by decide +kernel
theorem dX6_init_19 : decode cX6_init 19 = .ok (.bipush 6, 2) := by decide +kernel
theorem dX6_init_21 : decode cX6_init 21 = .ok (.newarray .int, 2) := by decide +kernel
theorem dX6_init_23 : decode cX6_init 23 = .ok (.putfield 18, 3) := by decide +kernel
theorem dX6_init_26 : decode cX6_init 26 = .ok (.aload_n 0, 1) := by decide +kernel
theorem dX6_init_27 : decode cX6_init 27 = .ok (.aload_n 1, 1) := by decide +kernel
theorem dX6_init_28 : decode cX6_init 28 = .ok (.putfield 21, 3) := by decide +kernel
theorem dX6_init_31 : decode cX6_init 31 = .ok (.return_, 1) := by decide +kernel
theorem dX6_takeFrom_0 : decode cX6_takeFrom 0 = .ok (.aload_n 0, 1) := by decide +kernel
theorem dX6_takeFrom_1 : decode cX6_takeFrom 1 = .ok (.aload_n 1, 1) := by decide +kernel
theorem dX6_takeFrom_2 : decode cX6_takeFrom 2 = .ok (.getfield 25, 3) := by decide +kernel
theorem dX6_takeFrom_5 : decode cX6_takeFrom 5 = .ok (.putfield 25, 3) := by decide +kernel
theorem dX6_takeFrom_8 : decode cX6_takeFrom 8 = .ok (.aload_n 0, 1) := by decide +kernel
theorem dX6_takeFrom_9 : decode cX6_takeFrom 9 = .ok (.aload_n 1, 1) := by decide +kernel
theorem dX6_takeFrom_10 : decode cX6_takeFrom 10 = .ok (.getfield 29, 3) := by decide +kernel
theorem dX6_takeFrom_13 : decode cX6_takeFrom 13 = .ok (.putfield 29, 3) := by decide +kernel
theorem dX6_takeFrom_16 : decode cX6_takeFrom 16 = .ok (.aload_n 0, 1) := by decide +kernel
theorem dX6_takeFrom_17 : decode cX6_takeFrom 17 = .ok (.aload_n 1, 1) := by decide +kernel
theorem dX6_takeFrom_18 : decode cX6_takeFrom 18 = .ok (.getfield 32, 3) := by decide +kernel
theorem dX6_takeFrom_21 : decode cX6_takeFrom 21 = .ok (.putfield 32, 3) := by decide +kernel
theorem dX6_takeFrom_24 : decode cX6_takeFrom 24 = .ok (.aload_n 0, 1) := by decide +kernel
theorem dX6_takeFrom_25 : decode cX6_takeFrom 25 = .ok (.aload_n 1, 1) := by decide +kernel
theorem dX6_takeFrom_26 : decode cX6_takeFrom 26 = .ok (.getfield 35, 3) := by decide +kernel
theorem dX6_takeFrom_29 : decode cX6_takeFrom 29 = .ok (.putfield 35, 3) := by decide +kernel
theorem dX6_takeFrom_32 : decode cX6_takeFrom 32 = .ok (.aload_n 0, 1) := by decide +kernel
theorem dX6_takeFrom_33 : decode cX6_takeFrom 33 = .ok (.aload_n 1, 1) := by decide +kernel
theorem dX6_takeFrom_34 : decode cX6_takeFrom 34 = .ok (.getfield 38, 3) := by decide +kernel
theorem dX6_takeFrom_37 : decode cX6_takeFrom 37 = .ok (.putfield 38, 3) := by decide +kernel
theorem dX6_takeFrom_40 : decode cX6_takeFrom 40 = .ok (.aload_n 1, 1) := by decide +kernel
theorem dX6_takeFrom_41 : decode cX6_takeFrom 41 = .ok (.getfield 9, 3) := by decide +kernel
theorem dX6_takeFrom_44 : decode cX6_takeFrom 44 = .ok (.iconst 0, 1) := by decide +kernel
theorem dX6_takeFrom_45 : decode cX6_takeFrom 45 = .ok (.aload_n 0, 1) := by decide +kernel
theorem dX6_takeFrom_46 : decode cX6_takeFrom 46 = .ok (.getfield 9, 3) := by decide +kernel
theorem dX6_takeFrom_49 : decode cX6_takeFrom 49 = .ok (.iconst 0, 1) := by decide +kernel
theorem dX6_takeFrom_50 : decode cX6_takeFrom 50 = .ok (.iconst 5, 1) := by decide +kernel
theorem dX6_takeFrom_51 : decode cX6_takeFrom 51 = .ok (.invokestatic 41, 3) := by decide +kernel
theorem dX6_takeFrom_54 : decode cX6_takeFrom 54 = .ok (.aload_n 1, 1) := by decide +kernel
theorem dX6_takeFrom_55 : decode cX6_takeFrom 55 = .ok (.getfield 15, 3) := by decide +kernel
theorem dX6_takeFrom_58 : decode cX6_takeFrom 58 = .ok (.iconst 0, 1) := by decide +kernel
theorem dX6_takeFrom_59 : decode cX6_takeFrom 59 = .ok (.aload_n 0, 1) := by decide +kernel
theorem dX6_takeFrom_60 : decode cX6_takeFrom 60 = .ok (.getfield 15, 3) := by decide +kernel
theorem dX6_takeFrom_63 : decode cX6_takeFrom 63 = .ok (.iconst 0, 1) := by decide +kernel
theorem dX6_takeFrom_64 : decode cX6_takeFrom 64 = .ok (.iconst 5, 1) := by decide +kernel
theorem dX6_takeFrom_65 : decode cX6_takeFrom 65 = .ok (.invokestatic 41, 3) := by decide +kernel
theorem dX6_takeFrom_68 : decode cX6_takeFrom 68 = .ok (.aload_n 1, 1) := by decide +kernel
theorem dX6_takeFrom_69 : decode cX6_takeFrom 69 = .ok (.getfield 18, 3) := by decide +kernel
theorem dX6_takeFrom_72 : decode cX6_takeFrom 72 = .ok (.iconst 0, 1) := by decide +kernel
theorem dX6_takeFrom_73 : decode cX6_takeFrom 73 = .ok (.aload_n 0, 1) := by decide +kernel
theorem dX6_takeFrom_74 : decode cX6_takeFrom 74 = .ok (.getfield 18, 3) := by decide +kernel
theorem dX6_takeFrom_77 : decode cX6_takeFrom 77 = .ok (.iconst 0, 1) := by decide +kernel
theorem dX6_takeFrom_78 : decode cX6_takeFrom 78 = .ok (.bipush 6, 2) := by decide +kernel
theorem dX6_takeFrom_80 : decode cX6_takeFrom 80 = .ok (.invokestatic 41, 3) := by decide +kernel
theorem dX6_takeFrom_83 : decode cX6_takeFrom 83 = .ok (.return_, 1) := by decide +kernel
theorem dX6_isSaid_0 : decode cX6_isSaid 0 = .ok (.aload_n 0, 1) := by decide +kernel
theorem dX6_isSaid_1 : decode cX6_isSaid 1 = .ok (.getfield 38, 3) := by decide +kernel
theorem dX6_isSaid_4 : decode cX6_isSaid 4 = .ok (.iload_n 1, 1) := by decide +kernel
theorem dX6_isSaid_5 : decode cX6_isSaid 5 = .ok (.ishr, 1) := by decide +kernel
theorem dX6_isSaid_6 : decode cX6_isSaid 6 = .ok (.iconst 1, 1) := by decide +kernel
theorem dX6_isSaid_7 : decode cX6_isSaid 7 = .ok (.iand, 1) := by decide +kernel
theorem dX6_isSaid_8 : decode cX6_isSaid 8 = .ok (.iconst 1, 1) := by decide +kernel
theorem dX6_isSaid_9 : decode cX6_isSaid 9 = .ok (.if_icmp .ne 7, 3) := by decide +kernel
theorem dX6_isSaid_12 : decode cX6_isSaid 12 = .ok (.iconst 1, 1) := by decide +kernel
theorem dX6_isSaid_13 : decode cX6_isSaid 13 = .ok (.goto 4, 3) := by decide +kernel
theorem dX6_isSaid_16 : decode cX6_isSaid 16 = .ok (.iconst 0, 1) := by decide +kernel
theorem dX6_isSaid_17 : decode cX6_isSaid 17 = .ok (.ireturn, 1) := by decide +kernel
theorem dX6_wordsOfLeft_0 : decode cX6_wordsOfLeft 0 = .ok (.iconst 0, 1) := by decide +kernel
theorem dX6_wordsOfLeft_1 : decode cX6_wordsOfLeft 1 = .ok (.aload_n 0, 1) := by decide +kernel
theorem dX6_wordsOfLeft_2 : decode cX6_wordsOfLeft 2 = .ok (.getfield 21, 3) := by decide +kernel
theorem dX6_wordsOfLeft_5 : decode cX6_wordsOfLeft 5 = .ok (.iload_n 1, 1) := by decide +kernel
theorem dX6_wordsOfLeft_6 : decode cX6_wordsOfLeft 6 = .ok (.invokevirtual 47, 3) := by decide +kernel
theorem dX6_wordsOfLeft_9 : decode cX6_wordsOfLeft 9 = .ok (.aload_n 0, 1) := by decide +kernel
theorem dX6_wordsOfLeft_10 : decode cX6_wordsOfLeft 10 = .ok (.getfield 15, 3) := by decide +kernel
theorem dX6_wordsOfLeft_13 : decode cX6_wordsOfLeft 13 = .ok (.aload_n 0, 1) := by decide +kernel
theorem dX6_wordsOfLeft_14 : decode cX6_wordsOfLeft 14 = .ok (.getfield 21, 3) := by decide +kernel
theorem dX6_wordsOfLeft_17 : decode cX6_wordsOfLeft 17 = .ok (.getfield 53, 3) := by decide +kernel
theorem dX6_wordsOfLeft_20 : decode cX6_wordsOfLeft 20 = .ok (.iload_n 1, 1) := by decide +kernel
theorem dX6_wordsOfLeft_21 : decode cX6_wordsOfLeft 21 = .ok (.iaload, 1) := by decide +kernel
theorem dX6_wordsOfLeft_22 : decode cX6_wordsOfLeft 22 = .ok (.iaload, 1) := by decide +kernel
theorem dX6_wordsOfLeft_23 : decode cX6_wordsOfLeft 23 = .ok (.isub, 1) := by decide +kernel
theorem dX6_wordsOfLeft_24 : decode cX6_wordsOfLeft 24 = .ok (.invokestatic 56, 3) := by decide +kernel
theorem dX6_wordsOfLeft_27 : decode cX6_wordsOfLeft 27 = .ok (.ireturn, 1) := by decide +kernel
theorem dX6_crowns_0 : decode cX6_crowns 0 = .ok (.aload_n 0, 1) := by decide +kernel
theorem dX6_crowns_1 : decode cX6_crowns 1 = .ok (.getfield 21, 3) := by decide +kernel
theorem dX6_crowns_4 : decode cX6_crowns 4 = .ok (.getfield 62, 3) := by decide +kernel
theorem dX6_crowns_7 : decode cX6_crowns 7 = .ok (.iload_n 1, 1) := by decide +kernel
theorem dX6_crowns_8 : decode cX6_crowns 8 = .ok (.iaload, 1) := by decide +kernel
theorem dX6_crowns_9 : decode cX6_crowns 9 = .ok (.lookupswitch 41 #[(4, 27), (5, 29)], 27) := by decide +kernel
theorem dX6_crowns_36 : decode cX6_crowns 36 = .ok (.iconst 1, 1) := by decide +kernel
theorem dX6_crowns_37 : decode cX6_crowns 37 = .ok (.ireturn, 1) := by decide +kernel
theorem dX6_crowns_38 : decode cX6_crowns 38 = .ok (.iconst 1, 1) := by decide +kernel
theorem dX6_crowns_39 : decode cX6_crowns 39 = .ok (.aload_n 0, 1) := by decide +kernel
theorem dX6_crowns_40 : decode cX6_crowns 40 = .ok (.getfield 21, 3) := by decide +kernel
theorem dX6_crowns_43 : decode cX6_crowns 43 = .ok (.getfield 65, 3) := by decide +kernel
theorem dX6_crowns_46 : decode cX6_crowns 46 = .ok (.iload_n 1, 1) := by decide +kernel
theorem dX6_crowns_47 : decode cX6_crowns 47 = .ok (.iaload, 1) := by decide +kernel
theorem dX6_crowns_48 : decode cX6_crowns 48 = .ok (.iadd, 1) := by decide +kernel
theorem dX6_crowns_49 : decode cX6_crowns 49 = .ok (.ireturn, 1) := by decide +kernel
theorem dX6_crowns_50 : decode cX6_crowns 50 = .ok (.aload_n 0, 1) := by decide +kernel
theorem dX6_crowns_51 : decode cX6_crowns 51 = .ok (.iload_n 1, 1) := by decide +kernel
theorem dX6_crowns_52 : decode cX6_crowns 52 = .ok (.invokevirtual 68, 3) := by decide +kernel
theorem dX6_crowns_55 : decode cX6_crowns 55 = .ok (.aload_n 0, 1) := by decide +kernel
theorem dX6_crowns_56 : decode cX6_crowns 56 = .ok (.getfield 35, 3) := by decide +kernel
theorem dX6_crowns_59 : decode cX6_crowns 59 = .ok (.imul, 1) := by decide +kernel
theorem dX6_crowns_60 : decode cX6_crowns 60 = .ok (.ireturn, 1) := by decide +kernel
theorem dX6_canSay_0 : decode cX6_canSay 0 = .ok (.aload_n 0, 1) := by decide +kernel
theorem dX6_canSay_1 : decode cX6_canSay 1 = .ok (.iload_n 1, 1) := by decide +kernel
theorem dX6_canSay_2 : decode cX6_canSay 2 = .ok (.invokevirtual 71, 3) := by decide +kernel
theorem dX6_canSay_5 : decode cX6_canSay 5 = .ok (.ifCond .ne 41, 3) := by decide +kernel
theorem dX6_canSay_8 : decode cX6_canSay 8 = .ok (.aload_n 0, 1) := by decide +kernel
theorem dX6_canSay_9 : decode cX6_canSay 9 = .ok (.getfield 29, 3) := by decide +kernel
theorem dX6_canSay_12 : decode cX6_canSay 12 = .ok (.aload_n 0, 1) := by decide +kernel
theorem dX6_canSay_13 : decode cX6_canSay 13 = .ok (.iload_n 1, 1) := by decide +kernel
theorem dX6_canSay_14 : decode cX6_canSay 14 = .ok (.invokevirtual 68, 3) := by decide +kernel
theorem dX6_canSay_17 : decode cX6_canSay 17 = .ok (.if_icmp .lt 29, 3) := by decide +kernel
theorem dX6_canSay_20 : decode cX6_canSay 20 = .ok (.aload_n 0, 1) := by decide +kernel
theorem dX6_canSay_21 : decode cX6_canSay 21 = .ok (.getfield 9, 3) := by decide +kernel
theorem dX6_canSay_24 : decode cX6_canSay 24 = .ok (.aload_n 0, 1) := by decide +kernel
theorem dX6_canSay_25 : decode cX6_canSay 25 = .ok (.getfield 21, 3) := by decide +kernel
theorem dX6_canSay_28 : decode cX6_canSay 28 = .ok (.getfield 53, 3) := by decide +kernel
theorem dX6_canSay_31 : decode cX6_canSay 31 = .ok (.iload_n 1, 1) := by decide +kernel
theorem dX6_canSay_32 : decode cX6_canSay 32 = .ok (.iaload, 1) := by decide +kernel
theorem dX6_canSay_33 : decode cX6_canSay 33 = .ok (.iaload, 1) := by decide +kernel
theorem dX6_canSay_34 : decode cX6_canSay 34 = .ok (.aload_n 0, 1) := by decide +kernel
theorem dX6_canSay_35 : decode cX6_canSay 35 = .ok (.iload_n 1, 1) := by decide +kernel
theorem dX6_canSay_36 : decode cX6_canSay 36 = .ok (.invokevirtual 75, 3) := by decide +kernel
theorem dX6_canSay_39 : decode cX6_canSay 39 = .ok (.if_icmp .lt 7, 3) := by decide +kernel
theorem dX6_canSay_42 : decode cX6_canSay 42 = .ok (.iconst 1, 1) := by decide +kernel
theorem dX6_canSay_43 : decode cX6_canSay 43 = .ok (.goto 4, 3) := by decide +kernel
theorem dX6_canSay_46 : decode cX6_canSay 46 = .ok (.iconst 0, 1) := by decide +kernel
theorem dX6_canSay_47 : decode cX6_canSay 47 = .ok (.ireturn, 1) := by decide +kernel
theorem dX6_speak_0 : decode cX6_speak 0 = .ok (.aload_n 0, 1) := by decide +kernel
theorem dX6_speak_1 : decode cX6_speak 1 = .ok (.getfield 21, 3) := by decide +kernel
theorem dX6_speak_4 : decode cX6_speak 4 = .ok (.getfield 53, 3) := by decide +kernel
theorem dX6_speak_7 : decode cX6_speak 7 = .ok (.iload_n 1, 1) := by decide +kernel
theorem dX6_speak_8 : decode cX6_speak 8 = .ok (.iaload, 1) := by decide +kernel
theorem dX6_speak_9 : decode cX6_speak 9 = .ok (.istore_n 2, 1) := by decide +kernel
theorem dX6_speak_10 : decode cX6_speak 10 = .ok (.aload_n 0, 1) := by decide +kernel
theorem dX6_speak_11 : decode cX6_speak 11 = .ok (.iload_n 1, 1) := by decide +kernel
theorem dX6_speak_12 : decode cX6_speak 12 = .ok (.invokevirtual 68, 3) := by decide +kernel
theorem dX6_speak_15 : decode cX6_speak 15 = .ok (.istore_n 3, 1) := by decide +kernel
theorem dX6_speak_16 : decode cX6_speak 16 = .ok (.aload_n 0, 1) := by decide +kernel
theorem dX6_speak_17 : decode cX6_speak 17 = .ok (.getfield 9, 3) := by decide +kernel
theorem dX6_speak_20 : decode cX6_speak 20 = .ok (.iload_n 2, 1) := by decide +kernel
theorem dX6_speak_21 : decode cX6_speak 21 = .ok (.dup2, 1) := by decide +kernel
theorem dX6_speak_22 : decode cX6_speak 22 = .ok (.iaload, 1) := by decide +kernel
theorem dX6_speak_23 : decode cX6_speak 23 = .ok (.aload_n 0, 1) := by decide +kernel
theorem dX6_speak_24 : decode cX6_speak 24 = .ok (.iload_n 1, 1) := by decide +kernel
theorem dX6_speak_25 : decode cX6_speak 25 = .ok (.invokevirtual 75, 3) := by decide +kernel
theorem dX6_speak_28 : decode cX6_speak 28 = .ok (.isub, 1) := by decide +kernel
theorem dX6_speak_29 : decode cX6_speak 29 = .ok (.iastore, 1) := by decide +kernel
theorem dX6_speak_30 : decode cX6_speak 30 = .ok (.aload_n 0, 1) := by decide +kernel
theorem dX6_speak_31 : decode cX6_speak 31 = .ok (.getfield 15, 3) := by decide +kernel
theorem dX6_speak_34 : decode cX6_speak 34 = .ok (.iload_n 2, 1) := by decide +kernel
theorem dX6_speak_35 : decode cX6_speak 35 = .ok (.dup2, 1) := by decide +kernel
theorem dX6_speak_36 : decode cX6_speak 36 = .ok (.iaload, 1) := by decide +kernel
theorem dX6_speak_37 : decode cX6_speak 37 = .ok (.aload_n 0, 1) := by decide +kernel
theorem dX6_speak_38 : decode cX6_speak 38 = .ok (.getfield 21, 3) := by decide +kernel
theorem dX6_speak_41 : decode cX6_speak 41 = .ok (.iload_n 1, 1) := by decide +kernel
theorem dX6_speak_42 : decode cX6_speak 42 = .ok (.invokevirtual 47, 3) := by decide +kernel
theorem dX6_speak_45 : decode cX6_speak 45 = .ok (.iload_n 3, 1) := by decide +kernel
theorem dX6_speak_46 : decode cX6_speak 46 = .ok (.isub, 1) := by decide +kernel
theorem dX6_speak_47 : decode cX6_speak 47 = .ok (.isub, 1) := by decide +kernel
theorem dX6_speak_48 : decode cX6_speak 48 = .ok (.iastore, 1) := by decide +kernel
theorem dX6_speak_49 : decode cX6_speak 49 = .ok (.aload_n 0, 1) := by decide +kernel
theorem dX6_speak_50 : decode cX6_speak 50 = .ok (.dup, 1) := by decide +kernel
theorem dX6_speak_51 : decode cX6_speak 51 = .ok (.getfield 29, 3) := by decide +kernel
theorem dX6_speak_54 : decode cX6_speak 54 = .ok (.iload_n 3, 1) := by decide +kernel
theorem dX6_speak_55 : decode cX6_speak 55 = .ok (.isub, 1) := by decide +kernel
theorem dX6_speak_56 : decode cX6_speak 56 = .ok (.putfield 29, 3) := by decide +kernel
theorem dX6_speak_59 : decode cX6_speak 59 = .ok (.aload_n 0, 1) := by decide +kernel
theorem dX6_speak_60 : decode cX6_speak 60 = .ok (.dup, 1) := by decide +kernel
theorem dX6_speak_61 : decode cX6_speak 61 = .ok (.getfield 38, 3) := by decide +kernel
theorem dX6_speak_64 : decode cX6_speak 64 = .ok (.iconst 1, 1) := by decide +kernel
theorem dX6_speak_65 : decode cX6_speak 65 = .ok (.iload_n 1, 1) := by decide +kernel
theorem dX6_speak_66 : decode cX6_speak 66 = .ok (.ishl, 1) := by decide +kernel
theorem dX6_speak_67 : decode cX6_speak 67 = .ok (.ior, 1) := by decide +kernel
theorem dX6_speak_68 : decode cX6_speak 68 = .ok (.putfield 38, 3) := by decide +kernel
theorem dX6_speak_71 : decode cX6_speak 71 = .ok (.aload_n 0, 1) := by decide +kernel
theorem dX6_speak_72 : decode cX6_speak 72 = .ok (.getfield 18, 3) := by decide +kernel
theorem dX6_speak_75 : decode cX6_speak 75 = .ok (.iload_n 1, 1) := by decide +kernel
theorem dX6_speak_76 : decode cX6_speak 76 = .ok (.aload_n 0, 1) := by decide +kernel
theorem dX6_speak_77 : decode cX6_speak 77 = .ok (.getfield 21, 3) := by decide +kernel
theorem dX6_speak_80 : decode cX6_speak 80 = .ok (.aload_n 0, 1) := by decide +kernel
theorem dX6_speak_81 : decode cX6_speak 81 = .ok (.getfield 21, 3) := by decide +kernel
theorem dX6_speak_84 : decode cX6_speak 84 = .ok (.getfield 62, 3) := by decide +kernel
theorem dX6_speak_87 : decode cX6_speak 87 = .ok (.iload_n 1, 1) := by decide +kernel
theorem dX6_speak_88 : decode cX6_speak 88 = .ok (.iaload, 1) := by decide +kernel
theorem dX6_speak_89 : decode cX6_speak 89 = .ok (.iload_n 2, 1) := by decide +kernel
theorem dX6_speak_90 : decode cX6_speak 90 = .ok (.iconst 0, 1) := by decide +kernel
theorem dX6_speak_91 : decode cX6_speak 91 = .ok (.invokevirtual 78, 3) := by decide +kernel
theorem dX6_speak_94 : decode cX6_speak 94 = .ok (.iastore, 1) := by decide +kernel
theorem dX6_speak_95 : decode cX6_speak 95 = .ok (.iload_n 3, 1) := by decide +kernel
theorem dX6_speak_96 : decode cX6_speak 96 = .ok (.ireturn, 1) := by decide +kernel
theorem dX6_canBank_0 : decode cX6_canBank 0 = .ok (.iload_n 2, 1) := by decide +kernel
theorem dX6_canBank_1 : decode cX6_canBank 1 = .ok (.aload_n 0, 1) := by decide +kernel
theorem dX6_canBank_2 : decode cX6_canBank 2 = .ok (.getfield 29, 3) := by decide +kernel
theorem dX6_canBank_5 : decode cX6_canBank 5 = .ok (.if_icmp .gt 35, 3) := by decide +kernel
theorem dX6_canBank_8 : decode cX6_canBank 8 = .ok (.iload_n 2, 1) := by decide +kernel
theorem dX6_canBank_9 : decode cX6_canBank 9 = .ok (.aload_n 0, 1) := by decide +kernel
theorem dX6_canBank_10 : decode cX6_canBank 10 = .ok (.getfield 35, 3) := by decide +kernel
theorem dX6_canBank_13 : decode cX6_canBank 13 = .ok (.imul, 1) := by decide +kernel
theorem dX6_canBank_14 : decode cX6_canBank 14 = .ok (.aload_n 0, 1) := by decide +kernel
theorem dX6_canBank_15 : decode cX6_canBank 15 = .ok (.getfield 9, 3) := by decide +kernel
theorem dX6_canBank_18 : decode cX6_canBank 18 = .ok (.iload_n 1, 1) := by decide +kernel
theorem dX6_canBank_19 : decode cX6_canBank 19 = .ok (.iaload, 1) := by decide +kernel
theorem dX6_canBank_20 : decode cX6_canBank 20 = .ok (.if_icmp .gt 20, 3) := by decide +kernel
theorem dX6_canBank_23 : decode cX6_canBank 23 = .ok (.aload_n 0, 1) := by decide +kernel
theorem dX6_canBank_24 : decode cX6_canBank 24 = .ok (.getfield 15, 3) := by decide +kernel
theorem dX6_canBank_27 : decode cX6_canBank 27 = .ok (.iload_n 1, 1) := by decide +kernel
theorem dX6_canBank_28 : decode cX6_canBank 28 = .ok (.iaload, 1) := by decide +kernel
theorem dX6_canBank_29 : decode cX6_canBank 29 = .ok (.iload_n 2, 1) := by decide +kernel
theorem dX6_canBank_30 : decode cX6_canBank 30 = .ok (.iadd, 1) := by decide +kernel
theorem dX6_canBank_31 : decode cX6_canBank 31 = .ok (.bipush 99, 2) := by decide +kernel
theorem dX6_canBank_33 : decode cX6_canBank 33 = .ok (.if_icmp .gt 7, 3) := by decide +kernel
theorem dX6_canBank_36 : decode cX6_canBank 36 = .ok (.iconst 1, 1) := by decide +kernel
theorem dX6_canBank_37 : decode cX6_canBank 37 = .ok (.goto 4, 3) := by decide +kernel
theorem dX6_canBank_40 : decode cX6_canBank 40 = .ok (.iconst 0, 1) := by decide +kernel
theorem dX6_canBank_41 : decode cX6_canBank 41 = .ok (.ireturn, 1) := by decide +kernel
theorem dX6_bank_0 : decode cX6_bank 0 = .ok (.aload_n 0, 1) := by decide +kernel
theorem dX6_bank_1 : decode cX6_bank 1 = .ok (.dup, 1) := by decide +kernel
theorem dX6_bank_2 : decode cX6_bank 2 = .ok (.getfield 29, 3) := by decide +kernel
theorem dX6_bank_5 : decode cX6_bank 5 = .ok (.iload_n 2, 1) := by decide +kernel
theorem dX6_bank_6 : decode cX6_bank 6 = .ok (.isub, 1) := by decide +kernel
theorem dX6_bank_7 : decode cX6_bank 7 = .ok (.putfield 29, 3) := by decide +kernel
theorem dX6_bank_10 : decode cX6_bank 10 = .ok (.aload_n 0, 1) := by decide +kernel
theorem dX6_bank_11 : decode cX6_bank 11 = .ok (.getfield 9, 3) := by decide +kernel
theorem dX6_bank_14 : decode cX6_bank 14 = .ok (.iload_n 1, 1) := by decide +kernel
theorem dX6_bank_15 : decode cX6_bank 15 = .ok (.dup2, 1) := by decide +kernel
theorem dX6_bank_16 : decode cX6_bank 16 = .ok (.iaload, 1) := by decide +kernel
theorem dX6_bank_17 : decode cX6_bank 17 = .ok (.iload_n 2, 1) := by decide +kernel
theorem dX6_bank_18 : decode cX6_bank 18 = .ok (.aload_n 0, 1) := by decide +kernel
theorem dX6_bank_19 : decode cX6_bank 19 = .ok (.getfield 35, 3) := by decide +kernel
theorem dX6_bank_22 : decode cX6_bank 22 = .ok (.imul, 1) := by decide +kernel
theorem dX6_bank_23 : decode cX6_bank 23 = .ok (.isub, 1) := by decide +kernel
theorem dX6_bank_24 : decode cX6_bank 24 = .ok (.iastore, 1) := by decide +kernel
theorem dX6_bank_25 : decode cX6_bank 25 = .ok (.aload_n 0, 1) := by decide +kernel
theorem dX6_bank_26 : decode cX6_bank 26 = .ok (.getfield 15, 3) := by decide +kernel
theorem dX6_bank_29 : decode cX6_bank 29 = .ok (.iload_n 1, 1) := by decide +kernel
theorem dX6_bank_30 : decode cX6_bank 30 = .ok (.dup2, 1) := by decide +kernel
theorem dX6_bank_31 : decode cX6_bank 31 = .ok (.iaload, 1) := by decide +kernel
theorem dX6_bank_32 : decode cX6_bank 32 = .ok (.iload_n 2, 1) := by decide +kernel
theorem dX6_bank_33 : decode cX6_bank 33 = .ok (.iadd, 1) := by decide +kernel
theorem dX6_bank_34 : decode cX6_bank 34 = .ok (.iastore, 1) := by decide +kernel
theorem dX6_bank_35 : decode cX6_bank 35 = .ok (.aload_n 0, 1) := by decide +kernel
theorem dX6_bank_36 : decode cX6_bank 36 = .ok (.getfield 15, 3) := by decide +kernel
theorem dX6_bank_39 : decode cX6_bank 39 = .ok (.iload_n 1, 1) := by decide +kernel
theorem dX6_bank_40 : decode cX6_bank 40 = .ok (.iaload, 1) := by decide +kernel
theorem dX6_bank_41 : decode cX6_bank 41 = .ok (.ireturn, 1) := by decide +kernel
theorem dX6_purseAhead_0 : decode cX6_purseAhead 0 = .ok (.bipush 99, 2) := by decide +kernel
theorem dX6_purseAhead_2 : decode cX6_purseAhead 2 = .ok (.aload_n 0, 1) := by decide +kernel
theorem dX6_purseAhead_3 : decode cX6_purseAhead 3 = .ok (.getfield 9, 3) := by decide +kernel
theorem dX6_purseAhead_6 : decode cX6_purseAhead 6 = .ok (.iload_n 1, 1) := by decide +kernel
theorem dX6_purseAhead_7 : decode cX6_purseAhead 7 = .ok (.iaload, 1) := by decide +kernel
theorem dX6_purseAhead_8 : decode cX6_purseAhead 8 = .ok (.iload_n 2, 1) := by decide +kernel
theorem dX6_purseAhead_9 : decode cX6_purseAhead 9 = .ok (.aload_n 0, 1) := by decide +kernel
theorem dX6_purseAhead_10 : decode cX6_purseAhead 10 = .ok (.getfield 21, 3) := by decide +kernel
theorem dX6_purseAhead_13 : decode cX6_purseAhead 13 = .ok (.getfield 82, 3) := by decide +kernel
theorem dX6_purseAhead_16 : decode cX6_purseAhead 16 = .ok (.iload_n 1, 1) := by decide +kernel
theorem dX6_purseAhead_17 : decode cX6_purseAhead 17 = .ok (.iaload, 1) := by decide +kernel
theorem dX6_purseAhead_18 : decode cX6_purseAhead 18 = .ok (.imul, 1) := by decide +kernel
theorem dX6_purseAhead_19 : decode cX6_purseAhead 19 = .ok (.iadd, 1) := by decide +kernel
theorem dX6_purseAhead_20 : decode cX6_purseAhead 20 = .ok (.invokestatic 85, 3) := by decide +kernel
theorem dX6_purseAhead_23 : decode cX6_purseAhead 23 = .ok (.ireturn, 1) := by decide +kernel
theorem dX6_hillAhead_0 : decode cX6_hillAhead 0 = .ok (.iload_n 1, 1) := by decide +kernel
theorem dX6_hillAhead_1 : decode cX6_hillAhead 1 = .ok (.ifCond .ne 10, 3) := by decide +kernel
theorem dX6_hillAhead_4 : decode cX6_hillAhead 4 = .ok (.aload_n 0, 1) := by decide +kernel
theorem dX6_hillAhead_5 : decode cX6_hillAhead 5 = .ok (.getfield 32, 3) := by decide +kernel
theorem dX6_hillAhead_8 : decode cX6_hillAhead 8 = .ok (.goto 30, 3) := by decide +kernel
theorem dX6_hillAhead_11 : decode cX6_hillAhead 11 = .ok (.sipush 999, 3) := by decide +kernel
theorem dX6_hillAhead_14 : decode cX6_hillAhead 14 = .ok (.aload_n 0, 1) := by decide +kernel
theorem dX6_hillAhead_15 : decode cX6_hillAhead 15 = .ok (.getfield 32, 3) := by decide +kernel
theorem dX6_hillAhead_18 : decode cX6_hillAhead 18 = .ok (.aload_n 0, 1) := by decide +kernel
theorem dX6_hillAhead_19 : decode cX6_hillAhead 19 = .ok (.getfield 29, 3) := by decide +kernel
theorem dX6_hillAhead_22 : decode cX6_hillAhead 22 = .ok (.iadd, 1) := by decide +kernel
theorem dX6_hillAhead_23 : decode cX6_hillAhead 23 = .ok (.iload_n 1, 1) := by decide +kernel
theorem dX6_hillAhead_24 : decode cX6_hillAhead 24 = .ok (.iconst 1, 1) := by decide +kernel
theorem dX6_hillAhead_25 : decode cX6_hillAhead 25 = .ok (.isub, 1) := by decide +kernel
theorem dX6_hillAhead_26 : decode cX6_hillAhead 26 = .ok (.aload_n 0, 1) := by decide +kernel
theorem dX6_hillAhead_27 : decode cX6_hillAhead 27 = .ok (.getfield 21, 3) := by decide +kernel
theorem dX6_hillAhead_30 : decode cX6_hillAhead 30 = .ok (.getfield 88, 3) := by decide +kernel
theorem dX6_hillAhead_33 : decode cX6_hillAhead 33 = .ok (.imul, 1) := by decide +kernel
theorem dX6_hillAhead_34 : decode cX6_hillAhead 34 = .ok (.iadd, 1) := by decide +kernel
theorem dX6_hillAhead_35 : decode cX6_hillAhead 35 = .ok (.invokestatic 85, 3) := by decide +kernel
theorem dX6_hillAhead_38 : decode cX6_hillAhead 38 = .ok (.ireturn, 1) := by decide +kernel
theorem dX6_knownAhead_0 : decode cX6_knownAhead 0 = .ok (.aload_n 0, 1) := by decide +kernel
theorem dX6_knownAhead_1 : decode cX6_knownAhead 1 = .ok (.getfield 21, 3) := by decide +kernel
theorem dX6_knownAhead_4 : decode cX6_knownAhead 4 = .ok (.aload_n 0, 1) := by decide +kernel
theorem dX6_knownAhead_5 : decode cX6_knownAhead 5 = .ok (.getfield 21, 3) := by decide +kernel
theorem dX6_knownAhead_8 : decode cX6_knownAhead 8 = .ok (.getfield 62, 3) := by decide +kernel
theorem dX6_knownAhead_11 : decode cX6_knownAhead 11 = .ok (.iload_n 1, 1) := by decide +kernel
theorem dX6_knownAhead_12 : decode cX6_knownAhead 12 = .ok (.iaload, 1) := by decide +kernel
theorem dX6_knownAhead_13 : decode cX6_knownAhead 13 = .ok (.aload_n 0, 1) := by decide +kernel
theorem dX6_knownAhead_14 : decode cX6_knownAhead 14 = .ok (.getfield 18, 3) := by decide +kernel
theorem dX6_knownAhead_17 : decode cX6_knownAhead 17 = .ok (.iload_n 1, 1) := by decide +kernel
theorem dX6_knownAhead_18 : decode cX6_knownAhead 18 = .ok (.iaload, 1) := by decide +kernel
theorem dX6_knownAhead_19 : decode cX6_knownAhead 19 = .ok (.iconst 0, 1) := by decide +kernel
theorem dX6_knownAhead_20 : decode cX6_knownAhead 20 = .ok (.iload_n 2, 1) := by decide +kernel
theorem dX6_knownAhead_21 : decode cX6_knownAhead 21 = .ok (.invokevirtual 91, 3) := by decide +kernel
theorem dX6_knownAhead_24 : decode cX6_knownAhead 24 = .ok (.ireturn, 1) := by decide +kernel
theorem dX6_passWeeks_0 : decode cX6_passWeeks 0 = .ok (.iconst 0, 1) := by decide +kernel
theorem dX6_passWeeks_1 : decode cX6_passWeeks 1 = .ok (.istore_n 2, 1) := by decide +kernel
theorem dX6_passWeeks_2 : decode cX6_passWeeks 2 = .ok (.iload_n 2, 1) := by decide +kernel
theorem dX6_passWeeks_3 : decode cX6_passWeeks 3 = .ok (.aload_n 0, 1) := by decide +kernel
theorem dX6_passWeeks_4 : decode cX6_passWeeks 4 = .ok (.getfield 21, 3) := by decide +kernel
theorem dX6_passWeeks_7 : decode cX6_passWeeks 7 = .ok (.getfield 95, 3) := by decide +kernel
theorem dX6_passWeeks_10 : decode cX6_passWeeks 10 = .ok (.if_icmp .ge 39, 3) := by decide +kernel
theorem dX6_passWeeks_13 : decode cX6_passWeeks 13 = .ok (.aload_n 0, 1) := by decide +kernel
theorem dX6_passWeeks_14 : decode cX6_passWeeks 14 = .ok (.getfield 18, 3) := by decide +kernel
theorem dX6_passWeeks_17 : decode cX6_passWeeks 17 = .ok (.iload_n 2, 1) := by decide +kernel
theorem dX6_passWeeks_18 : decode cX6_passWeeks 18 = .ok (.aload_n 0, 1) := by decide +kernel
theorem dX6_passWeeks_19 : decode cX6_passWeeks 19 = .ok (.getfield 21, 3) := by decide +kernel
theorem dX6_passWeeks_22 : decode cX6_passWeeks 22 = .ok (.aload_n 0, 1) := by decide +kernel
theorem dX6_passWeeks_23 : decode cX6_passWeeks 23 = .ok (.getfield 21, 3) := by decide +kernel
theorem dX6_passWeeks_26 : decode cX6_passWeeks 26 = .ok (.getfield 62, 3) := by decide +kernel
theorem dX6_passWeeks_29 : decode cX6_passWeeks 29 = .ok (.iload_n 2, 1) := by decide +kernel
theorem dX6_passWeeks_30 : decode cX6_passWeeks 30 = .ok (.iaload, 1) := by decide +kernel
theorem dX6_passWeeks_31 : decode cX6_passWeeks 31 = .ok (.aload_n 0, 1) := by decide +kernel
theorem dX6_passWeeks_32 : decode cX6_passWeeks 32 = .ok (.getfield 18, 3) := by decide +kernel
theorem dX6_passWeeks_35 : decode cX6_passWeeks 35 = .ok (.iload_n 2, 1) := by decide +kernel
theorem dX6_passWeeks_36 : decode cX6_passWeeks 36 = .ok (.iaload, 1) := by decide +kernel
theorem dX6_passWeeks_37 : decode cX6_passWeeks 37 = .ok (.iconst 0, 1) := by decide +kernel
theorem dX6_passWeeks_38 : decode cX6_passWeeks 38 = .ok (.iload_n 1, 1) := by decide +kernel
theorem dX6_passWeeks_39 : decode cX6_passWeeks 39 = .ok (.invokevirtual 91, 3) := by decide +kernel
theorem dX6_passWeeks_42 : decode cX6_passWeeks 42 = .ok (.iastore, 1) := by decide +kernel
theorem dX6_passWeeks_43 : decode cX6_passWeeks 43 = .ok (.iinc 2 1, 3) := by decide +kernel
theorem dX6_passWeeks_46 : decode cX6_passWeeks 46 = .ok (.goto (-44), 3) := by decide +kernel
theorem dX6_passWeeks_49 : decode cX6_passWeeks 49 = .ok (.iconst 0, 1) := by decide +kernel
theorem dX6_passWeeks_50 : decode cX6_passWeeks 50 = .ok (.istore_n 2, 1) := by decide +kernel
theorem dX6_passWeeks_51 : decode cX6_passWeeks 51 = .ok (.iload_n 2, 1) := by decide +kernel
theorem dX6_passWeeks_52 : decode cX6_passWeeks 52 = .ok (.aload_n 0, 1) := by decide +kernel
theorem dX6_passWeeks_53 : decode cX6_passWeeks 53 = .ok (.getfield 21, 3) := by decide +kernel
theorem dX6_passWeeks_56 : decode cX6_passWeeks 56 = .ok (.getfield 98, 3) := by decide +kernel
theorem dX6_passWeeks_59 : decode cX6_passWeeks 59 = .ok (.if_icmp .ge 21, 3) := by decide +kernel
theorem dX6_passWeeks_62 : decode cX6_passWeeks 62 = .ok (.aload_n 0, 1) := by decide +kernel
theorem dX6_passWeeks_63 : decode cX6_passWeeks 63 = .ok (.getfield 9, 3) := by decide +kernel
theorem dX6_passWeeks_66 : decode cX6_passWeeks 66 = .ok (.iload_n 2, 1) := by decide +kernel
theorem dX6_passWeeks_67 : decode cX6_passWeeks 67 = .ok (.aload_n 0, 1) := by decide +kernel
theorem dX6_passWeeks_68 : decode cX6_passWeeks 68 = .ok (.iload_n 2, 1) := by decide +kernel
theorem dX6_passWeeks_69 : decode cX6_passWeeks 69 = .ok (.iload_n 1, 1) := by decide +kernel
theorem dX6_passWeeks_70 : decode cX6_passWeeks 70 = .ok (.invokevirtual 101, 3) := by decide +kernel
theorem dX6_passWeeks_73 : decode cX6_passWeeks 73 = .ok (.iastore, 1) := by decide +kernel
theorem dX6_passWeeks_74 : decode cX6_passWeeks 74 = .ok (.iinc 2 1, 3) := by decide +kernel
theorem dX6_passWeeks_77 : decode cX6_passWeeks 77 = .ok (.goto (-26), 3) := by decide +kernel
theorem dX6_passWeeks_80 : decode cX6_passWeeks 80 = .ok (.aload_n 0, 1) := by decide +kernel
theorem dX6_passWeeks_81 : decode cX6_passWeeks 81 = .ok (.aload_n 0, 1) := by decide +kernel
theorem dX6_passWeeks_82 : decode cX6_passWeeks 82 = .ok (.iload_n 1, 1) := by decide +kernel
theorem dX6_passWeeks_83 : decode cX6_passWeeks 83 = .ok (.invokevirtual 104, 3) := by decide +kernel
theorem dX6_passWeeks_86 : decode cX6_passWeeks 86 = .ok (.putfield 32, 3) := by decide +kernel
theorem dX6_passWeeks_89 : decode cX6_passWeeks 89 = .ok (.aload_n 0, 1) := by decide +kernel
theorem dX6_passWeeks_90 : decode cX6_passWeeks 90 = .ok (.iload_n 1, 1) := by decide +kernel
theorem dX6_passWeeks_91 : decode cX6_passWeeks 91 = .ok (.ifCond .ne 10, 3) := by decide +kernel
theorem dX6_passWeeks_94 : decode cX6_passWeeks 94 = .ok (.aload_n 0, 1) := by decide +kernel
theorem dX6_passWeeks_95 : decode cX6_passWeeks 95 = .ok (.getfield 29, 3) := by decide +kernel
theorem dX6_passWeeks_98 : decode cX6_passWeeks 98 = .ok (.goto 10, 3) := by decide +kernel
theorem dX6_passWeeks_101 : decode cX6_passWeeks 101 = .ok (.aload_n 0, 1) := by decide +kernel
theorem dX6_passWeeks_102 : decode cX6_passWeeks 102 = .ok (.getfield 21, 3) := by decide +kernel
theorem dX6_passWeeks_105 : decode cX6_passWeeks 105 = .ok (.getfield 88, 3) := by decide +kernel
theorem dX6_passWeeks_108 : decode cX6_passWeeks 108 = .ok (.putfield 29, 3) := by decide +kernel
theorem dX6_passWeeks_111 : decode cX6_passWeeks 111 = .ok (.aload_n 0, 1) := by decide +kernel
theorem dX6_passWeeks_112 : decode cX6_passWeeks 112 = .ok (.dup, 1) := by decide +kernel
theorem dX6_passWeeks_113 : decode cX6_passWeeks 113 = .ok (.getfield 25, 3) := by decide +kernel
theorem dX6_passWeeks_116 : decode cX6_passWeeks 116 = .ok (.iload_n 1, 1) := by decide +kernel
theorem dX6_passWeeks_117 : decode cX6_passWeeks 117 = .ok (.iadd, 1) := by decide +kernel
theorem dX6_passWeeks_118 : decode cX6_passWeeks 118 = .ok (.putfield 25, 3) := by decide +kernel
theorem dX6_passWeeks_121 : decode cX6_passWeeks 121 = .ok (.return_, 1) := by decide +kernel
theorem dX6_weeksTill_0 : decode cX6_weeksTill 0 = .ok (.aload_n 0, 1) := by decide +kernel
theorem dX6_weeksTill_1 : decode cX6_weeksTill 1 = .ok (.iload_n 1, 1) := by decide +kernel
theorem dX6_weeksTill_2 : decode cX6_weeksTill 2 = .ok (.invokevirtual 68, 3) := by decide +kernel
theorem dX6_weeksTill_5 : decode cX6_weeksTill 5 = .ok (.istore_n 3, 1) := by decide +kernel
theorem dX6_weeksTill_6 : decode cX6_weeksTill 6 = .ok (.aload_n 0, 1) := by decide +kernel
theorem dX6_weeksTill_7 : decode cX6_weeksTill 7 = .ok (.iload_n 1, 1) := by decide +kernel
theorem dX6_weeksTill_8 : decode cX6_weeksTill 8 = .ok (.invokevirtual 75, 3) := by decide +kernel
theorem dX6_weeksTill_11 : decode cX6_weeksTill 11 = .ok (.aload_n 0, 1) := by decide +kernel
theorem dX6_weeksTill_12 : decode cX6_weeksTill 12 = .ok (.getfield 9, 3) := by decide +kernel
theorem dX6_weeksTill_15 : decode cX6_weeksTill 15 = .ok (.aload_n 0, 1) := by decide +kernel
theorem dX6_weeksTill_16 : decode cX6_weeksTill 16 = .ok (.getfield 21, 3) := by decide +kernel
theorem dX6_weeksTill_19 : decode cX6_weeksTill 19 = .ok (.getfield 53, 3) := by decide +kernel
theorem dX6_weeksTill_22 : decode cX6_weeksTill 22 = .ok (.iload_n 1, 1) := by decide +kernel
theorem dX6_weeksTill_23 : decode cX6_weeksTill 23 = .ok (.iaload, 1) := by decide +kernel
theorem dX6_weeksTill_24 : decode cX6_weeksTill 24 = .ok (.iaload, 1) := by decide +kernel
theorem dX6_weeksTill_25 : decode cX6_weeksTill 25 = .ok (.isub, 1) := by decide +kernel
theorem dX6_weeksTill_26 : decode cX6_weeksTill 26 = .ok (.istore 4, 2) := by decide +kernel
theorem dX6_weeksTill_28 : decode cX6_weeksTill 28 = .ok (.aload_n 0, 1) := by decide +kernel
theorem dX6_weeksTill_29 : decode cX6_weeksTill 29 = .ok (.getfield 29, 3) := by decide +kernel
theorem dX6_weeksTill_32 : decode cX6_weeksTill 32 = .ok (.iload_n 3, 1) := by decide +kernel
theorem dX6_weeksTill_33 : decode cX6_weeksTill 33 = .ok (.if_icmp .lt 12, 3) := by decide +kernel
theorem dX6_weeksTill_36 : decode cX6_weeksTill 36 = .ok (.iload 4, 2) := by decide +kernel
theorem dX6_weeksTill_38 : decode cX6_weeksTill 38 = .ok (.ifCond .gt 7, 3) := by decide +kernel
theorem dX6_weeksTill_41 : decode cX6_weeksTill 41 = .ok (.iconst 0, 1) := by decide +kernel
theorem dX6_weeksTill_42 : decode cX6_weeksTill 42 = .ok (.goto 14, 3) := by decide +kernel
theorem dX6_weeksTill_45 : decode cX6_weeksTill 45 = .ok (.iconst 1, 1) := by decide +kernel
theorem dX6_weeksTill_46 : decode cX6_weeksTill 46 = .ok (.aload_n 0, 1) := by decide +kernel
theorem dX6_weeksTill_47 : decode cX6_weeksTill 47 = .ok (.iload_n 1, 1) := by decide +kernel
theorem dX6_weeksTill_48 : decode cX6_weeksTill 48 = .ok (.iload 4, 2) := by decide +kernel
theorem dX6_weeksTill_50 : decode cX6_weeksTill 50 = .ok (.invokevirtual 107, 3) := by decide +kernel
theorem dX6_weeksTill_53 : decode cX6_weeksTill 53 = .ok (.invokestatic 56, 3) := by decide +kernel
theorem dX6_weeksTill_56 : decode cX6_weeksTill 56 = .ok (.istore 5, 2) := by decide +kernel
theorem dX6_weeksTill_58 : decode cX6_weeksTill 58 = .ok (.iload 5, 2) := by decide +kernel
theorem dX6_weeksTill_60 : decode cX6_weeksTill 60 = .ok (.ifCond .eq 24, 3) := by decide +kernel
theorem dX6_weeksTill_63 : decode cX6_weeksTill 63 = .ok (.aload_n 0, 1) := by decide +kernel
theorem dX6_weeksTill_64 : decode cX6_weeksTill 64 = .ok (.getfield 21, 3) := by decide +kernel
theorem dX6_weeksTill_67 : decode cX6_weeksTill 67 = .ok (.getfield 88, 3) := by decide +kernel
theorem dX6_weeksTill_70 : decode cX6_weeksTill 70 = .ok (.iload_n 3, 1) := by decide +kernel
theorem dX6_weeksTill_71 : decode cX6_weeksTill 71 = .ok (.if_icmp .lt 17, 3) := by decide +kernel
theorem dX6_weeksTill_74 : decode cX6_weeksTill 74 = .ok (.aload_n 0, 1) := by decide +kernel
theorem dX6_weeksTill_75 : decode cX6_weeksTill 75 = .ok (.iload_n 1, 1) := by decide +kernel
theorem dX6_weeksTill_76 : decode cX6_weeksTill 76 = .ok (.invokevirtual 75, 3) := by decide +kernel
theorem dX6_weeksTill_79 : decode cX6_weeksTill 79 = .ok (.bipush 99, 2) := by decide +kernel
theorem dX6_weeksTill_81 : decode cX6_weeksTill 81 = .ok (.if_icmp .gt 7, 3) := by decide +kernel
theorem dX6_weeksTill_84 : decode cX6_weeksTill 84 = .ok (.iconst 1, 1) := by decide +kernel
theorem dX6_weeksTill_85 : decode cX6_weeksTill 85 = .ok (.goto 4, 3) := by decide +kernel
theorem dX6_weeksTill_88 : decode cX6_weeksTill 88 = .ok (.iconst 0, 1) := by decide +kernel
theorem dX6_weeksTill_89 : decode cX6_weeksTill 89 = .ok (.istore 6, 2) := by decide +kernel
theorem dX6_weeksTill_91 : decode cX6_weeksTill 91 = .ok (.iload 6, 2) := by decide +kernel
theorem dX6_weeksTill_93 : decode cX6_weeksTill 93 = .ok (.ifCond .eq 14, 3) := by decide +kernel
theorem dX6_weeksTill_96 : decode cX6_weeksTill 96 = .ok (.iload 5, 2) := by decide +kernel
theorem dX6_weeksTill_98 : decode cX6_weeksTill 98 = .ok (.iload_n 2, 1) := by decide +kernel
theorem dX6_weeksTill_99 : decode cX6_weeksTill 99 = .ok (.if_icmp .gt 8, 3) := by decide +kernel
theorem dX6_weeksTill_102 : decode cX6_weeksTill 102 = .ok (.iload 5, 2) := by decide +kernel
theorem dX6_weeksTill_104 : decode cX6_weeksTill 104 = .ok (.goto 5, 3) := by decide +kernel
theorem dX6_weeksTill_107 : decode cX6_weeksTill 107 = .ok (.ldc 110, 2) := by decide +kernel
theorem dX6_weeksTill_109 : decode cX6_weeksTill 109 = .ok (.ireturn, 1) := by decide +kernel
theorem dX6_weeksToEarn_0 : decode cX6_weeksToEarn 0 = .ok (.aload_n 0, 1) := by decide +kernel
theorem dX6_weeksToEarn_1 : decode cX6_weeksToEarn 1 = .ok (.getfield 21, 3) := by decide +kernel
theorem dX6_weeksToEarn_4 : decode cX6_weeksToEarn 4 = .ok (.getfield 82, 3) := by decide +kernel
theorem dX6_weeksToEarn_7 : decode cX6_weeksToEarn 7 = .ok (.aload_n 0, 1) := by decide +kernel
theorem dX6_weeksToEarn_8 : decode cX6_weeksToEarn 8 = .ok (.getfield 21, 3) := by decide +kernel
theorem dX6_weeksToEarn_11 : decode cX6_weeksToEarn 11 = .ok (.getfield 53, 3) := by decide +kernel
theorem dX6_weeksToEarn_14 : decode cX6_weeksToEarn 14 = .ok (.iload_n 1, 1) := by decide +kernel
theorem dX6_weeksToEarn_15 : decode cX6_weeksToEarn 15 = .ok (.iaload, 1) := by decide +kernel
theorem dX6_weeksToEarn_16 : decode cX6_weeksToEarn 16 = .ok (.iaload, 1) := by decide +kernel
theorem dX6_weeksToEarn_17 : decode cX6_weeksToEarn 17 = .ok (.istore_n 3, 1) := by decide +kernel
theorem dX6_weeksToEarn_18 : decode cX6_weeksToEarn 18 = .ok (.iload_n 2, 1) := by decide +kernel
theorem dX6_weeksToEarn_19 : decode cX6_weeksToEarn 19 = .ok (.ifCond .gt 5, 3) := by decide +kernel
theorem dX6_weeksToEarn_22 : decode cX6_weeksToEarn 22 = .ok (.iconst 0, 1) := by decide +kernel
theorem dX6_weeksToEarn_23 : decode cX6_weeksToEarn 23 = .ok (.ireturn, 1) := by decide +kernel
theorem dX6_weeksToEarn_24 : decode cX6_weeksToEarn 24 = .ok (.iload_n 3, 1) := by decide +kernel
theorem dX6_weeksToEarn_25 : decode cX6_weeksToEarn 25 = .ok (.ifCond .le 13, 3) := by decide +kernel
theorem dX6_weeksToEarn_28 : decode cX6_weeksToEarn 28 = .ok (.iload_n 2, 1) := by decide +kernel
theorem dX6_weeksToEarn_29 : decode cX6_weeksToEarn 29 = .ok (.iload_n 3, 1) := by decide +kernel
theorem dX6_weeksToEarn_30 : decode cX6_weeksToEarn 30 = .ok (.iadd, 1) := by decide +kernel
theorem dX6_weeksToEarn_31 : decode cX6_weeksToEarn 31 = .ok (.iconst 1, 1) := by decide +kernel
theorem dX6_weeksToEarn_32 : decode cX6_weeksToEarn 32 = .ok (.isub, 1) := by decide +kernel
theorem dX6_weeksToEarn_33 : decode cX6_weeksToEarn 33 = .ok (.iload_n 3, 1) := by decide +kernel
theorem dX6_weeksToEarn_34 : decode cX6_weeksToEarn 34 = .ok (.idiv, 1) := by decide +kernel
theorem dX6_weeksToEarn_35 : decode cX6_weeksToEarn 35 = .ok (.goto 5, 3) := by decide +kernel
theorem dX6_weeksToEarn_38 : decode cX6_weeksToEarn 38 = .ok (.ldc 111, 2) := by decide +kernel
theorem dX6_weeksToEarn_40 : decode cX6_weeksToEarn 40 = .ok (.ireturn, 1) := by decide +kernel
theorem dX6_understanders_0 : decode cX6_understanders 0 = .ok (.aload_n 0, 1) := by decide +kernel
theorem dX6_understanders_1 : decode cX6_understanders 1 = .ok (.getfield 21, 3) := by decide +kernel
theorem dX6_understanders_4 : decode cX6_understanders 4 = .ok (.getfield 112, 3) := by decide +kernel
theorem dX6_understanders_7 : decode cX6_understanders 7 = .ok (.iload_n 1, 1) := by decide +kernel
theorem dX6_understanders_8 : decode cX6_understanders 8 = .ok (.iaload, 1) := by decide +kernel
theorem dX6_understanders_9 : decode cX6_understanders 9 = .ok (.istore_n 2, 1) := by decide +kernel
theorem dX6_understanders_10 : decode cX6_understanders 10 = .ok (.iload_n 2, 1) := by decide +kernel
theorem dX6_understanders_11 : decode cX6_understanders 11 = .ok (.iload_n 1, 1) := by decide +kernel
theorem dX6_understanders_12 : decode cX6_understanders 12 = .ok (.if_icmp .ne 12, 3) := by decide +kernel
theorem dX6_understanders_15 : decode cX6_understanders 15 = .ok (.aload_n 0, 1) := by decide +kernel
theorem dX6_understanders_16 : decode cX6_understanders 16 = .ok (.getfield 18, 3) := by decide +kernel
theorem dX6_understanders_19 : decode cX6_understanders 19 = .ok (.iload_n 1, 1) := by decide +kernel
theorem dX6_understanders_20 : decode cX6_understanders 20 = .ok (.iaload, 1) := by decide +kernel
theorem dX6_understanders_21 : decode cX6_understanders 21 = .ok (.goto 16, 3) := by decide +kernel
theorem dX6_understanders_24 : decode cX6_understanders 24 = .ok (.aload_n 0, 1) := by decide +kernel
theorem dX6_understanders_25 : decode cX6_understanders 25 = .ok (.getfield 18, 3) := by decide +kernel
theorem dX6_understanders_28 : decode cX6_understanders 28 = .ok (.iload_n 1, 1) := by decide +kernel
theorem dX6_understanders_29 : decode cX6_understanders 29 = .ok (.iaload, 1) := by decide +kernel
theorem dX6_understanders_30 : decode cX6_understanders 30 = .ok (.aload_n 0, 1) := by decide +kernel
theorem dX6_understanders_31 : decode cX6_understanders 31 = .ok (.getfield 18, 3) := by decide +kernel
theorem dX6_understanders_34 : decode cX6_understanders 34 = .ok (.iload_n 2, 1) := by decide +kernel
theorem dX6_understanders_35 : decode cX6_understanders 35 = .ok (.iaload, 1) := by decide +kernel
theorem dX6_understanders_36 : decode cX6_understanders 36 = .ok (.iand, 1) := by decide +kernel
theorem dX6_understanders_37 : decode cX6_understanders 37 = .ok (.ireturn, 1) := by decide +kernel
theorem dX6_understandersOfAll_0 : decode cX6_understandersOfAll 0 = .ok (.aload_n 0, 1) := by decide +kernel
theorem dX6_understandersOfAll_1 : decode cX6_understandersOfAll 1 = .ok (.getfield 21, 3) := by decide +kernel
theorem dX6_understandersOfAll_4 : decode cX6_understandersOfAll 4 = .ok (.invokevirtual 115, 3) := by decide +kernel
theorem dX6_understandersOfAll_7 : decode cX6_understandersOfAll 7 = .ok (.istore_n 2, 1) := by decide +kernel
theorem dX6_understandersOfAll_8 : decode cX6_understandersOfAll 8 = .ok (.iconst 0, 1) := by decide +kernel
theorem dX6_understandersOfAll_9 : decode cX6_understandersOfAll 9 = .ok (.istore_n 3, 1) := by decide +kernel
theorem dX6_understandersOfAll_10 : decode cX6_understandersOfAll 10 = .ok (.iload_n 3, 1) := by decide +kernel
theorem dX6_understandersOfAll_11 : decode cX6_understandersOfAll 11 = .ok (.aload_n 0, 1) := by decide +kernel
theorem dX6_understandersOfAll_12 : decode cX6_understandersOfAll 12 = .ok (.getfield 21, 3) := by decide +kernel
theorem dX6_understandersOfAll_15 : decode cX6_understandersOfAll 15 = .ok (.getfield 95, 3) := by decide +kernel
theorem dX6_understandersOfAll_18 : decode cX6_understandersOfAll 18 = .ok (.if_icmp .ge 26, 3) := by decide +kernel
theorem dX6_understandersOfAll_21 : decode cX6_understandersOfAll 21 = .ok (.iload_n 1, 1) := by decide +kernel
theorem dX6_understandersOfAll_22 : decode cX6_understandersOfAll 22 = .ok (.iload_n 3, 1) := by decide +kernel
theorem dX6_understandersOfAll_23 : decode cX6_understandersOfAll 23 = .ok (.ishr, 1) := by decide +kernel
theorem dX6_understandersOfAll_24 : decode cX6_understandersOfAll 24 = .ok (.iconst 1, 1) := by decide +kernel
theorem dX6_understandersOfAll_25 : decode cX6_understandersOfAll 25 = .ok (.iand, 1) := by decide +kernel
theorem dX6_understandersOfAll_26 : decode cX6_understandersOfAll 26 = .ok (.iconst 1, 1) := by decide +kernel
theorem dX6_understandersOfAll_27 : decode cX6_understandersOfAll 27 = .ok (.if_icmp .ne 11, 3) := by decide +kernel
theorem dX6_understandersOfAll_30 : decode cX6_understandersOfAll 30 = .ok (.iload_n 2, 1) := by decide +kernel
theorem dX6_understandersOfAll_31 : decode cX6_understandersOfAll 31 = .ok (.aload_n 0, 1) := by decide +kernel
theorem dX6_understandersOfAll_32 : decode cX6_understandersOfAll 32 = .ok (.iload_n 3, 1) := by decide +kernel
theorem dX6_understandersOfAll_33 : decode cX6_understandersOfAll 33 = .ok (.invokevirtual 119, 3) := by decide +kernel
theorem dX6_understandersOfAll_36 : decode cX6_understandersOfAll 36 = .ok (.iand, 1) := by decide +kernel
theorem dX6_understandersOfAll_37 : decode cX6_understandersOfAll 37 = .ok (.istore_n 2, 1) := by decide +kernel
theorem dX6_understandersOfAll_38 : decode cX6_understandersOfAll 38 = .ok (.iinc 3 1, 3) := by decide +kernel
theorem dX6_understandersOfAll_41 : decode cX6_understandersOfAll 41 = .ok (.goto (-31), 3) := by decide +kernel
theorem dX6_understandersOfAll_44 : decode cX6_understandersOfAll 44 = .ok (.iload_n 2, 1) := by decide +kernel
theorem dX6_understandersOfAll_45 : decode cX6_understandersOfAll 45 = .ok (.ireturn, 1) := by decide +kernel
theorem dX6_knownTo_0 : decode cX6_knownTo 0 = .ok (.iconst 0, 1) := by decide +kernel
theorem dX6_knownTo_1 : decode cX6_knownTo 1 = .ok (.istore_n 2, 1) := by decide +kernel
theorem dX6_knownTo_2 : decode cX6_knownTo 2 = .ok (.iconst 0, 1) := by decide +kernel
theorem dX6_knownTo_3 : decode cX6_knownTo 3 = .ok (.istore_n 3, 1) := by decide +kernel
theorem dX6_knownTo_4 : decode cX6_knownTo 4 = .ok (.iload_n 3, 1) := by decide +kernel
theorem dX6_knownTo_5 : decode cX6_knownTo 5 = .ok (.aload_n 0, 1) := by decide +kernel
theorem dX6_knownTo_6 : decode cX6_knownTo 6 = .ok (.getfield 21, 3) := by decide +kernel
theorem dX6_knownTo_9 : decode cX6_knownTo 9 = .ok (.getfield 95, 3) := by decide +kernel
theorem dX6_knownTo_12 : decode cX6_knownTo 12 = .ok (.if_icmp .ge 24, 3) := by decide +kernel
theorem dX6_knownTo_15 : decode cX6_knownTo 15 = .ok (.iload_n 2, 1) := by decide +kernel
theorem dX6_knownTo_16 : decode cX6_knownTo 16 = .ok (.aload_n 0, 1) := by decide +kernel
theorem dX6_knownTo_17 : decode cX6_knownTo 17 = .ok (.getfield 18, 3) := by decide +kernel
theorem dX6_knownTo_20 : decode cX6_knownTo 20 = .ok (.iload_n 3, 1) := by decide +kernel
theorem dX6_knownTo_21 : decode cX6_knownTo 21 = .ok (.iaload, 1) := by decide +kernel
theorem dX6_knownTo_22 : decode cX6_knownTo 22 = .ok (.iload_n 1, 1) := by decide +kernel
theorem dX6_knownTo_23 : decode cX6_knownTo 23 = .ok (.ishr, 1) := by decide +kernel
theorem dX6_knownTo_24 : decode cX6_knownTo 24 = .ok (.iconst 1, 1) := by decide +kernel
theorem dX6_knownTo_25 : decode cX6_knownTo 25 = .ok (.iand, 1) := by decide +kernel
theorem dX6_knownTo_26 : decode cX6_knownTo 26 = .ok (.iload_n 3, 1) := by decide +kernel
theorem dX6_knownTo_27 : decode cX6_knownTo 27 = .ok (.ishl, 1) := by decide +kernel
theorem dX6_knownTo_28 : decode cX6_knownTo 28 = .ok (.ior, 1) := by decide +kernel
theorem dX6_knownTo_29 : decode cX6_knownTo 29 = .ok (.istore_n 2, 1) := by decide +kernel
theorem dX6_knownTo_30 : decode cX6_knownTo 30 = .ok (.iinc 3 1, 3) := by decide +kernel
theorem dX6_knownTo_33 : decode cX6_knownTo 33 = .ok (.goto (-29), 3) := by decide +kernel
theorem dX6_knownTo_36 : decode cX6_knownTo 36 = .ok (.iload_n 2, 1) := by decide +kernel
theorem dX6_knownTo_37 : decode cX6_knownTo 37 = .ok (.ireturn, 1) := by decide +kernel
theorem dX6_understoodBy_0 : decode cX6_understoodBy 0 = .ok (.iconst 0, 1) := by decide +kernel
theorem dX6_understoodBy_1 : decode cX6_understoodBy 1 = .ok (.istore_n 2, 1) := by decide +kernel
theorem dX6_understoodBy_2 : decode cX6_understoodBy 2 = .ok (.iconst 0, 1) := by decide +kernel
theorem dX6_understoodBy_3 : decode cX6_understoodBy 3 = .ok (.istore_n 3, 1) := by decide +kernel
theorem dX6_understoodBy_4 : decode cX6_understoodBy 4 = .ok (.iload_n 3, 1) := by decide +kernel
theorem dX6_understoodBy_5 : decode cX6_understoodBy 5 = .ok (.aload_n 0, 1) := by decide +kernel
theorem dX6_understoodBy_6 : decode cX6_understoodBy 6 = .ok (.getfield 21, 3) := by decide +kernel
theorem dX6_understoodBy_9 : decode cX6_understoodBy 9 = .ok (.getfield 95, 3) := by decide +kernel
theorem dX6_understoodBy_12 : decode cX6_understoodBy 12 = .ok (.if_icmp .ge 26, 3) := by decide +kernel
theorem dX6_understoodBy_15 : decode cX6_understoodBy 15 = .ok (.aload_n 0, 1) := by decide +kernel
theorem dX6_understoodBy_16 : decode cX6_understoodBy 16 = .ok (.iload_n 3, 1) := by decide +kernel
theorem dX6_understoodBy_17 : decode cX6_understoodBy 17 = .ok (.invokevirtual 119, 3) := by decide +kernel
theorem dX6_understoodBy_20 : decode cX6_understoodBy 20 = .ok (.iload_n 1, 1) := by decide +kernel
theorem dX6_understoodBy_21 : decode cX6_understoodBy 21 = .ok (.iand, 1) := by decide +kernel
theorem dX6_understoodBy_22 : decode cX6_understoodBy 22 = .ok (.iload_n 1, 1) := by decide +kernel
theorem dX6_understoodBy_23 : decode cX6_understoodBy 23 = .ok (.if_icmp .ne 9, 3) := by decide +kernel
theorem dX6_understoodBy_26 : decode cX6_understoodBy 26 = .ok (.iload_n 2, 1) := by decide +kernel
theorem dX6_understoodBy_27 : decode cX6_understoodBy 27 = .ok (.iconst 1, 1) := by decide +kernel
theorem dX6_understoodBy_28 : decode cX6_understoodBy 28 = .ok (.iload_n 3, 1) := by decide +kernel
theorem dX6_understoodBy_29 : decode cX6_understoodBy 29 = .ok (.ishl, 1) := by decide +kernel
theorem dX6_understoodBy_30 : decode cX6_understoodBy 30 = .ok (.ior, 1) := by decide +kernel
theorem dX6_understoodBy_31 : decode cX6_understoodBy 31 = .ok (.istore_n 2, 1) := by decide +kernel
theorem dX6_understoodBy_32 : decode cX6_understoodBy 32 = .ok (.iinc 3 1, 3) := by decide +kernel
theorem dX6_understoodBy_35 : decode cX6_understoodBy 35 = .ok (.goto (-31), 3) := by decide +kernel
theorem dX6_understoodBy_38 : decode cX6_understoodBy 38 = .ok (.iload_n 2, 1) := by decide +kernel
theorem dX6_understoodBy_39 : decode cX6_understoodBy 39 = .ok (.ireturn, 1) := by decide +kernel
theorem dX6_passedOn_0 : decode cX6_passedOn 0 = .ok (.aload_n 0, 1) := by decide +kernel
theorem dX6_passedOn_1 : decode cX6_passedOn 1 = .ok (.getfield 21, 3) := by decide +kernel
theorem dX6_passedOn_4 : decode cX6_passedOn 4 = .ok (.getfield 53, 3) := by decide +kernel
theorem dX6_passedOn_7 : decode cX6_passedOn 7 = .ok (.iload_n 1, 1) := by decide +kernel
theorem dX6_passedOn_8 : decode cX6_passedOn 8 = .ok (.iaload, 1) := by decide +kernel
theorem dX6_passedOn_9 : decode cX6_passedOn 9 = .ok (.istore 4, 2) := by decide +kernel
theorem dX6_passedOn_11 : decode cX6_passedOn 11 = .ok (.iload_n 2, 1) := by decide +kernel
theorem dX6_passedOn_12 : decode cX6_passedOn 12 = .ok (.iconst 1, 1) := by decide +kernel
theorem dX6_passedOn_13 : decode cX6_passedOn 13 = .ok (.iload 4, 2) := by decide +kernel
theorem dX6_passedOn_15 : decode cX6_passedOn 15 = .ok (.ishl, 1) := by decide +kernel
theorem dX6_passedOn_16 : decode cX6_passedOn 16 = .ok (.iconst (-1), 1) := by decide +kernel
theorem dX6_passedOn_17 : decode cX6_passedOn 17 = .ok (.ixor, 1) := by decide +kernel
theorem dX6_passedOn_18 : decode cX6_passedOn 18 = .ok (.iand, 1) := by decide +kernel
theorem dX6_passedOn_19 : decode cX6_passedOn 19 = .ok (.istore 5, 2) := by decide +kernel
theorem dX6_passedOn_21 : decode cX6_passedOn 21 = .ok (.aload_n 0, 1) := by decide +kernel
theorem dX6_passedOn_22 : decode cX6_passedOn 22 = .ok (.iload_n 1, 1) := by decide +kernel
theorem dX6_passedOn_23 : decode cX6_passedOn 23 = .ok (.invokevirtual 71, 3) := by decide +kernel
theorem dX6_passedOn_26 : decode cX6_passedOn 26 = .ok (.ifCond .eq 12, 3) := by decide +kernel
theorem dX6_passedOn_29 : decode cX6_passedOn 29 = .ok (.aload_n 0, 1) := by decide +kernel
theorem dX6_passedOn_30 : decode cX6_passedOn 30 = .ok (.getfield 18, 3) := by decide +kernel
theorem dX6_passedOn_33 : decode cX6_passedOn 33 = .ok (.iload_n 1, 1) := by decide +kernel
theorem dX6_passedOn_34 : decode cX6_passedOn 34 = .ok (.iaload, 1) := by decide +kernel
theorem dX6_passedOn_35 : decode cX6_passedOn 35 = .ok (.goto 23, 3) := by decide +kernel
theorem dX6_passedOn_38 : decode cX6_passedOn 38 = .ok (.aload_n 0, 1) := by decide +kernel
theorem dX6_passedOn_39 : decode cX6_passedOn 39 = .ok (.getfield 21, 3) := by decide +kernel
theorem dX6_passedOn_42 : decode cX6_passedOn 42 = .ok (.aload_n 0, 1) := by decide +kernel
theorem dX6_passedOn_43 : decode cX6_passedOn 43 = .ok (.getfield 21, 3) := by decide +kernel
theorem dX6_passedOn_46 : decode cX6_passedOn 46 = .ok (.getfield 62, 3) := by decide +kernel
theorem dX6_passedOn_49 : decode cX6_passedOn 49 = .ok (.iload_n 1, 1) := by decide +kernel
theorem dX6_passedOn_50 : decode cX6_passedOn 50 = .ok (.iaload, 1) := by decide +kernel
theorem dX6_passedOn_51 : decode cX6_passedOn 51 = .ok (.iload 4, 2) := by decide +kernel
theorem dX6_passedOn_53 : decode cX6_passedOn 53 = .ok (.iload 5, 2) := by decide +kernel
theorem dX6_passedOn_55 : decode cX6_passedOn 55 = .ok (.invokevirtual 78, 3) := by decide +kernel
theorem dX6_passedOn_58 : decode cX6_passedOn 58 = .ok (.istore 6, 2) := by decide +kernel
theorem dX6_passedOn_60 : decode cX6_passedOn 60 = .ok (.aload_n 0, 1) := by decide +kernel
theorem dX6_passedOn_61 : decode cX6_passedOn 61 = .ok (.getfield 21, 3) := by decide +kernel
theorem dX6_passedOn_64 : decode cX6_passedOn 64 = .ok (.aload_n 0, 1) := by decide +kernel
theorem dX6_passedOn_65 : decode cX6_passedOn 65 = .ok (.getfield 21, 3) := by decide +kernel
theorem dX6_passedOn_68 : decode cX6_passedOn 68 = .ok (.getfield 62, 3) := by decide +kernel
theorem dX6_passedOn_71 : decode cX6_passedOn 71 = .ok (.iload_n 1, 1) := by decide +kernel
theorem dX6_passedOn_72 : decode cX6_passedOn 72 = .ok (.iaload, 1) := by decide +kernel
theorem dX6_passedOn_73 : decode cX6_passedOn 73 = .ok (.iload 6, 2) := by decide +kernel
theorem dX6_passedOn_75 : decode cX6_passedOn 75 = .ok (.iload 5, 2) := by decide +kernel
theorem dX6_passedOn_77 : decode cX6_passedOn 77 = .ok (.iload_n 3, 1) := by decide +kernel
theorem dX6_passedOn_78 : decode cX6_passedOn 78 = .ok (.invokevirtual 91, 3) := by decide +kernel
theorem dX6_passedOn_81 : decode cX6_passedOn 81 = .ok (.ireturn, 1) := by decide +kernel
theorem dX6_claim_0 : decode cX6_claim 0 = .ok (.iconst 0, 1) := by decide +kernel
theorem dX6_claim_1 : decode cX6_claim 1 = .ok (.istore_n 2, 1) := by decide +kernel
theorem dX6_claim_2 : decode cX6_claim 2 = .ok (.iconst 0, 1) := by decide +kernel
theorem dX6_claim_3 : decode cX6_claim 3 = .ok (.istore_n 3, 1) := by decide +kernel
theorem dX6_claim_4 : decode cX6_claim 4 = .ok (.iload_n 3, 1) := by decide +kernel
theorem dX6_claim_5 : decode cX6_claim 5 = .ok (.aload_n 0, 1) := by decide +kernel
theorem dX6_claim_6 : decode cX6_claim 6 = .ok (.getfield 21, 3) := by decide +kernel
theorem dX6_claim_9 : decode cX6_claim 9 = .ok (.getfield 95, 3) := by decide +kernel
theorem dX6_claim_12 : decode cX6_claim 12 = .ok (.if_icmp .ge 41, 3) := by decide +kernel
theorem dX6_claim_15 : decode cX6_claim 15 = .ok (.aload_n 0, 1) := by decide +kernel
theorem dX6_claim_16 : decode cX6_claim 16 = .ok (.getfield 21, 3) := by decide +kernel
theorem dX6_claim_19 : decode cX6_claim 19 = .ok (.getfield 53, 3) := by decide +kernel
theorem dX6_claim_22 : decode cX6_claim 22 = .ok (.iload_n 3, 1) := by decide +kernel
theorem dX6_claim_23 : decode cX6_claim 23 = .ok (.iaload, 1) := by decide +kernel
theorem dX6_claim_24 : decode cX6_claim 24 = .ok (.iload_n 1, 1) := by decide +kernel
theorem dX6_claim_25 : decode cX6_claim 25 = .ok (.if_icmp .ne 22, 3) := by decide +kernel
theorem dX6_claim_28 : decode cX6_claim 28 = .ok (.aload_n 0, 1) := by decide +kernel
theorem dX6_claim_29 : decode cX6_claim 29 = .ok (.iload_n 3, 1) := by decide +kernel
theorem dX6_claim_30 : decode cX6_claim 30 = .ok (.invokevirtual 71, 3) := by decide +kernel
theorem dX6_claim_33 : decode cX6_claim 33 = .ok (.ifCond .ne 14, 3) := by decide +kernel
theorem dX6_claim_36 : decode cX6_claim 36 = .ok (.iload_n 2, 1) := by decide +kernel
theorem dX6_claim_37 : decode cX6_claim 37 = .ok (.aload_n 0, 1) := by decide +kernel
theorem dX6_claim_38 : decode cX6_claim 38 = .ok (.getfield 21, 3) := by decide +kernel
theorem dX6_claim_41 : decode cX6_claim 41 = .ok (.iload_n 3, 1) := by decide +kernel
theorem dX6_claim_42 : decode cX6_claim 42 = .ok (.invokevirtual 47, 3) := by decide +kernel
theorem dX6_claim_45 : decode cX6_claim 45 = .ok (.iadd, 1) := by decide +kernel
theorem dX6_claim_46 : decode cX6_claim 46 = .ok (.istore_n 2, 1) := by decide +kernel
theorem dX6_claim_47 : decode cX6_claim 47 = .ok (.iinc 3 1, 3) := by decide +kernel
theorem dX6_claim_50 : decode cX6_claim 50 = .ok (.goto (-46), 3) := by decide +kernel
theorem dX6_claim_53 : decode cX6_claim 53 = .ok (.iconst 0, 1) := by decide +kernel
theorem dX6_claim_54 : decode cX6_claim 54 = .ok (.iload_n 2, 1) := by decide +kernel
theorem dX6_claim_55 : decode cX6_claim 55 = .ok (.aload_n 0, 1) := by decide +kernel
theorem dX6_claim_56 : decode cX6_claim 56 = .ok (.getfield 15, 3) := by decide +kernel
theorem dX6_claim_59 : decode cX6_claim 59 = .ok (.iload_n 1, 1) := by decide +kernel
theorem dX6_claim_60 : decode cX6_claim 60 = .ok (.iaload, 1) := by decide +kernel
theorem dX6_claim_61 : decode cX6_claim 61 = .ok (.isub, 1) := by decide +kernel
theorem dX6_claim_62 : decode cX6_claim 62 = .ok (.invokestatic 56, 3) := by decide +kernel
theorem dX6_claim_65 : decode cX6_claim 65 = .ok (.ireturn, 1) := by decide +kernel
theorem dX6_shareOf_0 : decode cX6_shareOf 0 = .ok (.iconst 0, 1) := by decide +kernel
theorem dX6_shareOf_1 : decode cX6_shareOf 1 = .ok (.istore_n 3, 1) := by decide +kernel
theorem dX6_shareOf_2 : decode cX6_shareOf 2 = .ok (.iconst 0, 1) := by decide +kernel
theorem dX6_shareOf_3 : decode cX6_shareOf 3 = .ok (.istore 4, 2) := by decide +kernel
theorem dX6_shareOf_5 : decode cX6_shareOf 5 = .ok (.iload 4, 2) := by decide +kernel
theorem dX6_shareOf_7 : decode cX6_shareOf 7 = .ok (.aload_n 0, 1) := by decide +kernel
theorem dX6_shareOf_8 : decode cX6_shareOf 8 = .ok (.getfield 21, 3) := by decide +kernel
theorem dX6_shareOf_11 : decode cX6_shareOf 11 = .ok (.getfield 98, 3) := by decide +kernel
theorem dX6_shareOf_14 : decode cX6_shareOf 14 = .ok (.if_icmp .ge 18, 3) := by decide +kernel
theorem dX6_shareOf_17 : decode cX6_shareOf 17 = .ok (.iload_n 3, 1) := by decide +kernel
theorem dX6_shareOf_18 : decode cX6_shareOf 18 = .ok (.aload_n 0, 1) := by decide +kernel
theorem dX6_shareOf_19 : decode cX6_shareOf 19 = .ok (.iload 4, 2) := by decide +kernel
theorem dX6_shareOf_21 : decode cX6_shareOf 21 = .ok (.invokevirtual 122, 3) := by decide +kernel
theorem dX6_shareOf_24 : decode cX6_shareOf 24 = .ok (.iadd, 1) := by decide +kernel
theorem dX6_shareOf_25 : decode cX6_shareOf 25 = .ok (.istore_n 3, 1) := by decide +kernel
theorem dX6_shareOf_26 : decode cX6_shareOf 26 = .ok (.iinc 4 1, 3) := by decide +kernel
theorem dX6_shareOf_29 : decode cX6_shareOf 29 = .ok (.goto (-24), 3) := by decide +kernel
theorem dX6_shareOf_32 : decode cX6_shareOf 32 = .ok (.iload_n 3, 1) := by decide +kernel
theorem dX6_shareOf_33 : decode cX6_shareOf 33 = .ok (.ifCond .eq 11, 3) := by decide +kernel
theorem dX6_shareOf_36 : decode cX6_shareOf 36 = .ok (.aload_n 0, 1) := by decide +kernel
theorem dX6_shareOf_37 : decode cX6_shareOf 37 = .ok (.iload_n 1, 1) := by decide +kernel
theorem dX6_shareOf_38 : decode cX6_shareOf 38 = .ok (.invokevirtual 122, 3) := by decide +kernel
theorem dX6_shareOf_41 : decode cX6_shareOf 41 = .ok (.ifCond .ne 5, 3) := by decide +kernel
theorem dX6_shareOf_44 : decode cX6_shareOf 44 = .ok (.iconst 0, 1) := by decide +kernel
theorem dX6_shareOf_45 : decode cX6_shareOf 45 = .ok (.ireturn, 1) := by decide +kernel
theorem dX6_shareOf_46 : decode cX6_shareOf 46 = .ok (.iload_n 2, 1) := by decide +kernel
theorem dX6_shareOf_47 : decode cX6_shareOf 47 = .ok (.istore 4, 2) := by decide +kernel
theorem dX6_shareOf_49 : decode cX6_shareOf 49 = .ok (.iconst 0, 1) := by decide +kernel
theorem dX6_shareOf_50 : decode cX6_shareOf 50 = .ok (.istore 5, 2) := by decide +kernel
theorem dX6_shareOf_52 : decode cX6_shareOf 52 = .ok (.iconst 0, 1) := by decide +kernel
theorem dX6_shareOf_53 : decode cX6_shareOf 53 = .ok (.istore 6, 2) := by decide +kernel
theorem dX6_shareOf_55 : decode cX6_shareOf 55 = .ok (.iload 6, 2) := by decide +kernel
theorem dX6_shareOf_57 : decode cX6_shareOf 57 = .ok (.aload_n 0, 1) := by decide +kernel
theorem dX6_shareOf_58 : decode cX6_shareOf 58 = .ok (.getfield 21, 3) := by decide +kernel
theorem dX6_shareOf_61 : decode cX6_shareOf 61 = .ok (.getfield 98, 3) := by decide +kernel
theorem dX6_shareOf_64 : decode cX6_shareOf 64 = .ok (.if_icmp .ge 42, 3) := by decide +kernel
theorem dX6_shareOf_67 : decode cX6_shareOf 67 = .ok (.iload 4, 2) := by decide +kernel
theorem dX6_shareOf_69 : decode cX6_shareOf 69 = .ok (.iload_n 2, 1) := by decide +kernel
theorem dX6_shareOf_70 : decode cX6_shareOf 70 = .ok (.aload_n 0, 1) := by decide +kernel
theorem dX6_shareOf_71 : decode cX6_shareOf 71 = .ok (.iload 6, 2) := by decide +kernel
theorem dX6_shareOf_73 : decode cX6_shareOf 73 = .ok (.invokevirtual 122, 3) := by decide +kernel
theorem dX6_shareOf_76 : decode cX6_shareOf 76 = .ok (.imul, 1) := by decide +kernel
theorem dX6_shareOf_77 : decode cX6_shareOf 77 = .ok (.iload_n 3, 1) := by decide +kernel
theorem dX6_shareOf_78 : decode cX6_shareOf 78 = .ok (.idiv, 1) := by decide +kernel
theorem dX6_shareOf_79 : decode cX6_shareOf 79 = .ok (.isub, 1) := by decide +kernel
theorem dX6_shareOf_80 : decode cX6_shareOf 80 = .ok (.istore 4, 2) := by decide +kernel
theorem dX6_shareOf_82 : decode cX6_shareOf 82 = .ok (.iload 6, 2) := by decide +kernel
theorem dX6_shareOf_84 : decode cX6_shareOf 84 = .ok (.iload_n 1, 1) := by decide +kernel
theorem dX6_shareOf_85 : decode cX6_shareOf 85 = .ok (.if_icmp .ge 15, 3) := by decide +kernel
theorem dX6_shareOf_88 : decode cX6_shareOf 88 = .ok (.aload_n 0, 1) := by decide +kernel
theorem dX6_shareOf_89 : decode cX6_shareOf 89 = .ok (.iload 6, 2) := by decide +kernel
theorem dX6_shareOf_91 : decode cX6_shareOf 91 = .ok (.invokevirtual 122, 3) := by decide +kernel
theorem dX6_shareOf_94 : decode cX6_shareOf 94 = .ok (.ifCond .le 6, 3) := by decide +kernel
theorem dX6_shareOf_97 : decode cX6_shareOf 97 = .ok (.iinc 5 1, 3) := by decide +kernel
theorem dX6_shareOf_100 : decode cX6_shareOf 100 = .ok (.iinc 6 1, 3) := by decide +kernel
theorem dX6_shareOf_103 : decode cX6_shareOf 103 = .ok (.goto (-48), 3) := by decide +kernel
theorem dX6_shareOf_106 : decode cX6_shareOf 106 = .ok (.iload_n 2, 1) := by decide +kernel
theorem dX6_shareOf_107 : decode cX6_shareOf 107 = .ok (.aload_n 0, 1) := by decide +kernel
theorem dX6_shareOf_108 : decode cX6_shareOf 108 = .ok (.iload_n 1, 1) := by decide +kernel
theorem dX6_shareOf_109 : decode cX6_shareOf 109 = .ok (.invokevirtual 122, 3) := by decide +kernel
theorem dX6_shareOf_112 : decode cX6_shareOf 112 = .ok (.imul, 1) := by decide +kernel
theorem dX6_shareOf_113 : decode cX6_shareOf 113 = .ok (.iload_n 3, 1) := by decide +kernel
theorem dX6_shareOf_114 : decode cX6_shareOf 114 = .ok (.idiv, 1) := by decide +kernel
theorem dX6_shareOf_115 : decode cX6_shareOf 115 = .ok (.iload 5, 2) := by decide +kernel
theorem dX6_shareOf_117 : decode cX6_shareOf 117 = .ok (.iload 4, 2) := by decide +kernel
theorem dX6_shareOf_119 : decode cX6_shareOf 119 = .ok (.if_icmp .ge 7, 3) := by decide +kernel
theorem dX6_shareOf_122 : decode cX6_shareOf 122 = .ok (.iconst 1, 1) := by decide +kernel
theorem dX6_shareOf_123 : decode cX6_shareOf 123 = .ok (.goto 4, 3) := by decide +kernel
theorem dX6_shareOf_126 : decode cX6_shareOf 126 = .ok (.iconst 0, 1) := by decide +kernel
theorem dX6_shareOf_127 : decode cX6_shareOf 127 = .ok (.iadd, 1) := by decide +kernel
theorem dX6_shareOf_128 : decode cX6_shareOf 128 = .ok (.ireturn, 1) := by decide +kernel
theorem dX7_init_0 : decode cX7_init 0 = .ok (.aload_n 0, 1) := by decide +kernel
theorem dX7_init_1 : decode cX7_init 1 = .ok (.invokespecial 3, 3) := by decide +kernel
theorem dX7_init_4 : decode cX7_init 4 = .ok (.aload_n 0, 1) := by decide +kernel
theorem dX7_init_5 : decode cX7_init 5 = .ok (.bipush 61, 2) := by decide +kernel
theorem dX7_init_7 : decode cX7_init 7 = .ok (.newarray .int, 2) := by decide +kernel
theorem dX7_init_9 : decode cX7_init 9 = .ok (.putfield 9, 3) := by decide +kernel
theorem dX7_init_12 : decode cX7_init 12 = .ok (.return_, 1) := by decide +kernel
theorem dX7_begin_0 : decode cX7_begin 0 = .ok (.aload_n 0, 1) := by decide +kernel
theorem dX7_begin_1 : decode cX7_begin 1 = .ok (.iload_n 2, 1) := by decide +kernel
theorem dX7_begin_2 : decode cX7_begin 2 = .ok (.putfield 15, 3) := by decide +kernel
theorem dX7_begin_5 : decode cX7_begin 5 = .ok (.iconst 0, 1) := by decide +kernel
theorem dX7_begin_6 : decode cX7_begin 6 = .ok (.istore_n 3, 1) := by decide +kernel
theorem dX7_begin_7 : decode cX7_begin 7 = .ok (.iload_n 3, 1) := by decide +kernel
theorem dX7_begin_8 : decode cX7_begin 8 = .ok (.bipush 60, 2) := by decide +kernel
theorem dX7_begin_10 : decode cX7_begin 10 = .ok (.if_icmp .gt 17, 3) := by decide +kernel
theorem dX7_begin_13 : decode cX7_begin 13 = .ok (.aload_n 0, 1) := by decide +kernel
theorem dX7_begin_14 : decode cX7_begin 14 = .ok (.getfield 9, 3) := by decide +kernel
theorem dX7_begin_17 : decode cX7_begin 17 = .ok (.iload_n 3, 1) := by decide +kernel
theorem dX7_begin_18 : decode cX7_begin 18 = .ok (.ldc 19, 2) := by decide +kernel
theorem dX7_begin_20 : decode cX7_begin 20 = .ok (.iastore, 1) := by decide +kernel
theorem dX7_begin_21 : decode cX7_begin 21 = .ok (.iinc 3 1, 3) := by decide +kernel
theorem dX7_begin_24 : decode cX7_begin 24 = .ok (.goto (-17), 3) := by decide +kernel
theorem dX7_begin_27 : decode cX7_begin 27 = .ok (.aload_n 0, 1) := by decide +kernel
theorem dX7_begin_28 : decode cX7_begin 28 = .ok (.getfield 9, 3) := by decide +kernel
theorem dX7_begin_31 : decode cX7_begin 31 = .ok (.iconst 0, 1) := by decide +kernel
theorem dX7_begin_32 : decode cX7_begin 32 = .ok (.iload_n 1, 1) := by decide +kernel
theorem dX7_begin_33 : decode cX7_begin 33 = .ok (.iastore, 1) := by decide +kernel
theorem dX7_begin_34 : decode cX7_begin 34 = .ok (.return_, 1) := by decide +kernel
theorem dX7_passWeek_0 : decode cX7_passWeek 0 = .ok (.aload_n 0, 1) := by decide +kernel
theorem dX7_passWeek_1 : decode cX7_passWeek 1 = .ok (.getfield 15, 3) := by decide +kernel
theorem dX7_passWeek_4 : decode cX7_passWeek 4 = .ok (.istore 4, 2) := by decide +kernel
theorem dX7_passWeek_6 : decode cX7_passWeek 6 = .ok (.iload 4, 2) := by decide +kernel
theorem dX7_passWeek_8 : decode cX7_passWeek 8 = .ok (.ifCond .lt 105, 3) := by decide +kernel
theorem dX7_passWeek_11 : decode cX7_passWeek 11 = .ok (.ldc 19, 2) := by decide +kernel
theorem dX7_passWeek_13 : decode cX7_passWeek 13 = .ok (.istore 5, 2) := by decide +kernel
theorem dX7_passWeek_15 : decode cX7_passWeek 15 = .ok (.iconst 0, 1) := by decide +kernel
theorem dX7_passWeek_16 : decode cX7_passWeek 16 = .ok (.istore 6, 2) := by decide +kernel
theorem dX7_passWeek_18 : decode cX7_passWeek 18 = .ok (.iload 6, 2) := by decide +kernel
theorem dX7_passWeek_20 : decode cX7_passWeek 20 = .ok (.iload_n 2, 1) := by decide +kernel
theorem dX7_passWeek_21 : decode cX7_passWeek 21 = .ok (.if_icmp .gt 58, 3) := by decide +kernel
theorem dX7_passWeek_24 : decode cX7_passWeek 24 = .ok (.iload 6, 2) := by decide +kernel
theorem dX7_passWeek_26 : decode cX7_passWeek 26 = .ok (.iload 4, 2) := by decide +kernel
theorem dX7_passWeek_28 : decode cX7_passWeek 28 = .ok (.if_icmp .gt 51, 3) := by decide +kernel
theorem dX7_passWeek_31 : decode cX7_passWeek 31 = .ok (.aload_n 0, 1) := by decide +kernel
theorem dX7_passWeek_32 : decode cX7_passWeek 32 = .ok (.getfield 9, 3) := by decide +kernel
theorem dX7_passWeek_35 : decode cX7_passWeek 35 = .ok (.iload 4, 2) := by decide +kernel
theorem dX7_passWeek_37 : decode cX7_passWeek 37 = .ok (.iload 6, 2) := by decide +kernel
theorem dX7_passWeek_39 : decode cX7_passWeek 39 = .ok (.isub, 1) := by decide +kernel
theorem dX7_passWeek_40 : decode cX7_passWeek 40 = .ok (.iaload, 1) := by decide +kernel
theorem dX7_passWeek_41 : decode cX7_passWeek 41 = .ok (.istore 7, 2) := by decide +kernel
theorem dX7_passWeek_43 : decode cX7_passWeek 43 = .ok (.iload 7, 2) := by decide +kernel
theorem dX7_passWeek_45 : decode cX7_passWeek 45 = .ok (.ldc 19, 2) := by decide +kernel
theorem dX7_passWeek_47 : decode cX7_passWeek 47 = .ok (.if_icmp .eq 26, 3) := by decide +kernel
theorem dX7_passWeek_50 : decode cX7_passWeek 50 = .ok (.iload 7, 2) := by decide +kernel
theorem dX7_passWeek_52 : decode cX7_passWeek 52 = .ok (.iload 6, 2) := by decide +kernel
theorem dX7_passWeek_54 : decode cX7_passWeek 54 = .ok (.iload_n 1, 1) := by decide +kernel
theorem dX7_passWeek_55 : decode cX7_passWeek 55 = .ok (.imul, 1) := by decide +kernel
theorem dX7_passWeek_56 : decode cX7_passWeek 56 = .ok (.if_icmp .lt 17, 3) := by decide +kernel
theorem dX7_passWeek_59 : decode cX7_passWeek 59 = .ok (.iload 5, 2) := by decide +kernel
theorem dX7_passWeek_61 : decode cX7_passWeek 61 = .ok (.iload 7, 2) := by decide +kernel
theorem dX7_passWeek_63 : decode cX7_passWeek 63 = .ok (.iload 6, 2) := by decide +kernel
theorem dX7_passWeek_65 : decode cX7_passWeek 65 = .ok (.iload_n 1, 1) := by decide +kernel
theorem dX7_passWeek_66 : decode cX7_passWeek 66 = .ok (.imul, 1) := by decide +kernel
theorem dX7_passWeek_67 : decode cX7_passWeek 67 = .ok (.isub, 1) := by decide +kernel
theorem dX7_passWeek_68 : decode cX7_passWeek 68 = .ok (.invokestatic 20, 3) := by decide +kernel
theorem dX7_passWeek_71 : decode cX7_passWeek 71 = .ok (.istore 5, 2) := by decide +kernel
theorem dX7_passWeek_73 : decode cX7_passWeek 73 = .ok (.iinc 6 1, 3) := by decide +kernel
theorem dX7_passWeek_76 : decode cX7_passWeek 76 = .ok (.goto (-58), 3) := by decide +kernel
theorem dX7_passWeek_79 : decode cX7_passWeek 79 = .ok (.aload_n 0, 1) := by decide +kernel
theorem dX7_passWeek_80 : decode cX7_passWeek 80 = .ok (.getfield 9, 3) := by decide +kernel
theorem dX7_passWeek_83 : decode cX7_passWeek 83 = .ok (.iload 4, 2) := by decide +kernel
theorem dX7_passWeek_85 : decode cX7_passWeek 85 = .ok (.iload 5, 2) := by decide +kernel
theorem dX7_passWeek_87 : decode cX7_passWeek 87 = .ok (.ldc 19, 2) := by decide +kernel
theorem dX7_passWeek_89 : decode cX7_passWeek 89 = .ok (.if_icmp .ne 8, 3) := by decide +kernel
theorem dX7_passWeek_92 : decode cX7_passWeek 92 = .ok (.ldc 19, 2) := by decide +kernel
theorem dX7_passWeek_94 : decode cX7_passWeek 94 = .ok (.goto 12, 3) := by decide +kernel
theorem dX7_passWeek_97 : decode cX7_passWeek 97 = .ok (.bipush 99, 2) := by decide +kernel
theorem dX7_passWeek_99 : decode cX7_passWeek 99 = .ok (.iload 5, 2) := by decide +kernel
theorem dX7_passWeek_101 : decode cX7_passWeek 101 = .ok (.iload_n 3, 1) := by decide +kernel
theorem dX7_passWeek_102 : decode cX7_passWeek 102 = .ok (.iadd, 1) := by decide +kernel
theorem dX7_passWeek_103 : decode cX7_passWeek 103 = .ok (.invokestatic 26, 3) := by decide +kernel
theorem dX7_passWeek_106 : decode cX7_passWeek 106 = .ok (.iastore, 1) := by decide +kernel
theorem dX7_passWeek_107 : decode cX7_passWeek 107 = .ok (.iinc 4 (-1), 3) := by decide +kernel
theorem dX7_passWeek_110 : decode cX7_passWeek 110 = .ok (.goto (-104), 3) := by decide +kernel
theorem dX7_passWeek_113 : decode cX7_passWeek 113 = .ok (.return_, 1) := by decide +kernel
theorem dX7_mostLeft_0 : decode cX7_mostLeft 0 = .ok (.aload_n 0, 1) := by decide +kernel
theorem dX7_mostLeft_1 : decode cX7_mostLeft 1 = .ok (.getfield 9, 3) := by decide +kernel
theorem dX7_mostLeft_4 : decode cX7_mostLeft 4 = .ok (.aload_n 0, 1) := by decide +kernel
theorem dX7_mostLeft_5 : decode cX7_mostLeft 5 = .ok (.getfield 15, 3) := by decide +kernel
theorem dX7_mostLeft_8 : decode cX7_mostLeft 8 = .ok (.iaload, 1) := by decide +kernel
theorem dX7_mostLeft_9 : decode cX7_mostLeft 9 = .ok (.ireturn, 1) := by decide +kernel
theorem dX8_init_0 : decode cX8_init 0 = .ok (.aload_n 0, 1) := by decide +kernel
theorem dX8_init_1 : decode cX8_init 1 = .ok (.invokespecial 3, 3) := by decide +kernel
theorem dX8_init_4 : decode cX8_init 4 = .ok (.aload_n 0, 1) := by decide +kernel
theorem dX8_init_5 : decode cX8_init 5 = .ok (.iconst 5, 1) := by decide +kernel
theorem dX8_init_6 : decode cX8_init 6 = .ok (.newarray .int, 2) := by decide +kernel
theorem dX8_init_8 : decode cX8_init 8 = .ok (.putfield 9, 3) := by decide +kernel
theorem dX8_init_11 : decode cX8_init 11 = .ok (.aload_n 0, 1) := by decide +kernel
theorem dX8_init_12 : decode cX8_init 12 = .ok (.bipush 6, 2) := by decide +kernel
theorem dX8_init_14 : decode cX8_init 14 = .ok (.newarray .int, 2) := by decide +kernel
theorem dX8_init_16 : decode cX8_init 16 = .ok (.putfield 15, 3) := by decide +kernel
theorem dX8_init_19 : decode cX8_init 19 = .ok (.aload_n 0, 1) := by decide +kernel
theorem dX8_init_20 : decode cX8_init 20 = .ok (.bipush 6, 2) := by decide +kernel
theorem dX8_init_22 : decode cX8_init 22 = .ok (.newarray .int, 2) := by decide +kernel
theorem dX8_init_24 : decode cX8_init 24 = .ok (.putfield 18, 3) := by decide +kernel
theorem dX8_init_27 : decode cX8_init 27 = .ok (.aload_n 0, 1) := by decide +kernel
theorem dX8_init_28 : decode cX8_init 28 = .ok (.bipush 6, 2) := by decide +kernel
theorem dX8_init_30 : decode cX8_init 30 = .ok (.newarray .int, 2) := by decide +kernel
theorem dX8_init_32 : decode cX8_init 32 = .ok (.putfield 21, 3) := by decide +kernel
theorem dX8_init_35 : decode cX8_init 35 = .ok (.aload_n 0, 1) := by decide +kernel
theorem dX8_init_36 : decode cX8_init 36 = .ok (.bipush 6, 2) := by decide +kernel
theorem dX8_init_38 : decode cX8_init 38 = .ok (.newarray .int, 2) := by decide +kernel
theorem dX8_init_40 : decode cX8_init 40 = .ok (.putfield 24, 3) := by decide +kernel
theorem dX8_init_43 : decode cX8_init 43 = .ok (.return_, 1) := by decide +kernel
theorem dX8_takeFrom_0 : decode cX8_takeFrom 0 = .ok (.aload_n 0, 1) := by decide +kernel
theorem dX8_takeFrom_1 : decode cX8_takeFrom 1 = .ok (.aload_n 1, 1) := by decide +kernel
theorem dX8_takeFrom_2 : decode cX8_takeFrom 2 = .ok (.getfield 27, 3) := by decide +kernel
theorem dX8_takeFrom_5 : decode cX8_takeFrom 5 = .ok (.putfield 27, 3) := by decide +kernel
theorem dX8_takeFrom_8 : decode cX8_takeFrom 8 = .ok (.aload_n 0, 1) := by decide +kernel
theorem dX8_takeFrom_9 : decode cX8_takeFrom 9 = .ok (.aload_n 1, 1) := by decide +kernel
theorem dX8_takeFrom_10 : decode cX8_takeFrom 10 = .ok (.getfield 31, 3) := by decide +kernel
theorem dX8_takeFrom_13 : decode cX8_takeFrom 13 = .ok (.putfield 31, 3) := by decide +kernel
theorem dX8_takeFrom_16 : decode cX8_takeFrom 16 = .ok (.aload_n 0, 1) := by decide +kernel
theorem dX8_takeFrom_17 : decode cX8_takeFrom 17 = .ok (.aload_n 1, 1) := by decide +kernel
theorem dX8_takeFrom_18 : decode cX8_takeFrom 18 = .ok (.getfield 34, 3) := by decide +kernel
theorem dX8_takeFrom_21 : decode cX8_takeFrom 21 = .ok (.putfield 34, 3) := by decide +kernel
theorem dX8_takeFrom_24 : decode cX8_takeFrom 24 = .ok (.aload_n 1, 1) := by decide +kernel
theorem dX8_takeFrom_25 : decode cX8_takeFrom 25 = .ok (.getfield 9, 3) := by decide +kernel
theorem dX8_takeFrom_28 : decode cX8_takeFrom 28 = .ok (.iconst 0, 1) := by decide +kernel
theorem dX8_takeFrom_29 : decode cX8_takeFrom 29 = .ok (.aload_n 0, 1) := by decide +kernel
theorem dX8_takeFrom_30 : decode cX8_takeFrom 30 = .ok (.getfield 9, 3) := by decide +kernel
theorem dX8_takeFrom_33 : decode cX8_takeFrom 33 = .ok (.iconst 0, 1) := by decide +kernel
theorem dX8_takeFrom_34 : decode cX8_takeFrom 34 = .ok (.iconst 5, 1) := by decide +kernel
theorem dX8_takeFrom_35 : decode cX8_takeFrom 35 = .ok (.invokestatic 37, 3) := by decide +kernel
theorem dX8_takeFrom_38 : decode cX8_takeFrom 38 = .ok (.aload_n 1, 1) := by decide +kernel
theorem dX8_takeFrom_39 : decode cX8_takeFrom 39 = .ok (.getfield 15, 3) := by decide +kernel
theorem dX8_takeFrom_42 : decode cX8_takeFrom 42 = .ok (.iconst 0, 1) := by decide +kernel
theorem dX8_takeFrom_43 : decode cX8_takeFrom 43 = .ok (.aload_n 0, 1) := by decide +kernel
theorem dX8_takeFrom_44 : decode cX8_takeFrom 44 = .ok (.getfield 15, 3) := by decide +kernel
theorem dX8_takeFrom_47 : decode cX8_takeFrom 47 = .ok (.iconst 0, 1) := by decide +kernel
theorem dX8_takeFrom_48 : decode cX8_takeFrom 48 = .ok (.bipush 6, 2) := by decide +kernel
theorem dX8_takeFrom_50 : decode cX8_takeFrom 50 = .ok (.invokestatic 37, 3) := by decide +kernel
theorem dX8_takeFrom_53 : decode cX8_takeFrom 53 = .ok (.aload_n 1, 1) := by decide +kernel
theorem dX8_takeFrom_54 : decode cX8_takeFrom 54 = .ok (.getfield 18, 3) := by decide +kernel
theorem dX8_takeFrom_57 : decode cX8_takeFrom 57 = .ok (.iconst 0, 1) := by decide +kernel
theorem dX8_takeFrom_58 : decode cX8_takeFrom 58 = .ok (.aload_n 0, 1) := by decide +kernel
theorem dX8_takeFrom_59 : decode cX8_takeFrom 59 = .ok (.getfield 18, 3) := by decide +kernel
theorem dX8_takeFrom_62 : decode cX8_takeFrom 62 = .ok (.iconst 0, 1) := by decide +kernel
theorem dX8_takeFrom_63 : decode cX8_takeFrom 63 = .ok (.bipush 6, 2) := by decide +kernel
theorem dX8_takeFrom_65 : decode cX8_takeFrom 65 = .ok (.invokestatic 37, 3) := by decide +kernel
theorem dX8_takeFrom_68 : decode cX8_takeFrom 68 = .ok (.aload_n 1, 1) := by decide +kernel
theorem dX8_takeFrom_69 : decode cX8_takeFrom 69 = .ok (.getfield 21, 3) := by decide +kernel
theorem dX8_takeFrom_72 : decode cX8_takeFrom 72 = .ok (.iconst 0, 1) := by decide +kernel
theorem dX8_takeFrom_73 : decode cX8_takeFrom 73 = .ok (.aload_n 0, 1) := by decide +kernel
theorem dX8_takeFrom_74 : decode cX8_takeFrom 74 = .ok (.getfield 21, 3) := by decide +kernel
theorem dX8_takeFrom_77 : decode cX8_takeFrom 77 = .ok (.iconst 0, 1) := by decide +kernel
theorem dX8_takeFrom_78 : decode cX8_takeFrom 78 = .ok (.bipush 6, 2) := by decide +kernel
theorem dX8_takeFrom_80 : decode cX8_takeFrom 80 = .ok (.invokestatic 37, 3) := by decide +kernel
theorem dX8_takeFrom_83 : decode cX8_takeFrom 83 = .ok (.aload_n 1, 1) := by decide +kernel
theorem dX8_takeFrom_84 : decode cX8_takeFrom 84 = .ok (.getfield 24, 3) := by decide +kernel
theorem dX8_takeFrom_87 : decode cX8_takeFrom 87 = .ok (.iconst 0, 1) := by decide +kernel
theorem dX8_takeFrom_88 : decode cX8_takeFrom 88 = .ok (.aload_n 0, 1) := by decide +kernel
theorem dX8_takeFrom_89 : decode cX8_takeFrom 89 = .ok (.getfield 24, 3) := by decide +kernel
theorem dX8_takeFrom_92 : decode cX8_takeFrom 92 = .ok (.iconst 0, 1) := by decide +kernel
theorem dX8_takeFrom_93 : decode cX8_takeFrom 93 = .ok (.bipush 6, 2) := by decide +kernel
theorem dX8_takeFrom_95 : decode cX8_takeFrom 95 = .ok (.invokestatic 37, 3) := by decide +kernel
theorem dX8_takeFrom_98 : decode cX8_takeFrom 98 = .ok (.return_, 1) := by decide +kernel
theorem dX8_hasPerson_0 : decode cX8_hasPerson 0 = .ok (.iload_n 1, 1) := by decide +kernel
theorem dX8_hasPerson_1 : decode cX8_hasPerson 1 = .ok (.ifCond .lt 15, 3) := by decide +kernel
theorem dX8_hasPerson_4 : decode cX8_hasPerson 4 = .ok (.iload_n 1, 1) := by decide +kernel
theorem dX8_hasPerson_5 : decode cX8_hasPerson 5 = .ok (.aload_n 0, 1) := by decide +kernel
theorem dX8_hasPerson_6 : decode cX8_hasPerson 6 = .ok (.getfield 31, 3) := by decide +kernel
theorem dX8_hasPerson_9 : decode cX8_hasPerson 9 = .ok (.if_icmp .ge 7, 3) := by decide +kernel
theorem dX8_hasPerson_12 : decode cX8_hasPerson 12 = .ok (.iconst 1, 1) := by decide +kernel
theorem dX8_hasPerson_13 : decode cX8_hasPerson 13 = .ok (.goto 4, 3) := by decide +kernel
theorem dX8_hasPerson_16 : decode cX8_hasPerson 16 = .ok (.iconst 0, 1) := by decide +kernel
theorem dX8_hasPerson_17 : decode cX8_hasPerson 17 = .ok (.ireturn, 1) := by decide +kernel
theorem dX8_hasSpeech_0 : decode cX8_hasSpeech 0 = .ok (.iload_n 1, 1) := by decide +kernel
theorem dX8_hasSpeech_1 : decode cX8_hasSpeech 1 = .ok (.ifCond .lt 15, 3) := by decide +kernel
theorem dX8_hasSpeech_4 : decode cX8_hasSpeech 4 = .ok (.iload_n 1, 1) := by decide +kernel
theorem dX8_hasSpeech_5 : decode cX8_hasSpeech 5 = .ok (.aload_n 0, 1) := by decide +kernel
theorem dX8_hasSpeech_6 : decode cX8_hasSpeech 6 = .ok (.getfield 34, 3) := by decide +kernel
theorem dX8_hasSpeech_9 : decode cX8_hasSpeech 9 = .ok (.if_icmp .ge 7, 3) := by decide +kernel
theorem dX8_hasSpeech_12 : decode cX8_hasSpeech 12 = .ok (.iconst 1, 1) := by decide +kernel
theorem dX8_hasSpeech_13 : decode cX8_hasSpeech 13 = .ok (.goto 4, 3) := by decide +kernel
theorem dX8_hasSpeech_16 : decode cX8_hasSpeech 16 = .ok (.iconst 0, 1) := by decide +kernel
theorem dX8_hasSpeech_17 : decode cX8_hasSpeech 17 = .ok (.ireturn, 1) := by decide +kernel
theorem dX8_everyone_0 : decode cX8_everyone 0 = .ok (.iconst 1, 1) := by decide +kernel
theorem dX8_everyone_1 : decode cX8_everyone 1 = .ok (.aload_n 0, 1) := by decide +kernel
theorem dX8_everyone_2 : decode cX8_everyone 2 = .ok (.getfield 31, 3) := by decide +kernel
theorem dX8_everyone_5 : decode cX8_everyone 5 = .ok (.ishl, 1) := by decide +kernel
theorem dX8_everyone_6 : decode cX8_everyone 6 = .ok (.iconst 1, 1) := by decide +kernel
theorem dX8_everyone_7 : decode cX8_everyone 7 = .ok (.isub, 1) := by decide +kernel
theorem dX8_everyone_8 : decode cX8_everyone 8 = .ok (.ireturn, 1) := by decide +kernel
theorem dX8_words_0 : decode cX8_words 0 = .ok (.aload_n 0, 1) := by decide +kernel
theorem dX8_words_1 : decode cX8_words 1 = .ok (.getfield 15, 3) := by decide +kernel
theorem dX8_words_4 : decode cX8_words 4 = .ok (.iload_n 1, 1) := by decide +kernel
theorem dX8_words_5 : decode cX8_words 5 = .ok (.iaload, 1) := by decide +kernel
theorem dX8_words_6 : decode cX8_words 6 = .ok (.tableswitch 53 1 3 #[26, 33, 44], 26) := by decide +kernel
theorem dX8_words_32 : decode cX8_words 32 = .ok (.aload_n 0, 1) := by decide +kernel
theorem dX8_words_33 : decode cX8_words 33 = .ok (.getfield 21, 3) := by decide +kernel
theorem dX8_words_36 : decode cX8_words 36 = .ok (.iload_n 1, 1) := by decide +kernel
theorem dX8_words_37 : decode cX8_words 37 = .ok (.iaload, 1) := by decide +kernel
theorem dX8_words_38 : decode cX8_words 38 = .ok (.ireturn, 1) := by decide +kernel
theorem dX8_words_39 : decode cX8_words 39 = .ok (.aload_n 0, 1) := by decide +kernel
theorem dX8_words_40 : decode cX8_words 40 = .ok (.getfield 21, 3) := by decide +kernel
theorem dX8_words_43 : decode cX8_words 43 = .ok (.iload_n 1, 1) := by decide +kernel
theorem dX8_words_44 : decode cX8_words 44 = .ok (.iaload, 1) := by decide +kernel
theorem dX8_words_45 : decode cX8_words 45 = .ok (.iconst 1, 1) := by decide +kernel
theorem dX8_words_46 : decode cX8_words 46 = .ok (.iadd, 1) := by decide +kernel
theorem dX8_words_47 : decode cX8_words 47 = .ok (.iconst 2, 1) := by decide +kernel
theorem dX8_words_48 : decode cX8_words 48 = .ok (.idiv, 1) := by decide +kernel
theorem dX8_words_49 : decode cX8_words 49 = .ok (.ireturn, 1) := by decide +kernel
theorem dX8_words_50 : decode cX8_words 50 = .ok (.iconst 2, 1) := by decide +kernel
theorem dX8_words_51 : decode cX8_words 51 = .ok (.aload_n 0, 1) := by decide +kernel
theorem dX8_words_52 : decode cX8_words 52 = .ok (.getfield 21, 3) := by decide +kernel
theorem dX8_words_55 : decode cX8_words 55 = .ok (.iload_n 1, 1) := by decide +kernel
theorem dX8_words_56 : decode cX8_words 56 = .ok (.iaload, 1) := by decide +kernel
theorem dX8_words_57 : decode cX8_words 57 = .ok (.imul, 1) := by decide +kernel
theorem dX8_words_58 : decode cX8_words 58 = .ok (.ireturn, 1) := by decide +kernel
theorem dX8_words_59 : decode cX8_words 59 = .ok (.iconst 0, 1) := by decide +kernel
theorem dX8_words_60 : decode cX8_words 60 = .ok (.ireturn, 1) := by decide +kernel
theorem dX8_withBeside_0 : decode cX8_withBeside 0 = .ok (.iload_n 1, 1) := by decide +kernel
theorem dX8_withBeside_1 : decode cX8_withBeside 1 = .ok (.iconst 1, 1) := by decide +kernel
theorem dX8_withBeside_2 : decode cX8_withBeside 2 = .ok (.ishl, 1) := by decide +kernel
theorem dX8_withBeside_3 : decode cX8_withBeside 3 = .ok (.iload_n 1, 1) := by decide +kernel
theorem dX8_withBeside_4 : decode cX8_withBeside 4 = .ok (.aload_n 0, 1) := by decide +kernel
theorem dX8_withBeside_5 : decode cX8_withBeside 5 = .ok (.getfield 31, 3) := by decide +kernel
theorem dX8_withBeside_8 : decode cX8_withBeside 8 = .ok (.iconst 1, 1) := by decide +kernel
theorem dX8_withBeside_9 : decode cX8_withBeside 9 = .ok (.isub, 1) := by decide +kernel
theorem dX8_withBeside_10 : decode cX8_withBeside 10 = .ok (.ishr, 1) := by decide +kernel
theorem dX8_withBeside_11 : decode cX8_withBeside 11 = .ok (.ior, 1) := by decide +kernel
theorem dX8_withBeside_12 : decode cX8_withBeside 12 = .ok (.istore_n 2, 1) := by decide +kernel
theorem dX8_withBeside_13 : decode cX8_withBeside 13 = .ok (.iload_n 1, 1) := by decide +kernel
theorem dX8_withBeside_14 : decode cX8_withBeside 14 = .ok (.iconst 1, 1) := by decide +kernel
theorem dX8_withBeside_15 : decode cX8_withBeside 15 = .ok (.ishr, 1) := by decide +kernel
theorem dX8_withBeside_16 : decode cX8_withBeside 16 = .ok (.iload_n 1, 1) := by decide +kernel
theorem dX8_withBeside_17 : decode cX8_withBeside 17 = .ok (.aload_n 0, 1) := by decide +kernel
theorem dX8_withBeside_18 : decode cX8_withBeside 18 = .ok (.getfield 31, 3) := by decide +kernel
theorem dX8_withBeside_21 : decode cX8_withBeside 21 = .ok (.iconst 1, 1) := by decide +kernel
theorem dX8_withBeside_22 : decode cX8_withBeside 22 = .ok (.isub, 1) := by decide +kernel
theorem dX8_withBeside_23 : decode cX8_withBeside 23 = .ok (.ishl, 1) := by decide +kernel
theorem dX8_withBeside_24 : decode cX8_withBeside 24 = .ok (.ior, 1) := by decide +kernel
theorem dX8_withBeside_25 : decode cX8_withBeside 25 = .ok (.istore_n 3, 1) := by decide +kernel
theorem dX8_withBeside_26 : decode cX8_withBeside 26 = .ok (.iload_n 1, 1) := by decide +kernel
theorem dX8_withBeside_27 : decode cX8_withBeside 27 = .ok (.iload_n 2, 1) := by decide +kernel
theorem dX8_withBeside_28 : decode cX8_withBeside 28 = .ok (.ior, 1) := by decide +kernel
theorem dX8_withBeside_29 : decode cX8_withBeside 29 = .ok (.iload_n 3, 1) := by decide +kernel
theorem dX8_withBeside_30 : decode cX8_withBeside 30 = .ok (.ior, 1) := by decide +kernel
theorem dX8_withBeside_31 : decode cX8_withBeside 31 = .ok (.aload_n 0, 1) := by decide +kernel
theorem dX8_withBeside_32 : decode cX8_withBeside 32 = .ok (.invokevirtual 43, 3) := by decide +kernel
theorem dX8_withBeside_35 : decode cX8_withBeside 35 = .ok (.iand, 1) := by decide +kernel
theorem dX8_withBeside_36 : decode cX8_withBeside 36 = .ok (.ireturn, 1) := by decide +kernel
theorem dX8_reachedBySaying_0 : decode cX8_reachedBySaying 0 = .ok (.iload_n 1, 1) := by decide +kernel
theorem dX8_reachedBySaying_1 : decode cX8_reachedBySaying 1 = .ok (.iconst 4, 1) := by decide +kernel
theorem dX8_reachedBySaying_2 : decode cX8_reachedBySaying 2 = .ok (.if_icmp .eq 13, 3) := by decide +kernel
theorem dX8_reachedBySaying_5 : decode cX8_reachedBySaying 5 = .ok (.iload_n 1, 1) := by decide +kernel
theorem dX8_reachedBySaying_6 : decode cX8_reachedBySaying 6 = .ok (.iconst 5, 1) := by decide +kernel
theorem dX8_reachedBySaying_7 : decode cX8_reachedBySaying 7 = .ok (.if_icmp .eq 8, 3) := by decide +kernel
theorem dX8_reachedBySaying_10 : decode cX8_reachedBySaying 10 = .ok (.aload_n 0, 1) := by decide +kernel
theorem dX8_reachedBySaying_11 : decode cX8_reachedBySaying 11 = .ok (.invokevirtual 43, 3) := by decide +kernel
theorem dX8_reachedBySaying_14 : decode cX8_reachedBySaying 14 = .ok (.ireturn, 1) := by decide +kernel
theorem dX8_reachedBySaying_15 : decode cX8_reachedBySaying 15 = .ok (.iconst 1, 1) := by decide +kernel
theorem dX8_reachedBySaying_16 : decode cX8_reachedBySaying 16 = .ok (.iload_n 2, 1) := by decide +kernel
theorem dX8_reachedBySaying_17 : decode cX8_reachedBySaying 17 = .ok (.ishl, 1) := by decide +kernel
theorem dX8_reachedBySaying_18 : decode cX8_reachedBySaying 18 = .ok (.istore 4, 2) := by decide +kernel
theorem dX8_reachedBySaying_20 : decode cX8_reachedBySaying 20 = .ok (.iload 4, 2) := by decide +kernel
theorem dX8_reachedBySaying_22 : decode cX8_reachedBySaying 22 = .ok (.aload_n 0, 1) := by decide +kernel
theorem dX8_reachedBySaying_23 : decode cX8_reachedBySaying 23 = .ok (.iload 4, 2) := by decide +kernel
theorem dX8_reachedBySaying_25 : decode cX8_reachedBySaying 25 = .ok (.invokevirtual 47, 3) := by decide +kernel
theorem dX8_reachedBySaying_28 : decode cX8_reachedBySaying 28 = .ok (.iload_n 3, 1) := by decide +kernel
theorem dX8_reachedBySaying_29 : decode cX8_reachedBySaying 29 = .ok (.iconst (-1), 1) := by decide +kernel
theorem dX8_reachedBySaying_30 : decode cX8_reachedBySaying 30 = .ok (.ixor, 1) := by decide +kernel
theorem dX8_reachedBySaying_31 : decode cX8_reachedBySaying 31 = .ok (.iand, 1) := by decide +kernel
theorem dX8_reachedBySaying_32 : decode cX8_reachedBySaying 32 = .ok (.ior, 1) := by decide +kernel
theorem dX8_reachedBySaying_33 : decode cX8_reachedBySaying 33 = .ok (.ireturn, 1) := by decide +kernel
theorem dX8_onward_0 : decode cX8_onward 0 = .ok (.iload_n 1, 1) := by decide +kernel
theorem dX8_onward_1 : decode cX8_onward 1 = .ok (.iconst 4, 1) := by decide +kernel
theorem dX8_onward_2 : decode cX8_onward 2 = .ok (.if_icmp .ne 7, 3) := by decide +kernel
theorem dX8_onward_5 : decode cX8_onward 5 = .ok (.iconst 1, 1) := by decide +kernel
theorem dX8_onward_6 : decode cX8_onward 6 = .ok (.goto 13, 3) := by decide +kernel
theorem dX8_onward_9 : decode cX8_onward 9 = .ok (.iload_n 1, 1) := by decide +kernel
theorem dX8_onward_10 : decode cX8_onward 10 = .ok (.iconst 5, 1) := by decide +kernel
theorem dX8_onward_11 : decode cX8_onward 11 = .ok (.if_icmp .ne 7, 3) := by decide +kernel
theorem dX8_onward_14 : decode cX8_onward 14 = .ok (.iconst 2, 1) := by decide +kernel
theorem dX8_onward_15 : decode cX8_onward 15 = .ok (.goto 4, 3) := by decide +kernel
theorem dX8_onward_18 : decode cX8_onward 18 = .ok (.iconst 0, 1) := by decide +kernel
theorem dX8_onward_19 : decode cX8_onward 19 = .ok (.istore 5, 2) := by decide +kernel
theorem dX8_onward_21 : decode cX8_onward 21 = .ok (.iconst 5, 1) := by decide +kernel
theorem dX8_onward_22 : decode cX8_onward 22 = .ok (.iload 4, 2) := by decide +kernel
theorem dX8_onward_24 : decode cX8_onward 24 = .ok (.iload 5, 2) := by decide +kernel
theorem dX8_onward_26 : decode cX8_onward 26 = .ok (.imul, 1) := by decide +kernel
theorem dX8_onward_27 : decode cX8_onward 27 = .ok (.invokestatic 51, 3) := by decide +kernel
theorem dX8_onward_30 : decode cX8_onward 30 = .ok (.istore 6, 2) := by decide +kernel
theorem dX8_onward_32 : decode cX8_onward 32 = .ok (.iload_n 2, 1) := by decide +kernel
theorem dX8_onward_33 : decode cX8_onward 33 = .ok (.istore 7, 2) := by decide +kernel
theorem dX8_onward_35 : decode cX8_onward 35 = .ok (.iconst 0, 1) := by decide +kernel
theorem dX8_onward_36 : decode cX8_onward 36 = .ok (.istore 8, 2) := by decide +kernel
theorem dX8_onward_38 : decode cX8_onward 38 = .ok (.iload 8, 2) := by decide +kernel
theorem dX8_onward_40 : decode cX8_onward 40 = .ok (.iload 6, 2) := by decide +kernel
theorem dX8_onward_42 : decode cX8_onward 42 = .ok (.if_icmp .ge 24, 3) := by decide +kernel
theorem dX8_onward_45 : decode cX8_onward 45 = .ok (.iload 7, 2) := by decide +kernel
theorem dX8_onward_47 : decode cX8_onward 47 = .ok (.aload_n 0, 1) := by decide +kernel
theorem dX8_onward_48 : decode cX8_onward 48 = .ok (.iload 7, 2) := by decide +kernel
theorem dX8_onward_50 : decode cX8_onward 50 = .ok (.invokevirtual 47, 3) := by decide +kernel
theorem dX8_onward_53 : decode cX8_onward 53 = .ok (.iload_n 3, 1) := by decide +kernel
theorem dX8_onward_54 : decode cX8_onward 54 = .ok (.iconst (-1), 1) := by decide +kernel
theorem dX8_onward_55 : decode cX8_onward 55 = .ok (.ixor, 1) := by decide +kernel
theorem dX8_onward_56 : decode cX8_onward 56 = .ok (.iand, 1) := by decide +kernel
theorem dX8_onward_57 : decode cX8_onward 57 = .ok (.ior, 1) := by decide +kernel
theorem dX8_onward_58 : decode cX8_onward 58 = .ok (.istore 7, 2) := by decide +kernel
theorem dX8_onward_60 : decode cX8_onward 60 = .ok (.iinc 8 1, 3) := by decide +kernel
theorem dX8_onward_63 : decode cX8_onward 63 = .ok (.goto (-25), 3) := by decide +kernel
theorem dX8_onward_66 : decode cX8_onward 66 = .ok (.iload 7, 2) := by decide +kernel
theorem dX8_onward_68 : decode cX8_onward 68 = .ok (.ireturn, 1) := by decide +kernel
theorem dX9_init_0 : decode cX9_init 0 = .ok (.aload_n 0, 1) := by decide +kernel
theorem dX9_init_1 : decode cX9_init 1 = .ok (.invokespecial 1, 3) := by decide +kernel
theorem dX9_init_4 : decode cX9_init 4 = .ok (.aload_n 0, 1) := by decide +kernel
theorem dX9_init_5 : decode cX9_init 5 = .ok (.bipush 8, 2) := by decide +kernel
theorem dX9_init_7 : decode cX9_init 7 = .ok (.anewarray 9, 3) := by decide +kernel
theorem dX9_init_10 : decode cX9_init 10 = .ok (.putfield 11, 3) := by decide +kernel
theorem dX9_init_13 : decode cX9_init 13 = .ok (.aload_n 0, 1) := by decide +kernel
theorem dX9_init_14 : decode cX9_init 14 = .ok (.iconst 2, 1) := by decide +kernel
theorem dX9_init_15 : decode cX9_init 15 = .ok (.anewarray 15, 3) := by decide +kernel
theorem dX9_init_18 : decode cX9_init 18 = .ok (.putfield 17, 3) := by decide +kernel
theorem dX9_init_21 : decode cX9_init 21 = .ok (.aload_n 0, 1) := by decide +kernel
theorem dX9_init_22 : decode cX9_init 22 = .ok (.new 21, 3) := by decide +kernel
theorem dX9_init_25 : decode cX9_init 25 = .ok (.dup, 1) := by decide +kernel
theorem dX9_init_26 : decode cX9_init 26 = .ok (.invokespecial 23, 3) := by decide +kernel
theorem dX9_init_29 : decode cX9_init 29 = .ok (.putfield 24, 3) := by decide +kernel
theorem dX9_init_32 : decode cX9_init 32 = .ok (.aload_n 0, 1) := by decide +kernel
theorem dX9_init_33 : decode cX9_init 33 = .ok (.new 28, 3) := by decide +kernel
theorem dX9_init_36 : decode cX9_init 36 = .ok (.dup, 1) := by decide +kernel
theorem dX9_init_37 : decode cX9_init 37 = .ok (.aload_n 0, 1) := by decide +kernel
theorem dX9_init_38 : decode cX9_init 38 = .ok (.getfield 24, 3) := by decide +kernel
theorem dX9_init_41 : decode cX9_init 41 = .ok (.invokespecial 30, 3) := by decide +kernel
theorem dX9_init_44 : decode cX9_init 44 = .ok (.putfield 33, 3) := by decide +kernel
theorem dX9_init_47 : decode cX9_init 47 = .ok (.aload_n 0, 1) := by decide +kernel
theorem dX9_init_48 : decode cX9_init 48 = .ok (.new 28, 3) := by decide +kernel
theorem dX9_init_51 : decode cX9_init 51 = .ok (.dup, 1) := by decide +kernel
theorem dX9_init_52 : decode cX9_init 52 = .ok (.aload_n 0, 1) := by decide +kernel
theorem dX9_init_53 : decode cX9_init 53 = .ok (.getfield 24, 3) := by decide +kernel
theorem dX9_init_56 : decode cX9_init 56 = .ok (.invokespecial 30, 3) := by decide +kernel
theorem dX9_init_59 : decode cX9_init 59 = .ok (.putfield 37, 3) := by decide +kernel
theorem dX9_init_62 : decode cX9_init 62 = .ok (.aload_n 0, 1) := by decide +kernel
theorem dX9_init_63 : decode cX9_init 63 = .ok (.new 40, 3) := by decide +kernel
theorem dX9_init_66 : decode cX9_init 66 = .ok (.dup, 1) := by decide +kernel
theorem dX9_init_67 : decode cX9_init 67 = .ok (.aload_n 0, 1) := by decide +kernel
theorem dX9_init_68 : decode cX9_init 68 = .ok (.getfield 24, 3) := by decide +kernel
theorem dX9_init_71 : decode cX9_init 71 = .ok (.invokespecial 42, 3) := by decide +kernel
theorem dX9_init_74 : decode cX9_init 74 = .ok (.putfield 43, 3) := by decide +kernel
theorem dX9_init_77 : decode cX9_init 77 = .ok (.aload_n 0, 1) := by decide +kernel
theorem dX9_init_78 : decode cX9_init 78 = .ok (.new 47, 3) := by decide +kernel
theorem dX9_init_81 : decode cX9_init 81 = .ok (.dup, 1) := by decide +kernel
theorem dX9_init_82 : decode cX9_init 82 = .ok (.aload_n 0, 1) := by decide +kernel
theorem dX9_init_83 : decode cX9_init 83 = .ok (.getfield 24, 3) := by decide +kernel
theorem dX9_init_86 : decode cX9_init 86 = .ok (.invokespecial 49, 3) := by decide +kernel
theorem dX9_init_89 : decode cX9_init 89 = .ok (.putfield 50, 3) := by decide +kernel
theorem dX9_init_92 : decode cX9_init 92 = .ok (.aload_n 0, 1) := by decide +kernel
theorem dX9_init_93 : decode cX9_init 93 = .ok (.new 54, 3) := by decide +kernel
theorem dX9_init_96 : decode cX9_init 96 = .ok (.dup, 1) := by decide +kernel
theorem dX9_init_97 : decode cX9_init 97 = .ok (.invokespecial 56, 3) := by decide +kernel
theorem dX9_init_100 : decode cX9_init 100 = .ok (.putfield 57, 3) := by decide +kernel
theorem dX9_init_103 : decode cX9_init 103 = .ok (.aload_n 0, 1) := by decide +kernel
theorem dX9_init_104 : decode cX9_init 104 = .ok (.new 61, 3) := by decide +kernel
theorem dX9_init_107 : decode cX9_init 107 = .ok (.dup, 1) := by decide +kernel
theorem dX9_init_108 : decode cX9_init 108 = .ok (.invokespecial 63, 3) := by decide +kernel
theorem dX9_init_111 : decode cX9_init 111 = .ok (.putfield 64, 3) := by decide +kernel
theorem dX9_init_114 : decode cX9_init 114 = .ok (.aload_n 0, 1) := by decide +kernel
theorem dX9_init_115 : decode cX9_init 115 = .ok (.new 68, 3) := by decide +kernel
theorem dX9_init_118 : decode cX9_init 118 = .ok (.dup, 1) := by decide +kernel
theorem dX9_init_119 : decode cX9_init 119 = .ok (.aload_n 0, 1) := by decide +kernel
theorem dX9_init_120 : decode cX9_init 120 = .ok (.getfield 24, 3) := by decide +kernel
theorem dX9_init_123 : decode cX9_init 123 = .ok (.aload_n 0, 1) := by decide +kernel
theorem dX9_init_124 : decode cX9_init 124 = .ok (.getfield 33, 3) := by decide +kernel
theorem dX9_init_127 : decode cX9_init 127 = .ok (.invokespecial 70, 3) := by decide +kernel
theorem dX9_init_130 : decode cX9_init 130 = .ok (.putfield 73, 3) := by decide +kernel
theorem dX9_init_133 : decode cX9_init 133 = .ok (.iconst 0, 1) := by decide +kernel
theorem dX9_init_134 : decode cX9_init 134 = .ok (.istore_n 1, 1) := by decide +kernel
theorem dX9_init_135 : decode cX9_init 135 = .ok (.iload_n 1, 1) := by decide +kernel
theorem dX9_init_136 : decode cX9_init 136 = .ok (.bipush 8, 2) := by decide +kernel
theorem dX9_init_138 : decode cX9_init 138 = .ok (.if_icmp .ge 22, 3) := by decide +kernel
theorem dX9_init_141 : decode cX9_init 141 = .ok (.aload_n 0, 1) := by decide +kernel
theorem dX9_init_142 : decode cX9_init 142 = .ok (.getfield 11, 3) := by decide +kernel
theorem dX9_init_145 : decode cX9_init 145 = .ok (.iload_n 1, 1) := by decide +kernel
theorem dX9_init_146 : decode cX9_init 146 = .ok (.new 9, 3) := by decide +kernel
theorem dX9_init_149 : decode cX9_init 149 = .ok (.dup, 1) := by decide +kernel
theorem dX9_init_150 : decode cX9_init 150 = .ok (.invokespecial 77, 3) := by decide +kernel
theorem dX9_init_153 : decode cX9_init 153 = .ok (.aastore, 1) := by decide +kernel
theorem dX9_init_154 : decode cX9_init 154 = .ok (.iinc 1 1, 3) := by decide +kernel
theorem dX9_init_157 : decode cX9_init 157 = .ok (.goto (-22), 3) := by decide +kernel
theorem dX9_init_160 : decode cX9_init 160 = .ok (.iconst 0, 1) := by decide +kernel
theorem dX9_init_161 : decode cX9_init 161 = .ok (.istore_n 1, 1) := by decide +kernel
theorem dX9_init_162 : decode cX9_init 162 = .ok (.iload_n 1, 1) := by decide +kernel
theorem dX9_init_163 : decode cX9_init 163 = .ok (.iconst 2, 1) := by decide +kernel
theorem dX9_init_164 : decode cX9_init 164 = .ok (.if_icmp .ge 22, 3) := by decide +kernel
theorem dX9_init_167 : decode cX9_init 167 = .ok (.aload_n 0, 1) := by decide +kernel
theorem dX9_init_168 : decode cX9_init 168 = .ok (.getfield 17, 3) := by decide +kernel
theorem dX9_init_171 : decode cX9_init 171 = .ok (.iload_n 1, 1) := by decide +kernel
theorem dX9_init_172 : decode cX9_init 172 = .ok (.new 15, 3) := by decide +kernel
theorem dX9_init_175 : decode cX9_init 175 = .ok (.dup, 1) := by decide +kernel
theorem dX9_init_176 : decode cX9_init 176 = .ok (.invokespecial 78, 3) := by decide +kernel
theorem dX9_init_179 : decode cX9_init 179 = .ok (.aastore, 1) := by decide +kernel
theorem dX9_init_180 : decode cX9_init 180 = .ok (.iinc 1 1, 3) := by decide +kernel
theorem dX9_init_183 : decode cX9_init 183 = .ok (.goto (-21), 3) := by decide +kernel
theorem dX9_init_186 : decode cX9_init 186 = .ok (.return_, 1) := by decide +kernel
theorem dX9_row_0 : decode cX9_row 0 = .ok (.iload_n 1, 1) := by decide +kernel
theorem dX9_row_1 : decode cX9_row 1 = .ok (.invokestatic 79, 3) := by decide +kernel
theorem dX9_row_4 : decode cX9_row 4 = .ok (.ifCond .eq 18, 3) := by decide +kernel
theorem dX9_row_7 : decode cX9_row 7 = .ok (.iload_n 2, 1) := by decide +kernel
theorem dX9_row_8 : decode cX9_row 8 = .ok (.iconst 0, 1) := by decide +kernel
theorem dX9_row_9 : decode cX9_row 9 = .ok (.iconst 2, 1) := by decide +kernel
theorem dX9_row_10 : decode cX9_row 10 = .ok (.invokestatic 83, 3) := by decide +kernel
theorem dX9_row_13 : decode cX9_row 13 = .ok (.ifCond .eq 9, 3) := by decide +kernel
theorem dX9_row_16 : decode cX9_row 16 = .ok (.iload_n 3, 1) := by decide +kernel
theorem dX9_row_17 : decode cX9_row 17 = .ok (.bipush 40, 2) := by decide +kernel
theorem dX9_row_19 : decode cX9_row 19 = .ok (.if_icmp .le 6, 3) := by decide +kernel
theorem dX9_row_22 : decode cX9_row 22 = .ok (.ldc 87, 2) := by decide +kernel
theorem dX9_row_24 : decode cX9_row 24 = .ok (.ireturn, 1) := by decide +kernel
theorem dX9_row_25 : decode cX9_row 25 = .ok (.iload_n 3, 1) := by decide +kernel
theorem dX9_row_26 : decode cX9_row 26 = .ok (.ifCond .ge 9, 3) := by decide +kernel
theorem dX9_row_29 : decode cX9_row 29 = .ok (.aload_n 0, 1) := by decide +kernel
theorem dX9_row_30 : decode cX9_row 30 = .ok (.iconst 4, 1) := by decide +kernel
theorem dX9_row_31 : decode cX9_row 31 = .ok (.invokevirtual 88, 3) := by decide +kernel
theorem dX9_row_34 : decode cX9_row 34 = .ok (.ireturn, 1) := by decide +kernel
theorem dX9_row_35 : decode cX9_row 35 = .ok (.aload_n 0, 1) := by decide +kernel
theorem dX9_row_36 : decode cX9_row 36 = .ok (.getfield 11, 3) := by decide +kernel
theorem dX9_row_39 : decode cX9_row 39 = .ok (.iload_n 1, 1) := by decide +kernel
theorem dX9_row_40 : decode cX9_row 40 = .ok (.aaload, 1) := by decide +kernel
theorem dX9_row_41 : decode cX9_row 41 = .ok (.iload_n 2, 1) := by decide +kernel
theorem dX9_row_42 : decode cX9_row 42 = .ok (.iload_n 3, 1) := by decide +kernel
theorem dX9_row_43 : decode cX9_row 43 = .ok (.invokevirtual 92, 3) := by decide +kernel
theorem dX9_row_46 : decode cX9_row 46 = .ok (.aload_n 0, 1) := by decide +kernel
theorem dX9_row_47 : decode cX9_row 47 = .ok (.iload_n 3, 1) := by decide +kernel
theorem dX9_row_48 : decode cX9_row 48 = .ok (.invokevirtual 96, 3) := by decide +kernel
theorem dX9_row_51 : decode cX9_row 51 = .ok (.ireturn, 1) := by decide +kernel
theorem dX9_set_0 : decode cX9_set 0 = .ok (.iload_n 1, 1) := by decide +kernel
theorem dX9_set_1 : decode cX9_set 1 = .ok (.invokestatic 79, 3) := by decide +kernel
theorem dX9_set_4 : decode cX9_set 4 = .ok (.ifCond .ne 6, 3) := by decide +kernel
theorem dX9_set_7 : decode cX9_set 7 = .ok (.ldc 87, 2) := by decide +kernel
theorem dX9_set_9 : decode cX9_set 9 = .ok (.ireturn, 1) := by decide +kernel
theorem dX9_set_10 : decode cX9_set 10 = .ok (.aload_n 0, 1) := by decide +kernel
theorem dX9_set_11 : decode cX9_set 11 = .ok (.iload_n 1, 1) := by decide +kernel
theorem dX9_set_12 : decode cX9_set 12 = .ok (.iload_n 2, 1) := by decide +kernel
theorem dX9_set_13 : decode cX9_set 13 = .ok (.iconst 1, 1) := by decide +kernel
theorem dX9_set_14 : decode cX9_set 14 = .ok (.invokevirtual 99, 3) := by decide +kernel
theorem dX9_set_17 : decode cX9_set 17 = .ok (.istore 4, 2) := by decide +kernel
theorem dX9_set_19 : decode cX9_set 19 = .ok (.iload 4, 2) := by decide +kernel
theorem dX9_set_21 : decode cX9_set 21 = .ok (.ifCond .eq 10, 3) := by decide +kernel
theorem dX9_set_24 : decode cX9_set 24 = .ok (.aload_n 0, 1) := by decide +kernel
theorem dX9_set_25 : decode cX9_set 25 = .ok (.iload 4, 2) := by decide +kernel
theorem dX9_set_27 : decode cX9_set 27 = .ok (.invokevirtual 88, 3) := by decide +kernel
theorem dX9_set_30 : decode cX9_set 30 = .ok (.ireturn, 1) := by decide +kernel
theorem dX9_set_31 : decode cX9_set 31 = .ok (.aload_n 0, 1) := by decide +kernel
theorem dX9_set_32 : decode cX9_set 32 = .ok (.aload_n 0, 1) := by decide +kernel
theorem dX9_set_33 : decode cX9_set 33 = .ok (.getfield 11, 3) := by decide +kernel
theorem dX9_set_36 : decode cX9_set 36 = .ok (.iload_n 1, 1) := by decide +kernel
theorem dX9_set_37 : decode cX9_set 37 = .ok (.aaload, 1) := by decide +kernel
theorem dX9_set_38 : decode cX9_set 38 = .ok (.iload_n 2, 1) := by decide +kernel
theorem dX9_set_39 : decode cX9_set 39 = .ok (.iload_n 3, 1) := by decide +kernel
theorem dX9_set_40 : decode cX9_set 40 = .ok (.invokevirtual 103, 3) := by decide +kernel
theorem dX9_set_43 : decode cX9_set 43 = .ok (.invokevirtual 96, 3) := by decide +kernel
theorem dX9_set_46 : decode cX9_set 46 = .ok (.ireturn, 1) := by decide +kernel
theorem dX9_copy_0 : decode cX9_copy 0 = .ok (.iload_n 1, 1) := by decide +kernel
theorem dX9_copy_1 : decode cX9_copy 1 = .ok (.invokestatic 79, 3) := by decide +kernel
theorem dX9_copy_4 : decode cX9_copy 4 = .ok (.ifCond .eq 10, 3) := by decide +kernel
theorem dX9_copy_7 : decode cX9_copy 7 = .ok (.iload_n 3, 1) := by decide +kernel
theorem dX9_copy_8 : decode cX9_copy 8 = .ok (.invokestatic 79, 3) := by decide +kernel
theorem dX9_copy_11 : decode cX9_copy 11 = .ok (.ifCond .ne 6, 3) := by decide +kernel
theorem dX9_copy_14 : decode cX9_copy 14 = .ok (.ldc 87, 2) := by decide +kernel
theorem dX9_copy_16 : decode cX9_copy 16 = .ok (.ireturn, 1) := by decide +kernel
theorem dX9_copy_17 : decode cX9_copy 17 = .ok (.aload_n 0, 1) := by decide +kernel
theorem dX9_copy_18 : decode cX9_copy 18 = .ok (.getfield 11, 3) := by decide +kernel
theorem dX9_copy_21 : decode cX9_copy 21 = .ok (.iload_n 1, 1) := by decide +kernel
theorem dX9_copy_22 : decode cX9_copy 22 = .ok (.aaload, 1) := by decide +kernel
theorem dX9_copy_23 : decode cX9_copy 23 = .ok (.astore 6, 2) := by decide +kernel
theorem dX9_copy_25 : decode cX9_copy 25 = .ok (.aload_n 0, 1) := by decide +kernel
theorem dX9_copy_26 : decode cX9_copy 26 = .ok (.getfield 11, 3) := by decide +kernel
theorem dX9_copy_29 : decode cX9_copy 29 = .ok (.iload_n 3, 1) := by decide +kernel
theorem dX9_copy_30 : decode cX9_copy 30 = .ok (.aaload, 1) := by decide +kernel
theorem dX9_copy_31 : decode cX9_copy 31 = .ok (.astore 7, 2) := by decide +kernel
theorem dX9_copy_33 : decode cX9_copy 33 = .ok (.aload 6, 2) := by decide +kernel
theorem dX9_copy_35 : decode cX9_copy 35 = .ok (.getfield 107, 3) := by decide +kernel
theorem dX9_copy_38 : decode cX9_copy 38 = .ok (.ifCond .eq 11, 3) := by decide +kernel
theorem dX9_copy_41 : decode cX9_copy 41 = .ok (.aload 7, 2) := by decide +kernel
theorem dX9_copy_43 : decode cX9_copy 43 = .ok (.getfield 107, 3) := by decide +kernel
theorem dX9_copy_46 : decode cX9_copy 46 = .ok (.ifCond .ne 9, 3) := by decide +kernel
theorem dX9_copy_49 : decode cX9_copy 49 = .ok (.aload_n 0, 1) := by decide +kernel
theorem dX9_copy_50 : decode cX9_copy 50 = .ok (.iconst 1, 1) := by decide +kernel
theorem dX9_copy_51 : decode cX9_copy 51 = .ok (.invokevirtual 88, 3) := by decide +kernel
theorem dX9_copy_54 : decode cX9_copy 54 = .ok (.ireturn, 1) := by decide +kernel
theorem dX9_copy_55 : decode cX9_copy 55 = .ok (.aload 6, 2) := by decide +kernel
theorem dX9_copy_57 : decode cX9_copy 57 = .ok (.getfield 111, 3) := by decide +kernel
theorem dX9_copy_60 : decode cX9_copy 60 = .ok (.aload 7, 2) := by decide +kernel
theorem dX9_copy_62 : decode cX9_copy 62 = .ok (.getfield 111, 3) := by decide +kernel
theorem dX9_copy_65 : decode cX9_copy 65 = .ok (.if_icmp .eq 9, 3) := by decide +kernel
theorem dX9_copy_68 : decode cX9_copy 68 = .ok (.aload_n 0, 1) := by decide +kernel
theorem dX9_copy_69 : decode cX9_copy 69 = .ok (.iconst 5, 1) := by decide +kernel
theorem dX9_copy_70 : decode cX9_copy 70 = .ok (.invokevirtual 88, 3) := by decide +kernel
theorem dX9_copy_73 : decode cX9_copy 73 = .ok (.ireturn, 1) := by decide +kernel
theorem dX9_copy_74 : decode cX9_copy 74 = .ok (.aload 6, 2) := by decide +kernel
theorem dX9_copy_76 : decode cX9_copy 76 = .ok (.iload_n 2, 1) := by decide +kernel
theorem dX9_copy_77 : decode cX9_copy 77 = .ok (.iload 5, 2) := by decide +kernel
theorem dX9_copy_79 : decode cX9_copy 79 = .ok (.invokevirtual 115, 3) := by decide +kernel
theorem dX9_copy_82 : decode cX9_copy 82 = .ok (.ifCond .eq 15, 3) := by decide +kernel
theorem dX9_copy_85 : decode cX9_copy 85 = .ok (.aload 7, 2) := by decide +kernel
theorem dX9_copy_87 : decode cX9_copy 87 = .ok (.iload 4, 2) := by decide +kernel
theorem dX9_copy_89 : decode cX9_copy 89 = .ok (.iload 5, 2) := by decide +kernel
theorem dX9_copy_91 : decode cX9_copy 91 = .ok (.invokevirtual 115, 3) := by decide +kernel
theorem dX9_copy_94 : decode cX9_copy 94 = .ok (.ifCond .ne 9, 3) := by decide +kernel
theorem dX9_copy_97 : decode cX9_copy 97 = .ok (.aload_n 0, 1) := by decide +kernel
theorem dX9_copy_98 : decode cX9_copy 98 = .ok (.iconst 2, 1) := by decide +kernel
theorem dX9_copy_99 : decode cX9_copy 99 = .ok (.invokevirtual 88, 3) := by decide +kernel
theorem dX9_copy_102 : decode cX9_copy 102 = .ok (.ireturn, 1) := by decide +kernel
theorem dX9_copy_103 : decode cX9_copy 103 = .ok (.aload 6, 2) := by decide +kernel
theorem dX9_copy_105 : decode cX9_copy 105 = .ok (.getfield 119, 3) := by decide +kernel
theorem dX9_copy_108 : decode cX9_copy 108 = .ok (.iload_n 2, 1) := by decide +kernel
theorem dX9_copy_109 : decode cX9_copy 109 = .ok (.aload 7, 2) := by decide +kernel
theorem dX9_copy_111 : decode cX9_copy 111 = .ok (.getfield 119, 3) := by decide +kernel
theorem dX9_copy_114 : decode cX9_copy 114 = .ok (.iload 4, 2) := by decide +kernel
theorem dX9_copy_116 : decode cX9_copy 116 = .ok (.iload 5, 2) := by decide +kernel
theorem dX9_copy_118 : decode cX9_copy 118 = .ok (.invokestatic 123, 3) := by decide +kernel
theorem dX9_copy_121 : decode cX9_copy 121 = .ok (.aload_n 0, 1) := by decide +kernel
theorem dX9_copy_122 : decode cX9_copy 122 = .ok (.iload 5, 2) := by decide +kernel
theorem dX9_copy_124 : decode cX9_copy 124 = .ok (.invokevirtual 96, 3) := by decide +kernel
theorem dX9_copy_127 : decode cX9_copy 127 = .ok (.ireturn, 1) := by decide +kernel
theorem dX9_drop_0 : decode cX9_drop 0 = .ok (.iload_n 1, 1) := by decide +kernel
theorem dX9_drop_1 : decode cX9_drop 1 = .ok (.invokestatic 79, 3) := by decide +kernel
theorem dX9_drop_4 : decode cX9_drop 4 = .ok (.ifCond .ne 6, 3) := by decide +kernel
theorem dX9_drop_7 : decode cX9_drop 7 = .ok (.ldc 87, 2) := by decide +kernel
theorem dX9_drop_9 : decode cX9_drop 9 = .ok (.ireturn, 1) := by decide +kernel
theorem dX9_drop_10 : decode cX9_drop 10 = .ok (.aload_n 0, 1) := by decide +kernel
theorem dX9_drop_11 : decode cX9_drop 11 = .ok (.getfield 11, 3) := by decide +kernel
theorem dX9_drop_14 : decode cX9_drop 14 = .ok (.iload_n 1, 1) := by decide +kernel
theorem dX9_drop_15 : decode cX9_drop 15 = .ok (.aaload, 1) := by decide +kernel
theorem dX9_drop_16 : decode cX9_drop 16 = .ok (.getfield 107, 3) := by decide +kernel
theorem dX9_drop_19 : decode cX9_drop 19 = .ok (.ifCond .ne 9, 3) := by decide +kernel
theorem dX9_drop_22 : decode cX9_drop 22 = .ok (.aload_n 0, 1) := by decide +kernel
theorem dX9_drop_23 : decode cX9_drop 23 = .ok (.iconst 1, 1) := by decide +kernel
theorem dX9_drop_24 : decode cX9_drop 24 = .ok (.invokevirtual 88, 3) := by decide +kernel
theorem dX9_drop_27 : decode cX9_drop 27 = .ok (.ireturn, 1) := by decide +kernel
theorem dX9_drop_28 : decode cX9_drop 28 = .ok (.aload_n 0, 1) := by decide +kernel
theorem dX9_drop_29 : decode cX9_drop 29 = .ok (.getfield 11, 3) := by decide +kernel
theorem dX9_drop_32 : decode cX9_drop 32 = .ok (.iload_n 1, 1) := by decide +kernel
theorem dX9_drop_33 : decode cX9_drop 33 = .ok (.aaload, 1) := by decide +kernel
theorem dX9_drop_34 : decode cX9_drop 34 = .ok (.iconst 0, 1) := by decide +kernel
theorem dX9_drop_35 : decode cX9_drop 35 = .ok (.putfield 107, 3) := by decide +kernel
theorem dX9_drop_38 : decode cX9_drop 38 = .ok (.aload_n 0, 1) := by decide +kernel
theorem dX9_drop_39 : decode cX9_drop 39 = .ok (.aload_n 0, 1) := by decide +kernel
theorem dX9_drop_40 : decode cX9_drop 40 = .ok (.getfield 11, 3) := by decide +kernel
theorem dX9_drop_43 : decode cX9_drop 43 = .ok (.iload_n 1, 1) := by decide +kernel
theorem dX9_drop_44 : decode cX9_drop 44 = .ok (.aaload, 1) := by decide +kernel
theorem dX9_drop_45 : decode cX9_drop 45 = .ok (.getfield 129, 3) := by decide +kernel
theorem dX9_drop_48 : decode cX9_drop 48 = .ok (.invokevirtual 96, 3) := by decide +kernel
theorem dX9_drop_51 : decode cX9_drop 51 = .ok (.ireturn, 1) := by decide +kernel
theorem dX9_feed_0 : decode cX9_feed 0 = .ok (.iload_n 1, 1) := by decide +kernel
theorem dX9_feed_1 : decode cX9_feed 1 = .ok (.iconst 0, 1) := by decide +kernel
theorem dX9_feed_2 : decode cX9_feed 2 = .ok (.sipush 255, 3) := by decide +kernel
theorem dX9_feed_5 : decode cX9_feed 5 = .ok (.invokestatic 83, 3) := by decide +kernel
theorem dX9_feed_8 : decode cX9_feed 8 = .ok (.ifCond .ne 6, 3) := by decide +kernel
theorem dX9_feed_11 : decode cX9_feed 11 = .ok (.ldc 87, 2) := by decide +kernel
theorem dX9_feed_13 : decode cX9_feed 13 = .ok (.ireturn, 1) := by decide +kernel
theorem dX9_feed_14 : decode cX9_feed 14 = .ok (.aload_n 0, 1) := by decide +kernel
theorem dX9_feed_15 : decode cX9_feed 15 = .ok (.getfield 64, 3) := by decide +kernel
theorem dX9_feed_18 : decode cX9_feed 18 = .ok (.iload_n 1, 1) := by decide +kernel
theorem dX9_feed_19 : decode cX9_feed 19 = .ok (.invokevirtual 132, 3) := by decide +kernel
theorem dX9_feed_22 : decode cX9_feed 22 = .ok (.ifCond .eq 13, 3) := by decide +kernel
theorem dX9_feed_25 : decode cX9_feed 25 = .ok (.aload_n 0, 1) := by decide +kernel
theorem dX9_feed_26 : decode cX9_feed 26 = .ok (.getfield 64, 3) := by decide +kernel
theorem dX9_feed_29 : decode cX9_feed 29 = .ok (.getfield 135, 3) := by decide +kernel
theorem dX9_feed_32 : decode cX9_feed 32 = .ok (.goto 5, 3) := by decide +kernel
theorem dX9_feed_35 : decode cX9_feed 35 = .ok (.ldc 138, 2) := by decide +kernel
theorem dX9_feed_37 : decode cX9_feed 37 = .ok (.ireturn, 1) := by decide +kernel
theorem dX9_duchy_0 : decode cX9_duchy 0 = .ok (.aload_n 0, 1) := by decide +kernel
theorem dX9_duchy_1 : decode cX9_duchy 1 = .ok (.getfield 64, 3) := by decide +kernel
theorem dX9_duchy_4 : decode cX9_duchy 4 = .ok (.invokevirtual 139, 3) := by decide +kernel
theorem dX9_duchy_7 : decode cX9_duchy 7 = .ok (.ifCond .ne 14, 3) := by decide +kernel
theorem dX9_duchy_10 : decode cX9_duchy 10 = .ok (.ldc 143, 2) := by decide +kernel
theorem dX9_duchy_12 : decode cX9_duchy 12 = .ok (.aload_n 0, 1) := by decide +kernel
theorem dX9_duchy_13 : decode cX9_duchy 13 = .ok (.getfield 64, 3) := by decide +kernel
theorem dX9_duchy_16 : decode cX9_duchy 16 = .ok (.getfield 144, 3) := by decide +kernel
theorem dX9_duchy_19 : decode cX9_duchy 19 = .ok (.isub, 1) := by decide +kernel
theorem dX9_duchy_20 : decode cX9_duchy 20 = .ok (.ireturn, 1) := by decide +kernel
theorem dX9_duchy_21 : decode cX9_duchy 21 = .ok (.aload_n 0, 1) := by decide +kernel
theorem dX9_duchy_22 : decode cX9_duchy 22 = .ok (.getfield 24, 3) := by decide +kernel
theorem dX9_duchy_25 : decode cX9_duchy 25 = .ok (.aload_n 0, 1) := by decide +kernel
theorem dX9_duchy_26 : decode cX9_duchy 26 = .ok (.getfield 64, 3) := by decide +kernel
theorem dX9_duchy_29 : decode cX9_duchy 29 = .ok (.getfield 147, 3) := by decide +kernel
theorem dX9_duchy_32 : decode cX9_duchy 32 = .ok (.invokevirtual 148, 3) := by decide +kernel
theorem dX9_duchy_35 : decode cX9_duchy 35 = .ok (.aload_n 0, 1) := by decide +kernel
theorem dX9_duchy_36 : decode cX9_duchy 36 = .ok (.getfield 33, 3) := by decide +kernel
theorem dX9_duchy_39 : decode cX9_duchy 39 = .ok (.aload_n 0, 1) := by decide +kernel
theorem dX9_duchy_40 : decode cX9_duchy 40 = .ok (.getfield 64, 3) := by decide +kernel
theorem dX9_duchy_43 : decode cX9_duchy 43 = .ok (.getfield 151, 3) := by decide +kernel
theorem dX9_duchy_46 : decode cX9_duchy 46 = .ok (.invokevirtual 152, 3) := by decide +kernel
theorem dX9_duchy_49 : decode cX9_duchy 49 = .ok (.aload_n 0, 1) := by decide +kernel
theorem dX9_duchy_50 : decode cX9_duchy 50 = .ok (.getfield 43, 3) := by decide +kernel
theorem dX9_duchy_53 : decode cX9_duchy 53 = .ok (.invokevirtual 155, 3) := by decide +kernel
theorem dX9_duchy_56 : decode cX9_duchy 56 = .ok (.aload_n 0, 1) := by decide +kernel
theorem dX9_duchy_57 : decode cX9_duchy 57 = .ok (.getfield 24, 3) := by decide +kernel
theorem dX9_duchy_60 : decode cX9_duchy 60 = .ok (.getfield 158, 3) := by decide +kernel
theorem dX9_duchy_63 : decode cX9_duchy 63 = .ok (.ireturn, 1) := by decide +kernel
theorem dX9_fault_0 : decode cX9_fault 0 = .ok (.aload_n 0, 1) := by decide +kernel
theorem dX9_fault_1 : decode cX9_fault 1 = .ok (.getfield 64, 3) := by decide +kernel
theorem dX9_fault_4 : decode cX9_fault 4 = .ok (.getfield 161, 3) := by decide +kernel
theorem dX9_fault_7 : decode cX9_fault 7 = .ok (.ireturn, 1) := by decide +kernel
theorem dX9_undo_0 : decode cX9_undo 0 = .ok (.aload_n 0, 1) := by decide +kernel
theorem dX9_undo_1 : decode cX9_undo 1 = .ok (.getfield 43, 3) := by decide +kernel
theorem dX9_undo_4 : decode cX9_undo 4 = .ok (.aload_n 0, 1) := by decide +kernel
theorem dX9_undo_5 : decode cX9_undo 5 = .ok (.getfield 33, 3) := by decide +kernel
theorem dX9_undo_8 : decode cX9_undo 8 = .ok (.invokevirtual 164, 3) := by decide +kernel
theorem dX9_undo_11 : decode cX9_undo 11 = .ok (.ifCond .eq 13, 3) := by decide +kernel
theorem dX9_undo_14 : decode cX9_undo 14 = .ok (.aload_n 0, 1) := by decide +kernel
theorem dX9_undo_15 : decode cX9_undo 15 = .ok (.getfield 43, 3) := by decide +kernel
theorem dX9_undo_18 : decode cX9_undo 18 = .ok (.getfield 168, 3) := by decide +kernel
theorem dX9_undo_21 : decode cX9_undo 21 = .ok (.goto 5, 3) := by decide +kernel
theorem dX9_undo_24 : decode cX9_undo 24 = .ok (.ldc 171, 2) := by decide +kernel
theorem dX9_undo_26 : decode cX9_undo 26 = .ok (.ireturn, 1) := by decide +kernel
theorem dX9_weeks_0 : decode cX9_weeks 0 = .ok (.aload_n 0, 1) := by decide +kernel
theorem dX9_weeks_1 : decode cX9_weeks 1 = .ok (.invokevirtual 172, 3) := by decide +kernel
theorem dX9_weeks_4 : decode cX9_weeks 4 = .ok (.ifCond .eq 6, 3) := by decide +kernel
theorem dX9_weeks_7 : decode cX9_weeks 7 = .ok (.ldc 171, 2) := by decide +kernel
theorem dX9_weeks_9 : decode cX9_weeks 9 = .ok (.ireturn, 1) := by decide +kernel
theorem dX9_weeks_10 : decode cX9_weeks 10 = .ok (.iload_n 1, 1) := by decide +kernel
theorem dX9_weeks_11 : decode cX9_weeks 11 = .ok (.iconst 1, 1) := by decide +kernel
theorem dX9_weeks_12 : decode cX9_weeks 12 = .ok (.bipush 24, 2) := by decide +kernel
theorem dX9_weeks_14 : decode cX9_weeks 14 = .ok (.invokestatic 83, 3) := by decide +kernel
theorem dX9_weeks_17 : decode cX9_weeks 17 = .ok (.ifCond .ne 6, 3) := by decide +kernel
theorem dX9_weeks_20 : decode cX9_weeks 20 = .ok (.ldc 87, 2) := by decide +kernel
theorem dX9_weeks_22 : decode cX9_weeks 22 = .ok (.ireturn, 1) := by decide +kernel
theorem dX9_weeks_23 : decode cX9_weeks 23 = .ok (.aload_n 0, 1) := by decide +kernel
theorem dX9_weeks_24 : decode cX9_weeks 24 = .ok (.getfield 33, 3) := by decide +kernel
theorem dX9_weeks_27 : decode cX9_weeks 27 = .ok (.getfield 175, 3) := by decide +kernel
theorem dX9_weeks_30 : decode cX9_weeks 30 = .ok (.iload_n 1, 1) := by decide +kernel
theorem dX9_weeks_31 : decode cX9_weeks 31 = .ok (.iadd, 1) := by decide +kernel
theorem dX9_weeks_32 : decode cX9_weeks 32 = .ok (.sipush 999, 3) := by decide +kernel
theorem dX9_weeks_35 : decode cX9_weeks 35 = .ok (.if_icmp .le 6, 3) := by decide +kernel
theorem dX9_weeks_38 : decode cX9_weeks 38 = .ok (.ldc 138, 2) := by decide +kernel
theorem dX9_weeks_40 : decode cX9_weeks 40 = .ok (.ireturn, 1) := by decide +kernel
theorem dX9_weeks_41 : decode cX9_weeks 41 = .ok (.iconst 0, 1) := by decide +kernel
theorem dX9_weeks_42 : decode cX9_weeks 42 = .ok (.istore_n 2, 1) := by decide +kernel
theorem dX9_weeks_43 : decode cX9_weeks 43 = .ok (.iload_n 2, 1) := by decide +kernel
theorem dX9_weeks_44 : decode cX9_weeks 44 = .ok (.iload_n 1, 1) := by decide +kernel
theorem dX9_weeks_45 : decode cX9_weeks 45 = .ok (.if_icmp .ge 28, 3) := by decide +kernel
theorem dX9_weeks_48 : decode cX9_weeks 48 = .ok (.aload_n 0, 1) := by decide +kernel
theorem dX9_weeks_49 : decode cX9_weeks 49 = .ok (.getfield 43, 3) := by decide +kernel
theorem dX9_weeks_52 : decode cX9_weeks 52 = .ok (.aload_n 0, 1) := by decide +kernel
theorem dX9_weeks_53 : decode cX9_weeks 53 = .ok (.getfield 33, 3) := by decide +kernel
theorem dX9_weeks_56 : decode cX9_weeks 56 = .ok (.invokevirtual 178, 3) := by decide +kernel
theorem dX9_weeks_59 : decode cX9_weeks 59 = .ok (.aload_n 0, 1) := by decide +kernel
theorem dX9_weeks_60 : decode cX9_weeks 60 = .ok (.getfield 33, 3) := by decide +kernel
theorem dX9_weeks_63 : decode cX9_weeks 63 = .ok (.iconst 1, 1) := by decide +kernel
theorem dX9_weeks_64 : decode cX9_weeks 64 = .ok (.invokevirtual 181, 3) := by decide +kernel
theorem dX9_weeks_67 : decode cX9_weeks 67 = .ok (.iinc 2 1, 3) := by decide +kernel
theorem dX9_weeks_70 : decode cX9_weeks 70 = .ok (.goto (-27), 3) := by decide +kernel
theorem dX9_weeks_73 : decode cX9_weeks 73 = .ok (.aload_n 0, 1) := by decide +kernel
theorem dX9_weeks_74 : decode cX9_weeks 74 = .ok (.getfield 33, 3) := by decide +kernel
theorem dX9_weeks_77 : decode cX9_weeks 77 = .ok (.getfield 185, 3) := by decide +kernel
theorem dX9_weeks_80 : decode cX9_weeks 80 = .ok (.ireturn, 1) := by decide +kernel
theorem dX9_say_0 : decode cX9_say 0 = .ok (.aload_n 0, 1) := by decide +kernel
theorem dX9_say_1 : decode cX9_say 1 = .ok (.getfield 24, 3) := by decide +kernel
theorem dX9_say_4 : decode cX9_say 4 = .ok (.iload_n 1, 1) := by decide +kernel
theorem dX9_say_5 : decode cX9_say 5 = .ok (.invokevirtual 188, 3) := by decide +kernel
theorem dX9_say_8 : decode cX9_say 8 = .ok (.ifCond .ne 6, 3) := by decide +kernel
theorem dX9_say_11 : decode cX9_say 11 = .ok (.ldc 87, 2) := by decide +kernel
theorem dX9_say_13 : decode cX9_say 13 = .ok (.ireturn, 1) := by decide +kernel
theorem dX9_say_14 : decode cX9_say 14 = .ok (.aload_n 0, 1) := by decide +kernel
theorem dX9_say_15 : decode cX9_say 15 = .ok (.getfield 33, 3) := by decide +kernel
theorem dX9_say_18 : decode cX9_say 18 = .ok (.iload_n 1, 1) := by decide +kernel
theorem dX9_say_19 : decode cX9_say 19 = .ok (.invokevirtual 191, 3) := by decide +kernel
theorem dX9_say_22 : decode cX9_say 22 = .ok (.ifCond .ne 6, 3) := by decide +kernel
theorem dX9_say_25 : decode cX9_say 25 = .ok (.ldc 171, 2) := by decide +kernel
theorem dX9_say_27 : decode cX9_say 27 = .ok (.ireturn, 1) := by decide +kernel
theorem dX9_say_28 : decode cX9_say 28 = .ok (.aload_n 0, 1) := by decide +kernel
theorem dX9_say_29 : decode cX9_say 29 = .ok (.getfield 43, 3) := by decide +kernel
theorem dX9_say_32 : decode cX9_say 32 = .ok (.aload_n 0, 1) := by decide +kernel
theorem dX9_say_33 : decode cX9_say 33 = .ok (.getfield 33, 3) := by decide +kernel
theorem dX9_say_36 : decode cX9_say 36 = .ok (.invokevirtual 178, 3) := by decide +kernel
theorem dX9_say_39 : decode cX9_say 39 = .ok (.aload_n 0, 1) := by decide +kernel
theorem dX9_say_40 : decode cX9_say 40 = .ok (.getfield 33, 3) := by decide +kernel
theorem dX9_say_43 : decode cX9_say 43 = .ok (.iload_n 1, 1) := by decide +kernel
theorem dX9_say_44 : decode cX9_say 44 = .ok (.invokevirtual 194, 3) := by decide +kernel
theorem dX9_say_47 : decode cX9_say 47 = .ok (.ireturn, 1) := by decide +kernel
theorem dX9_buy_0 : decode cX9_buy 0 = .ok (.aload_n 0, 1) := by decide +kernel
theorem dX9_buy_1 : decode cX9_buy 1 = .ok (.getfield 24, 3) := by decide +kernel
theorem dX9_buy_4 : decode cX9_buy 4 = .ok (.iload_n 1, 1) := by decide +kernel
theorem dX9_buy_5 : decode cX9_buy 5 = .ok (.invokevirtual 197, 3) := by decide +kernel
theorem dX9_buy_8 : decode cX9_buy 8 = .ok (.ifCond .eq 13, 3) := by decide +kernel
theorem dX9_buy_11 : decode cX9_buy 11 = .ok (.iload_n 2, 1) := by decide +kernel
theorem dX9_buy_12 : decode cX9_buy 12 = .ok (.iconst 1, 1) := by decide +kernel
theorem dX9_buy_13 : decode cX9_buy 13 = .ok (.bipush 60, 2) := by decide +kernel
theorem dX9_buy_15 : decode cX9_buy 15 = .ok (.invokestatic 83, 3) := by decide +kernel
theorem dX9_buy_18 : decode cX9_buy 18 = .ok (.ifCond .ne 6, 3) := by decide +kernel
theorem dX9_buy_21 : decode cX9_buy 21 = .ok (.ldc 87, 2) := by decide +kernel
theorem dX9_buy_23 : decode cX9_buy 23 = .ok (.ireturn, 1) := by decide +kernel
theorem dX9_buy_24 : decode cX9_buy 24 = .ok (.aload_n 0, 1) := by decide +kernel
theorem dX9_buy_25 : decode cX9_buy 25 = .ok (.getfield 33, 3) := by decide +kernel
theorem dX9_buy_28 : decode cX9_buy 28 = .ok (.iload_n 1, 1) := by decide +kernel
theorem dX9_buy_29 : decode cX9_buy 29 = .ok (.iload_n 2, 1) := by decide +kernel
theorem dX9_buy_30 : decode cX9_buy 30 = .ok (.invokevirtual 200, 3) := by decide +kernel
theorem dX9_buy_33 : decode cX9_buy 33 = .ok (.ifCond .ne 6, 3) := by decide +kernel
theorem dX9_buy_36 : decode cX9_buy 36 = .ok (.ldc 171, 2) := by decide +kernel
theorem dX9_buy_38 : decode cX9_buy 38 = .ok (.ireturn, 1) := by decide +kernel
theorem dX9_buy_39 : decode cX9_buy 39 = .ok (.aload_n 0, 1) := by decide +kernel
theorem dX9_buy_40 : decode cX9_buy 40 = .ok (.getfield 43, 3) := by decide +kernel
theorem dX9_buy_43 : decode cX9_buy 43 = .ok (.aload_n 0, 1) := by decide +kernel
theorem dX9_buy_44 : decode cX9_buy 44 = .ok (.getfield 33, 3) := by decide +kernel
theorem dX9_buy_47 : decode cX9_buy 47 = .ok (.invokevirtual 178, 3) := by decide +kernel
theorem dX9_buy_50 : decode cX9_buy 50 = .ok (.aload_n 0, 1) := by decide +kernel
theorem dX9_buy_51 : decode cX9_buy 51 = .ok (.getfield 33, 3) := by decide +kernel
theorem dX9_buy_54 : decode cX9_buy 54 = .ok (.iload_n 1, 1) := by decide +kernel
theorem dX9_buy_55 : decode cX9_buy 55 = .ok (.iload_n 2, 1) := by decide +kernel
theorem dX9_buy_56 : decode cX9_buy 56 = .ok (.invokevirtual 203, 3) := by decide +kernel
theorem dX9_buy_59 : decode cX9_buy 59 = .ok (.ireturn, 1) := by decide +kernel
theorem dX9_letOut_0 : decode cX9_letOut 0 = .ok (.aload_n 0, 1) := by decide +kernel
theorem dX9_letOut_1 : decode cX9_letOut 1 = .ok (.invokevirtual 172, 3) := by decide +kernel
theorem dX9_letOut_4 : decode cX9_letOut 4 = .ok (.ifCond .eq 6, 3) := by decide +kernel
theorem dX9_letOut_7 : decode cX9_letOut 7 = .ok (.ldc 171, 2) := by decide +kernel
theorem dX9_letOut_9 : decode cX9_letOut 9 = .ok (.ireturn, 1) := by decide +kernel
theorem dX9_letOut_10 : decode cX9_letOut 10 = .ok (.iload_n 1, 1) := by decide +kernel
theorem dX9_letOut_11 : decode cX9_letOut 11 = .ok (.iconst 1, 1) := by decide +kernel
theorem dX9_letOut_12 : decode cX9_letOut 12 = .ok (.bipush 99, 2) := by decide +kernel
theorem dX9_letOut_14 : decode cX9_letOut 14 = .ok (.invokestatic 83, 3) := by decide +kernel
theorem dX9_letOut_17 : decode cX9_letOut 17 = .ok (.ifCond .ne 6, 3) := by decide +kernel
theorem dX9_letOut_20 : decode cX9_letOut 20 = .ok (.ldc 87, 2) := by decide +kernel
theorem dX9_letOut_22 : decode cX9_letOut 22 = .ok (.ireturn, 1) := by decide +kernel
theorem dX9_letOut_23 : decode cX9_letOut 23 = .ok (.iload_n 1, 1) := by decide +kernel
theorem dX9_letOut_24 : decode cX9_letOut 24 = .ok (.aload_n 0, 1) := by decide +kernel
theorem dX9_letOut_25 : decode cX9_letOut 25 = .ok (.getfield 33, 3) := by decide +kernel
theorem dX9_letOut_28 : decode cX9_letOut 28 = .ok (.getfield 185, 3) := by decide +kernel
theorem dX9_letOut_31 : decode cX9_letOut 31 = .ok (.if_icmp .gt 17, 3) := by decide +kernel
theorem dX9_letOut_34 : decode cX9_letOut 34 = .ok (.aload_n 0, 1) := by decide +kernel
theorem dX9_letOut_35 : decode cX9_letOut 35 = .ok (.getfield 33, 3) := by decide +kernel
theorem dX9_letOut_38 : decode cX9_letOut 38 = .ok (.getfield 206, 3) := by decide +kernel
theorem dX9_letOut_41 : decode cX9_letOut 41 = .ok (.iload_n 1, 1) := by decide +kernel
theorem dX9_letOut_42 : decode cX9_letOut 42 = .ok (.iadd, 1) := by decide +kernel
theorem dX9_letOut_43 : decode cX9_letOut 43 = .ok (.bipush 99, 2) := by decide +kernel
theorem dX9_letOut_45 : decode cX9_letOut 45 = .ok (.if_icmp .le 6, 3) := by decide +kernel
theorem dX9_letOut_48 : decode cX9_letOut 48 = .ok (.ldc 171, 2) := by decide +kernel
theorem dX9_letOut_50 : decode cX9_letOut 50 = .ok (.ireturn, 1) := by decide +kernel
theorem dX9_letOut_51 : decode cX9_letOut 51 = .ok (.aload_n 0, 1) := by decide +kernel
theorem dX9_letOut_52 : decode cX9_letOut 52 = .ok (.getfield 43, 3) := by decide +kernel
theorem dX9_letOut_55 : decode cX9_letOut 55 = .ok (.aload_n 0, 1) := by decide +kernel
theorem dX9_letOut_56 : decode cX9_letOut 56 = .ok (.getfield 33, 3) := by decide +kernel
theorem dX9_letOut_59 : decode cX9_letOut 59 = .ok (.invokevirtual 178, 3) := by decide +kernel
theorem dX9_letOut_62 : decode cX9_letOut 62 = .ok (.aload_n 0, 1) := by decide +kernel
theorem dX9_letOut_63 : decode cX9_letOut 63 = .ok (.getfield 33, 3) := by decide +kernel
theorem dX9_letOut_66 : decode cX9_letOut 66 = .ok (.dup, 1) := by decide +kernel
theorem dX9_letOut_67 : decode cX9_letOut 67 = .ok (.getfield 185, 3) := by decide +kernel
theorem dX9_letOut_70 : decode cX9_letOut 70 = .ok (.iload_n 1, 1) := by decide +kernel
theorem dX9_letOut_71 : decode cX9_letOut 71 = .ok (.isub, 1) := by decide +kernel
theorem dX9_letOut_72 : decode cX9_letOut 72 = .ok (.putfield 185, 3) := by decide +kernel
theorem dX9_letOut_75 : decode cX9_letOut 75 = .ok (.aload_n 0, 1) := by decide +kernel
theorem dX9_letOut_76 : decode cX9_letOut 76 = .ok (.getfield 33, 3) := by decide +kernel
theorem dX9_letOut_79 : decode cX9_letOut 79 = .ok (.dup, 1) := by decide +kernel
theorem dX9_letOut_80 : decode cX9_letOut 80 = .ok (.getfield 206, 3) := by decide +kernel
theorem dX9_letOut_83 : decode cX9_letOut 83 = .ok (.iload_n 1, 1) := by decide +kernel
theorem dX9_letOut_84 : decode cX9_letOut 84 = .ok (.iadd, 1) := by decide +kernel
theorem dX9_letOut_85 : decode cX9_letOut 85 = .ok (.putfield 206, 3) := by decide +kernel
theorem dX9_letOut_88 : decode cX9_letOut 88 = .ok (.aload_n 0, 1) := by decide +kernel
theorem dX9_letOut_89 : decode cX9_letOut 89 = .ok (.getfield 33, 3) := by decide +kernel
theorem dX9_letOut_92 : decode cX9_letOut 92 = .ok (.getfield 206, 3) := by decide +kernel
theorem dX9_letOut_95 : decode cX9_letOut 95 = .ok (.ireturn, 1) := by decide +kernel
theorem dX9_price_0 : decode cX9_price 0 = .ok (.aload_n 0, 1) := by decide +kernel
theorem dX9_price_1 : decode cX9_price 1 = .ok (.invokevirtual 172, 3) := by decide +kernel
theorem dX9_price_4 : decode cX9_price 4 = .ok (.ifCond .eq 6, 3) := by decide +kernel
theorem dX9_price_7 : decode cX9_price 7 = .ok (.ldc 171, 2) := by decide +kernel
theorem dX9_price_9 : decode cX9_price 9 = .ok (.ireturn, 1) := by decide +kernel
theorem dX9_price_10 : decode cX9_price 10 = .ok (.iload_n 1, 1) := by decide +kernel
theorem dX9_price_11 : decode cX9_price 11 = .ok (.iconst 1, 1) := by decide +kernel
theorem dX9_price_12 : decode cX9_price 12 = .ok (.bipush 9, 2) := by decide +kernel
theorem dX9_price_14 : decode cX9_price 14 = .ok (.invokestatic 83, 3) := by decide +kernel
theorem dX9_price_17 : decode cX9_price 17 = .ok (.ifCond .ne 6, 3) := by decide +kernel
theorem dX9_price_20 : decode cX9_price 20 = .ok (.ldc 87, 2) := by decide +kernel
theorem dX9_price_22 : decode cX9_price 22 = .ok (.ireturn, 1) := by decide +kernel
theorem dX9_price_23 : decode cX9_price 23 = .ok (.aload_n 0, 1) := by decide +kernel
theorem dX9_price_24 : decode cX9_price 24 = .ok (.getfield 43, 3) := by decide +kernel
theorem dX9_price_27 : decode cX9_price 27 = .ok (.aload_n 0, 1) := by decide +kernel
theorem dX9_price_28 : decode cX9_price 28 = .ok (.getfield 33, 3) := by decide +kernel
theorem dX9_price_31 : decode cX9_price 31 = .ok (.invokevirtual 178, 3) := by decide +kernel
theorem dX9_price_34 : decode cX9_price 34 = .ok (.aload_n 0, 1) := by decide +kernel
theorem dX9_price_35 : decode cX9_price 35 = .ok (.getfield 33, 3) := by decide +kernel
theorem dX9_price_38 : decode cX9_price 38 = .ok (.getfield 209, 3) := by decide +kernel
theorem dX9_price_41 : decode cX9_price 41 = .ok (.istore_n 2, 1) := by decide +kernel
theorem dX9_price_42 : decode cX9_price 42 = .ok (.aload_n 0, 1) := by decide +kernel
theorem dX9_price_43 : decode cX9_price 43 = .ok (.getfield 33, 3) := by decide +kernel
theorem dX9_price_46 : decode cX9_price 46 = .ok (.iload_n 1, 1) := by decide +kernel
theorem dX9_price_47 : decode cX9_price 47 = .ok (.putfield 209, 3) := by decide +kernel
theorem dX9_price_50 : decode cX9_price 50 = .ok (.iload_n 2, 1) := by decide +kernel
theorem dX9_price_51 : decode cX9_price 51 = .ok (.ireturn, 1) := by decide +kernel
theorem dX9_speech_0 : decode cX9_speech 0 = .ok (.aload_n 0, 1) := by decide +kernel
theorem dX9_speech_1 : decode cX9_speech 1 = .ok (.getfield 24, 3) := by decide +kernel
theorem dX9_speech_4 : decode cX9_speech 4 = .ok (.iload_n 1, 1) := by decide +kernel
theorem dX9_speech_5 : decode cX9_speech 5 = .ok (.invokevirtual 188, 3) := by decide +kernel
theorem dX9_speech_8 : decode cX9_speech 8 = .ok (.ifCond .ne 6, 3) := by decide +kernel
theorem dX9_speech_11 : decode cX9_speech 11 = .ok (.ldc 87, 2) := by decide +kernel
theorem dX9_speech_13 : decode cX9_speech 13 = .ok (.ireturn, 1) := by decide +kernel
theorem dX9_speech_14 : decode cX9_speech 14 = .ok (.iload_n 2, 1) := by decide +kernel
theorem dX9_speech_15 : decode cX9_speech 15 = .ok (.tableswitch 168 0 8 #[49, 59, 69, 97, 106, 115, 132, 142, 151], 49) := by decide +kernel
theorem dX9_speech_64 : decode cX9_speech 64 = .ok (.aload_n 0, 1) := by decide +kernel
theorem dX9_speech_65 : decode cX9_speech 65 = .ok (.getfield 24, 3) := by decide +kernel
theorem dX9_speech_68 : decode cX9_speech 68 = .ok (.getfield 212, 3) := by decide +kernel
theorem dX9_speech_71 : decode cX9_speech 71 = .ok (.iload_n 1, 1) := by decide +kernel
theorem dX9_speech_72 : decode cX9_speech 72 = .ok (.iaload, 1) := by decide +kernel
theorem dX9_speech_73 : decode cX9_speech 73 = .ok (.ireturn, 1) := by decide +kernel
theorem dX9_speech_74 : decode cX9_speech 74 = .ok (.aload_n 0, 1) := by decide +kernel
theorem dX9_speech_75 : decode cX9_speech 75 = .ok (.getfield 24, 3) := by decide +kernel
theorem dX9_speech_78 : decode cX9_speech 78 = .ok (.getfield 215, 3) := by decide +kernel
theorem dX9_speech_81 : decode cX9_speech 81 = .ok (.iload_n 1, 1) := by decide +kernel
theorem dX9_speech_82 : decode cX9_speech 82 = .ok (.iaload, 1) := by decide +kernel
theorem dX9_speech_83 : decode cX9_speech 83 = .ok (.ireturn, 1) := by decide +kernel
theorem dX9_speech_84 : decode cX9_speech 84 = .ok (.aload_n 0, 1) := by decide +kernel
theorem dX9_speech_85 : decode cX9_speech 85 = .ok (.getfield 24, 3) := by decide +kernel
theorem dX9_speech_88 : decode cX9_speech 88 = .ok (.getfield 218, 3) := by decide +kernel
theorem dX9_speech_91 : decode cX9_speech 91 = .ok (.iload_n 1, 1) := by decide +kernel
theorem dX9_speech_92 : decode cX9_speech 92 = .ok (.iaload, 1) := by decide +kernel
theorem dX9_speech_93 : decode cX9_speech 93 = .ok (.iload_n 1, 1) := by decide +kernel
theorem dX9_speech_94 : decode cX9_speech 94 = .ok (.if_icmp .ne 8, 3) := by decide +kernel
theorem dX9_speech_97 : decode cX9_speech 97 = .ok (.ldc 221, 2) := by decide +kernel
theorem dX9_speech_99 : decode cX9_speech 99 = .ok (.goto 12, 3) := by decide +kernel
theorem dX9_speech_102 : decode cX9_speech 102 = .ok (.aload_n 0, 1) := by decide +kernel
theorem dX9_speech_103 : decode cX9_speech 103 = .ok (.getfield 24, 3) := by decide +kernel
theorem dX9_speech_106 : decode cX9_speech 106 = .ok (.getfield 218, 3) := by decide +kernel
theorem dX9_speech_109 : decode cX9_speech 109 = .ok (.iload_n 1, 1) := by decide +kernel
theorem dX9_speech_110 : decode cX9_speech 110 = .ok (.iaload, 1) := by decide +kernel
theorem dX9_speech_111 : decode cX9_speech 111 = .ok (.ireturn, 1) := by decide +kernel
theorem dX9_speech_112 : decode cX9_speech 112 = .ok (.aload_n 0, 1) := by decide +kernel
theorem dX9_speech_113 : decode cX9_speech 113 = .ok (.getfield 24, 3) := by decide +kernel
theorem dX9_speech_116 : decode cX9_speech 116 = .ok (.iload_n 1, 1) := by decide +kernel
theorem dX9_speech_117 : decode cX9_speech 117 = .ok (.invokevirtual 222, 3) := by decide +kernel
theorem dX9_speech_120 : decode cX9_speech 120 = .ok (.ireturn, 1) := by decide +kernel
theorem dX9_speech_121 : decode cX9_speech 121 = .ok (.aload_n 0, 1) := by decide +kernel
theorem dX9_speech_122 : decode cX9_speech 122 = .ok (.getfield 33, 3) := by decide +kernel
theorem dX9_speech_125 : decode cX9_speech 125 = .ok (.iload_n 1, 1) := by decide +kernel
theorem dX9_speech_126 : decode cX9_speech 126 = .ok (.invokevirtual 225, 3) := by decide +kernel
theorem dX9_speech_129 : decode cX9_speech 129 = .ok (.ireturn, 1) := by decide +kernel
theorem dX9_speech_130 : decode cX9_speech 130 = .ok (.aload_n 0, 1) := by decide +kernel
theorem dX9_speech_131 : decode cX9_speech 131 = .ok (.getfield 33, 3) := by decide +kernel
theorem dX9_speech_134 : decode cX9_speech 134 = .ok (.iload_n 1, 1) := by decide +kernel
theorem dX9_speech_135 : decode cX9_speech 135 = .ok (.invokevirtual 191, 3) := by decide +kernel
theorem dX9_speech_138 : decode cX9_speech 138 = .ok (.ifCond .eq 7, 3) := by decide +kernel
theorem dX9_speech_141 : decode cX9_speech 141 = .ok (.iconst 1, 1) := by decide +kernel
theorem dX9_speech_142 : decode cX9_speech 142 = .ok (.goto 4, 3) := by decide +kernel
theorem dX9_speech_145 : decode cX9_speech 145 = .ok (.iconst 0, 1) := by decide +kernel
theorem dX9_speech_146 : decode cX9_speech 146 = .ok (.ireturn, 1) := by decide +kernel
theorem dX9_speech_147 : decode cX9_speech 147 = .ok (.aload_n 0, 1) := by decide +kernel
theorem dX9_speech_148 : decode cX9_speech 148 = .ok (.getfield 33, 3) := by decide +kernel
theorem dX9_speech_151 : decode cX9_speech 151 = .ok (.getfield 228, 3) := by decide +kernel
theorem dX9_speech_154 : decode cX9_speech 154 = .ok (.iload_n 1, 1) := by decide +kernel
theorem dX9_speech_155 : decode cX9_speech 155 = .ok (.iaload, 1) := by decide +kernel
theorem dX9_speech_156 : decode cX9_speech 156 = .ok (.ireturn, 1) := by decide +kernel
theorem dX9_speech_157 : decode cX9_speech 157 = .ok (.aload_n 0, 1) := by decide +kernel
theorem dX9_speech_158 : decode cX9_speech 158 = .ok (.getfield 33, 3) := by decide +kernel
theorem dX9_speech_161 : decode cX9_speech 161 = .ok (.iload_n 1, 1) := by decide +kernel
theorem dX9_speech_162 : decode cX9_speech 162 = .ok (.invokevirtual 231, 3) := by decide +kernel
theorem dX9_speech_165 : decode cX9_speech 165 = .ok (.ireturn, 1) := by decide +kernel
theorem dX9_speech_166 : decode cX9_speech 166 = .ok (.aload_n 0, 1) := by decide +kernel
theorem dX9_speech_167 : decode cX9_speech 167 = .ok (.getfield 33, 3) := by decide +kernel
theorem dX9_speech_170 : decode cX9_speech 170 = .ok (.iload_n 1, 1) := by decide +kernel
theorem dX9_speech_171 : decode cX9_speech 171 = .ok (.invokevirtual 234, 3) := by decide +kernel
theorem dX9_speech_174 : decode cX9_speech 174 = .ok (.ifCond .eq 7, 3) := by decide +kernel
theorem dX9_speech_177 : decode cX9_speech 177 = .ok (.iconst 1, 1) := by decide +kernel
theorem dX9_speech_178 : decode cX9_speech 178 = .ok (.goto 4, 3) := by decide +kernel
theorem dX9_speech_181 : decode cX9_speech 181 = .ok (.iconst 0, 1) := by decide +kernel
theorem dX9_speech_182 : decode cX9_speech 182 = .ok (.ireturn, 1) := by decide +kernel
theorem dX9_speech_183 : decode cX9_speech 183 = .ok (.ldc 87, 2) := by decide +kernel
theorem dX9_speech_185 : decode cX9_speech 185 = .ok (.ireturn, 1) := by decide +kernel
theorem dX9_person_0 : decode cX9_person 0 = .ok (.aload_n 0, 1) := by decide +kernel
theorem dX9_person_1 : decode cX9_person 1 = .ok (.getfield 24, 3) := by decide +kernel
theorem dX9_person_4 : decode cX9_person 4 = .ok (.iload_n 1, 1) := by decide +kernel
theorem dX9_person_5 : decode cX9_person 5 = .ok (.invokevirtual 197, 3) := by decide +kernel
theorem dX9_person_8 : decode cX9_person 8 = .ok (.ifCond .ne 6, 3) := by decide +kernel
theorem dX9_person_11 : decode cX9_person 11 = .ok (.ldc 87, 2) := by decide +kernel
theorem dX9_person_13 : decode cX9_person 13 = .ok (.ireturn, 1) := by decide +kernel
theorem dX9_person_14 : decode cX9_person 14 = .ok (.iload_n 2, 1) := by decide +kernel
theorem dX9_person_15 : decode cX9_person 15 = .ok (.tableswitch 83 0 4 #[33, 43, 53, 63, 72], 33) := by decide +kernel
theorem dX9_person_48 : decode cX9_person 48 = .ok (.aload_n 0, 1) := by decide +kernel
theorem dX9_person_49 : decode cX9_person 49 = .ok (.getfield 33, 3) := by decide +kernel
theorem dX9_person_52 : decode cX9_person 52 = .ok (.getfield 237, 3) := by decide +kernel
theorem dX9_person_55 : decode cX9_person 55 = .ok (.iload_n 1, 1) := by decide +kernel
theorem dX9_person_56 : decode cX9_person 56 = .ok (.iaload, 1) := by decide +kernel
theorem dX9_person_57 : decode cX9_person 57 = .ok (.ireturn, 1) := by decide +kernel
theorem dX9_person_58 : decode cX9_person 58 = .ok (.aload_n 0, 1) := by decide +kernel
theorem dX9_person_59 : decode cX9_person 59 = .ok (.getfield 24, 3) := by decide +kernel
theorem dX9_person_62 : decode cX9_person 62 = .ok (.getfield 240, 3) := by decide +kernel
theorem dX9_person_65 : decode cX9_person 65 = .ok (.iload_n 1, 1) := by decide +kernel
theorem dX9_person_66 : decode cX9_person 66 = .ok (.iaload, 1) := by decide +kernel
theorem dX9_person_67 : decode cX9_person 67 = .ok (.ireturn, 1) := by decide +kernel
theorem dX9_person_68 : decode cX9_person 68 = .ok (.aload_n 0, 1) := by decide +kernel
theorem dX9_person_69 : decode cX9_person 69 = .ok (.getfield 33, 3) := by decide +kernel
theorem dX9_person_72 : decode cX9_person 72 = .ok (.getfield 243, 3) := by decide +kernel
theorem dX9_person_75 : decode cX9_person 75 = .ok (.iload_n 1, 1) := by decide +kernel
theorem dX9_person_76 : decode cX9_person 76 = .ok (.iaload, 1) := by decide +kernel
theorem dX9_person_77 : decode cX9_person 77 = .ok (.ireturn, 1) := by decide +kernel
theorem dX9_person_78 : decode cX9_person 78 = .ok (.aload_n 0, 1) := by decide +kernel
theorem dX9_person_79 : decode cX9_person 79 = .ok (.getfield 33, 3) := by decide +kernel
theorem dX9_person_82 : decode cX9_person 82 = .ok (.iload_n 1, 1) := by decide +kernel
theorem dX9_person_83 : decode cX9_person 83 = .ok (.invokevirtual 246, 3) := by decide +kernel
theorem dX9_person_86 : decode cX9_person 86 = .ok (.ireturn, 1) := by decide +kernel
theorem dX9_person_87 : decode cX9_person 87 = .ok (.aload_n 0, 1) := by decide +kernel
theorem dX9_person_88 : decode cX9_person 88 = .ok (.getfield 33, 3) := by decide +kernel
theorem dX9_person_91 : decode cX9_person 91 = .ok (.iconst 1, 1) := by decide +kernel
theorem dX9_person_92 : decode cX9_person 92 = .ok (.iload_n 1, 1) := by decide +kernel
theorem dX9_person_93 : decode cX9_person 93 = .ok (.ishl, 1) := by decide +kernel
theorem dX9_person_94 : decode cX9_person 94 = .ok (.invokevirtual 249, 3) := by decide +kernel
theorem dX9_person_97 : decode cX9_person 97 = .ok (.ireturn, 1) := by decide +kernel
theorem dX9_person_98 : decode cX9_person 98 = .ok (.ldc 87, 2) := by decide +kernel
theorem dX9_person_100 : decode cX9_person 100 = .ok (.ireturn, 1) := by decide +kernel
theorem dX9_stand_0 : decode cX9_stand 0 = .ok (.aload_n 0, 1) := by decide +kernel
theorem dX9_stand_1 : decode cX9_stand 1 = .ok (.invokevirtual 172, 3) := by decide +kernel
theorem dX9_stand_4 : decode cX9_stand 4 = .ok (.ifCond .eq 6, 3) := by decide +kernel
theorem dX9_stand_7 : decode cX9_stand 7 = .ok (.ldc 171, 2) := by decide +kernel
theorem dX9_stand_9 : decode cX9_stand 9 = .ok (.ireturn, 1) := by decide +kernel
theorem dX9_stand_10 : decode cX9_stand 10 = .ok (.iload_n 1, 1) := by decide +kernel
theorem dX9_stand_11 : decode cX9_stand 11 = .ok (.tableswitch 73 0 4 #[33, 41, 49, 57, 65], 33) := by decide +kernel
theorem dX9_stand_44 : decode cX9_stand 44 = .ok (.aload_n 0, 1) := by decide +kernel
theorem dX9_stand_45 : decode cX9_stand 45 = .ok (.getfield 33, 3) := by decide +kernel
theorem dX9_stand_48 : decode cX9_stand 48 = .ok (.getfield 206, 3) := by decide +kernel
theorem dX9_stand_51 : decode cX9_stand 51 = .ok (.ireturn, 1) := by decide +kernel
theorem dX9_stand_52 : decode cX9_stand 52 = .ok (.aload_n 0, 1) := by decide +kernel
theorem dX9_stand_53 : decode cX9_stand 53 = .ok (.getfield 33, 3) := by decide +kernel
theorem dX9_stand_56 : decode cX9_stand 56 = .ok (.getfield 185, 3) := by decide +kernel
theorem dX9_stand_59 : decode cX9_stand 59 = .ok (.ireturn, 1) := by decide +kernel
theorem dX9_stand_60 : decode cX9_stand 60 = .ok (.aload_n 0, 1) := by decide +kernel
theorem dX9_stand_61 : decode cX9_stand 61 = .ok (.getfield 33, 3) := by decide +kernel
theorem dX9_stand_64 : decode cX9_stand 64 = .ok (.getfield 209, 3) := by decide +kernel
theorem dX9_stand_67 : decode cX9_stand 67 = .ok (.ireturn, 1) := by decide +kernel
theorem dX9_stand_68 : decode cX9_stand 68 = .ok (.aload_n 0, 1) := by decide +kernel
theorem dX9_stand_69 : decode cX9_stand 69 = .ok (.getfield 24, 3) := by decide +kernel
theorem dX9_stand_72 : decode cX9_stand 72 = .ok (.getfield 252, 3) := by decide +kernel
theorem dX9_stand_75 : decode cX9_stand 75 = .ok (.ireturn, 1) := by decide +kernel
theorem dX9_stand_76 : decode cX9_stand 76 = .ok (.aload_n 0, 1) := by decide +kernel
theorem dX9_stand_77 : decode cX9_stand 77 = .ok (.getfield 33, 3) := by decide +kernel
theorem dX9_stand_80 : decode cX9_stand 80 = .ok (.getfield 255, 3) := by decide +kernel
theorem dX9_stand_83 : decode cX9_stand 83 = .ok (.ireturn, 1) := by decide +kernel
theorem dX9_stand_84 : decode cX9_stand 84 = .ok (.ldc 87, 2) := by decide +kernel
theorem dX9_stand_86 : decode cX9_stand 86 = .ok (.ireturn, 1) := by decide +kernel
theorem dX9_purse_0 : decode cX9_purse 0 = .ok (.aload_n 0, 1) := by decide +kernel
theorem dX9_purse_1 : decode cX9_purse 1 = .ok (.getfield 24, 3) := by decide +kernel
theorem dX9_purse_4 : decode cX9_purse 4 = .ok (.iload_n 1, 1) := by decide +kernel
theorem dX9_purse_5 : decode cX9_purse 5 = .ok (.invokevirtual 197, 3) := by decide +kernel
theorem dX9_purse_8 : decode cX9_purse 8 = .ok (.ifCond .eq 13, 3) := by decide +kernel
theorem dX9_purse_11 : decode cX9_purse 11 = .ok (.iload_n 2, 1) := by decide +kernel
theorem dX9_purse_12 : decode cX9_purse 12 = .ok (.iconst 0, 1) := by decide +kernel
theorem dX9_purse_13 : decode cX9_purse 13 = .ok (.bipush 60, 2) := by decide +kernel
theorem dX9_purse_15 : decode cX9_purse 15 = .ok (.invokestatic 83, 3) := by decide +kernel
theorem dX9_purse_18 : decode cX9_purse 18 = .ok (.ifCond .ne 6, 3) := by decide +kernel
theorem dX9_purse_21 : decode cX9_purse 21 = .ok (.ldc 87, 2) := by decide +kernel
theorem dX9_purse_23 : decode cX9_purse 23 = .ok (.ireturn, 1) := by decide +kernel
theorem dX9_purse_24 : decode cX9_purse 24 = .ok (.aload_n 0, 1) := by decide +kernel
theorem dX9_purse_25 : decode cX9_purse 25 = .ok (.getfield 33, 3) := by decide +kernel
theorem dX9_purse_28 : decode cX9_purse 28 = .ok (.iload_n 1, 1) := by decide +kernel
theorem dX9_purse_29 : decode cX9_purse 29 = .ok (.iload_n 2, 1) := by decide +kernel
theorem dX9_purse_30 : decode cX9_purse 30 = .ok (.invokevirtual 258, 3) := by decide +kernel
theorem dX9_purse_33 : decode cX9_purse 33 = .ok (.ireturn, 1) := by decide +kernel
theorem dX9_hill_0 : decode cX9_hill 0 = .ok (.aload_n 0, 1) := by decide +kernel
theorem dX9_hill_1 : decode cX9_hill 1 = .ok (.invokevirtual 172, 3) := by decide +kernel
theorem dX9_hill_4 : decode cX9_hill 4 = .ok (.ifCond .eq 6, 3) := by decide +kernel
theorem dX9_hill_7 : decode cX9_hill 7 = .ok (.ldc 171, 2) := by decide +kernel
theorem dX9_hill_9 : decode cX9_hill 9 = .ok (.ireturn, 1) := by decide +kernel
theorem dX9_hill_10 : decode cX9_hill 10 = .ok (.iload_n 1, 1) := by decide +kernel
theorem dX9_hill_11 : decode cX9_hill 11 = .ok (.iconst 0, 1) := by decide +kernel
theorem dX9_hill_12 : decode cX9_hill 12 = .ok (.bipush 60, 2) := by decide +kernel
theorem dX9_hill_14 : decode cX9_hill 14 = .ok (.invokestatic 83, 3) := by decide +kernel
theorem dX9_hill_17 : decode cX9_hill 17 = .ok (.ifCond .eq 14, 3) := by decide +kernel
theorem dX9_hill_20 : decode cX9_hill 20 = .ok (.aload_n 0, 1) := by decide +kernel
theorem dX9_hill_21 : decode cX9_hill 21 = .ok (.getfield 33, 3) := by decide +kernel
theorem dX9_hill_24 : decode cX9_hill 24 = .ok (.iload_n 1, 1) := by decide +kernel
theorem dX9_hill_25 : decode cX9_hill 25 = .ok (.invokevirtual 261, 3) := by decide +kernel
theorem dX9_hill_28 : decode cX9_hill 28 = .ok (.goto 5, 3) := by decide +kernel
theorem dX9_hill_31 : decode cX9_hill 31 = .ok (.ldc 87, 2) := by decide +kernel
theorem dX9_hill_33 : decode cX9_hill 33 = .ok (.ireturn, 1) := by decide +kernel
theorem dX9_known_0 : decode cX9_known 0 = .ok (.aload_n 0, 1) := by decide +kernel
theorem dX9_known_1 : decode cX9_known 1 = .ok (.getfield 24, 3) := by decide +kernel
theorem dX9_known_4 : decode cX9_known 4 = .ok (.iload_n 1, 1) := by decide +kernel
theorem dX9_known_5 : decode cX9_known 5 = .ok (.invokevirtual 188, 3) := by decide +kernel
theorem dX9_known_8 : decode cX9_known 8 = .ok (.ifCond .eq 13, 3) := by decide +kernel
theorem dX9_known_11 : decode cX9_known 11 = .ok (.iload_n 2, 1) := by decide +kernel
theorem dX9_known_12 : decode cX9_known 12 = .ok (.iconst 0, 1) := by decide +kernel
theorem dX9_known_13 : decode cX9_known 13 = .ok (.bipush 60, 2) := by decide +kernel
theorem dX9_known_15 : decode cX9_known 15 = .ok (.invokestatic 83, 3) := by decide +kernel
theorem dX9_known_18 : decode cX9_known 18 = .ok (.ifCond .ne 6, 3) := by decide +kernel
theorem dX9_known_21 : decode cX9_known 21 = .ok (.ldc 87, 2) := by decide +kernel
theorem dX9_known_23 : decode cX9_known 23 = .ok (.ireturn, 1) := by decide +kernel
theorem dX9_known_24 : decode cX9_known 24 = .ok (.aload_n 0, 1) := by decide +kernel
theorem dX9_known_25 : decode cX9_known 25 = .ok (.getfield 33, 3) := by decide +kernel
theorem dX9_known_28 : decode cX9_known 28 = .ok (.iload_n 1, 1) := by decide +kernel
theorem dX9_known_29 : decode cX9_known 29 = .ok (.iload_n 2, 1) := by decide +kernel
theorem dX9_known_30 : decode cX9_known 30 = .ok (.invokevirtual 264, 3) := by decide +kernel
theorem dX9_known_33 : decode cX9_known 33 = .ok (.ireturn, 1) := by decide +kernel
theorem dX9_allKnow_0 : decode cX9_allKnow 0 = .ok (.aload_n 0, 1) := by decide +kernel
theorem dX9_allKnow_1 : decode cX9_allKnow 1 = .ok (.getfield 24, 3) := by decide +kernel
theorem dX9_allKnow_4 : decode cX9_allKnow 4 = .ok (.iload_n 1, 1) := by decide +kernel
theorem dX9_allKnow_5 : decode cX9_allKnow 5 = .ok (.invokevirtual 188, 3) := by decide +kernel
theorem dX9_allKnow_8 : decode cX9_allKnow 8 = .ok (.ifCond .ne 6, 3) := by decide +kernel
theorem dX9_allKnow_11 : decode cX9_allKnow 11 = .ok (.ldc 87, 2) := by decide +kernel
theorem dX9_allKnow_13 : decode cX9_allKnow 13 = .ok (.ireturn, 1) := by decide +kernel
theorem dX9_allKnow_14 : decode cX9_allKnow 14 = .ok (.iconst 0, 1) := by decide +kernel
theorem dX9_allKnow_15 : decode cX9_allKnow 15 = .ok (.istore_n 2, 1) := by decide +kernel
theorem dX9_allKnow_16 : decode cX9_allKnow 16 = .ok (.iload_n 2, 1) := by decide +kernel
theorem dX9_allKnow_17 : decode cX9_allKnow 17 = .ok (.bipush 60, 2) := by decide +kernel
theorem dX9_allKnow_19 : decode cX9_allKnow 19 = .ok (.if_icmp .gt 30, 3) := by decide +kernel
theorem dX9_allKnow_22 : decode cX9_allKnow 22 = .ok (.aload_n 0, 1) := by decide +kernel
theorem dX9_allKnow_23 : decode cX9_allKnow 23 = .ok (.getfield 33, 3) := by decide +kernel
theorem dX9_allKnow_26 : decode cX9_allKnow 26 = .ok (.iload_n 1, 1) := by decide +kernel
theorem dX9_allKnow_27 : decode cX9_allKnow 27 = .ok (.iload_n 2, 1) := by decide +kernel
theorem dX9_allKnow_28 : decode cX9_allKnow 28 = .ok (.invokevirtual 264, 3) := by decide +kernel
theorem dX9_allKnow_31 : decode cX9_allKnow 31 = .ok (.aload_n 0, 1) := by decide +kernel
theorem dX9_allKnow_32 : decode cX9_allKnow 32 = .ok (.getfield 24, 3) := by decide +kernel
theorem dX9_allKnow_35 : decode cX9_allKnow 35 = .ok (.invokevirtual 267, 3) := by decide +kernel
theorem dX9_allKnow_38 : decode cX9_allKnow 38 = .ok (.if_icmp .ne 5, 3) := by decide +kernel
theorem dX9_allKnow_41 : decode cX9_allKnow 41 = .ok (.iload_n 2, 1) := by decide +kernel
theorem dX9_allKnow_42 : decode cX9_allKnow 42 = .ok (.ireturn, 1) := by decide +kernel
theorem dX9_allKnow_43 : decode cX9_allKnow 43 = .ok (.iinc 2 1, 3) := by decide +kernel
theorem dX9_allKnow_46 : decode cX9_allKnow 46 = .ok (.goto (-30), 3) := by decide +kernel
theorem dX9_allKnow_49 : decode cX9_allKnow 49 = .ok (.ldc 221, 2) := by decide +kernel
theorem dX9_allKnow_51 : decode cX9_allKnow 51 = .ok (.ireturn, 1) := by decide +kernel
theorem dX9_when_0 : decode cX9_when 0 = .ok (.aload_n 0, 1) := by decide +kernel
theorem dX9_when_1 : decode cX9_when 1 = .ok (.getfield 24, 3) := by decide +kernel
theorem dX9_when_4 : decode cX9_when 4 = .ok (.iload_n 1, 1) := by decide +kernel
theorem dX9_when_5 : decode cX9_when 5 = .ok (.invokevirtual 188, 3) := by decide +kernel
theorem dX9_when_8 : decode cX9_when 8 = .ok (.ifCond .ne 6, 3) := by decide +kernel
theorem dX9_when_11 : decode cX9_when 11 = .ok (.ldc 87, 2) := by decide +kernel
theorem dX9_when_13 : decode cX9_when 13 = .ok (.ireturn, 1) := by decide +kernel
theorem dX9_when_14 : decode cX9_when 14 = .ok (.aload_n 0, 1) := by decide +kernel
theorem dX9_when_15 : decode cX9_when 15 = .ok (.getfield 33, 3) := by decide +kernel
theorem dX9_when_18 : decode cX9_when 18 = .ok (.iload_n 1, 1) := by decide +kernel
theorem dX9_when_19 : decode cX9_when 19 = .ok (.invokevirtual 234, 3) := by decide +kernel
theorem dX9_when_22 : decode cX9_when 22 = .ok (.ifCond .eq 8, 3) := by decide +kernel
theorem dX9_when_25 : decode cX9_when 25 = .ok (.ldc 171, 2) := by decide +kernel
theorem dX9_when_27 : decode cX9_when 27 = .ok (.goto 13, 3) := by decide +kernel
theorem dX9_when_30 : decode cX9_when 30 = .ok (.aload_n 0, 1) := by decide +kernel
theorem dX9_when_31 : decode cX9_when 31 = .ok (.getfield 33, 3) := by decide +kernel
theorem dX9_when_34 : decode cX9_when 34 = .ok (.iload_n 1, 1) := by decide +kernel
theorem dX9_when_35 : decode cX9_when 35 = .ok (.bipush 60, 2) := by decide +kernel
theorem dX9_when_37 : decode cX9_when 37 = .ok (.invokevirtual 271, 3) := by decide +kernel
theorem dX9_when_40 : decode cX9_when 40 = .ok (.ireturn, 1) := by decide +kernel
theorem dX9_most_0 : decode cX9_most 0 = .ok (.aload_n 0, 1) := by decide +kernel
theorem dX9_most_1 : decode cX9_most 1 = .ok (.invokevirtual 172, 3) := by decide +kernel
theorem dX9_most_4 : decode cX9_most 4 = .ok (.ifCond .eq 6, 3) := by decide +kernel
theorem dX9_most_7 : decode cX9_most 7 = .ok (.ldc 171, 2) := by decide +kernel
theorem dX9_most_9 : decode cX9_most 9 = .ok (.ireturn, 1) := by decide +kernel
theorem dX9_most_10 : decode cX9_most 10 = .ok (.iload_n 1, 1) := by decide +kernel
theorem dX9_most_11 : decode cX9_most 11 = .ok (.iconst 0, 1) := by decide +kernel
theorem dX9_most_12 : decode cX9_most 12 = .ok (.iconst 2, 1) := by decide +kernel
theorem dX9_most_13 : decode cX9_most 13 = .ok (.invokestatic 83, 3) := by decide +kernel
theorem dX9_most_16 : decode cX9_most 16 = .ok (.ifCond .ne 6, 3) := by decide +kernel
theorem dX9_most_19 : decode cX9_most 19 = .ok (.ldc 87, 2) := by decide +kernel
theorem dX9_most_21 : decode cX9_most 21 = .ok (.ireturn, 1) := by decide +kernel
theorem dX9_most_22 : decode cX9_most 22 = .ok (.aload_n 0, 1) := by decide +kernel
theorem dX9_most_23 : decode cX9_most 23 = .ok (.invokevirtual 274, 3) := by decide +kernel
theorem dX9_most_26 : decode cX9_most 26 = .ok (.istore_n 2, 1) := by decide +kernel
theorem dX9_most_27 : decode cX9_most 27 = .ok (.iload_n 1, 1) := by decide +kernel
theorem dX9_most_28 : decode cX9_most 28 = .ok (.ifCond .ne 5, 3) := by decide +kernel
theorem dX9_most_31 : decode cX9_most 31 = .ok (.iload_n 2, 1) := by decide +kernel
theorem dX9_most_32 : decode cX9_most 32 = .ok (.ireturn, 1) := by decide +kernel
theorem dX9_most_33 : decode cX9_most 33 = .ok (.aload_n 0, 1) := by decide +kernel
theorem dX9_most_34 : decode cX9_most 34 = .ok (.iload_n 2, 1) := by decide +kernel
theorem dX9_most_35 : decode cX9_most 35 = .ok (.invokevirtual 277, 3) := by decide +kernel
theorem dX9_most_38 : decode cX9_most 38 = .ok (.istore_n 3, 1) := by decide +kernel
theorem dX9_most_39 : decode cX9_most 39 = .ok (.iload_n 1, 1) := by decide +kernel
theorem dX9_most_40 : decode cX9_most 40 = .ok (.iconst 1, 1) := by decide +kernel
theorem dX9_most_41 : decode cX9_most 41 = .ok (.if_icmp .ne 7, 3) := by decide +kernel
theorem dX9_most_44 : decode cX9_most 44 = .ok (.iload_n 3, 1) := by decide +kernel
theorem dX9_most_45 : decode cX9_most 45 = .ok (.goto 14, 3) := by decide +kernel
theorem dX9_most_48 : decode cX9_most 48 = .ok (.aload_n 0, 1) := by decide +kernel
theorem dX9_most_49 : decode cX9_most 49 = .ok (.getfield 37, 3) := by decide +kernel
theorem dX9_most_52 : decode cX9_most 52 = .ok (.iload_n 2, 1) := by decide +kernel
theorem dX9_most_53 : decode cX9_most 53 = .ok (.invokevirtual 280, 3) := by decide +kernel
theorem dX9_most_56 : decode cX9_most 56 = .ok (.invokestatic 283, 3) := by decide +kernel
theorem dX9_most_59 : decode cX9_most 59 = .ok (.ireturn, 1) := by decide +kernel
theorem dX9_order_0 : decode cX9_order 0 = .ok (.aload_n 0, 1) := by decide +kernel
theorem dX9_order_1 : decode cX9_order 1 = .ok (.invokevirtual 172, 3) := by decide +kernel
theorem dX9_order_4 : decode cX9_order 4 = .ok (.ifCond .eq 6, 3) := by decide +kernel
theorem dX9_order_7 : decode cX9_order 7 = .ok (.ldc 171, 2) := by decide +kernel
theorem dX9_order_9 : decode cX9_order 9 = .ok (.ireturn, 1) := by decide +kernel
theorem dX9_order_10 : decode cX9_order 10 = .ok (.iload_n 1, 1) := by decide +kernel
theorem dX9_order_11 : decode cX9_order 11 = .ok (.iconst (-1), 1) := by decide +kernel
theorem dX9_order_12 : decode cX9_order 12 = .ok (.if_icmp .ge 6, 3) := by decide +kernel
theorem dX9_order_15 : decode cX9_order 15 = .ok (.ldc 87, 2) := by decide +kernel
theorem dX9_order_17 : decode cX9_order 17 = .ok (.ireturn, 1) := by decide +kernel
theorem dX9_order_18 : decode cX9_order 18 = .ok (.aload_n 0, 1) := by decide +kernel
theorem dX9_order_19 : decode cX9_order 19 = .ok (.getfield 50, 3) := by decide +kernel
theorem dX9_order_22 : decode cX9_order 22 = .ok (.aload_n 0, 1) := by decide +kernel
theorem dX9_order_23 : decode cX9_order 23 = .ok (.getfield 33, 3) := by decide +kernel
theorem dX9_order_26 : decode cX9_order 26 = .ok (.invokevirtual 288, 3) := by decide +kernel
theorem dX9_order_29 : decode cX9_order 29 = .ok (.iload_n 1, 1) := by decide +kernel
theorem dX9_order_30 : decode cX9_order 30 = .ok (.iconst (-1), 1) := by decide +kernel
theorem dX9_order_31 : decode cX9_order 31 = .ok (.if_icmp .ne 13, 3) := by decide +kernel
theorem dX9_order_34 : decode cX9_order 34 = .ok (.aload_n 0, 1) := by decide +kernel
theorem dX9_order_35 : decode cX9_order 35 = .ok (.getfield 50, 3) := by decide +kernel
theorem dX9_order_38 : decode cX9_order 38 = .ok (.getfield 291, 3) := by decide +kernel
theorem dX9_order_41 : decode cX9_order 41 = .ok (.goto 11, 3) := by decide +kernel
theorem dX9_order_44 : decode cX9_order 44 = .ok (.aload_n 0, 1) := by decide +kernel
theorem dX9_order_45 : decode cX9_order 45 = .ok (.getfield 50, 3) := by decide +kernel
theorem dX9_order_48 : decode cX9_order 48 = .ok (.iload_n 1, 1) := by decide +kernel
theorem dX9_order_49 : decode cX9_order 49 = .ok (.invokevirtual 294, 3) := by decide +kernel
theorem dX9_order_52 : decode cX9_order 52 = .ok (.ireturn, 1) := by decide +kernel
theorem dX9_clear_0 : decode cX9_clear 0 = .ok (.aload_n 0, 1) := by decide +kernel
theorem dX9_clear_1 : decode cX9_clear 1 = .ok (.invokevirtual 172, 3) := by decide +kernel
theorem dX9_clear_4 : decode cX9_clear 4 = .ok (.ifCond .eq 8, 3) := by decide +kernel
theorem dX9_clear_7 : decode cX9_clear 7 = .ok (.ldc 171, 2) := by decide +kernel
theorem dX9_clear_9 : decode cX9_clear 9 = .ok (.goto 17, 3) := by decide +kernel
theorem dX9_clear_12 : decode cX9_clear 12 = .ok (.aload_n 0, 1) := by decide +kernel
theorem dX9_clear_13 : decode cX9_clear 13 = .ok (.getfield 33, 3) := by decide +kernel
theorem dX9_clear_16 : decode cX9_clear 16 = .ok (.aload_n 0, 1) := by decide +kernel
theorem dX9_clear_17 : decode cX9_clear 17 = .ok (.getfield 24, 3) := by decide +kernel
theorem dX9_clear_20 : decode cX9_clear 20 = .ok (.invokevirtual 267, 3) := by decide +kernel
theorem dX9_clear_23 : decode cX9_clear 23 = .ok (.invokevirtual 249, 3) := by decide +kernel
theorem dX9_clear_26 : decode cX9_clear 26 = .ok (.ireturn, 1) := by decide +kernel
theorem dX9_deaf_0 : decode cX9_deaf 0 = .ok (.aload_n 0, 1) := by decide +kernel
theorem dX9_deaf_1 : decode cX9_deaf 1 = .ok (.getfield 24, 3) := by decide +kernel
theorem dX9_deaf_4 : decode cX9_deaf 4 = .ok (.iload_n 1, 1) := by decide +kernel
theorem dX9_deaf_5 : decode cX9_deaf 5 = .ok (.invokevirtual 188, 3) := by decide +kernel
theorem dX9_deaf_8 : decode cX9_deaf 8 = .ok (.ifCond .eq 34, 3) := by decide +kernel
theorem dX9_deaf_11 : decode cX9_deaf 11 = .ok (.aload_n 0, 1) := by decide +kernel
theorem dX9_deaf_12 : decode cX9_deaf 12 = .ok (.getfield 24, 3) := by decide +kernel
theorem dX9_deaf_15 : decode cX9_deaf 15 = .ok (.iload_n 2, 1) := by decide +kernel
theorem dX9_deaf_16 : decode cX9_deaf 16 = .ok (.invokevirtual 197, 3) := by decide +kernel
theorem dX9_deaf_19 : decode cX9_deaf 19 = .ok (.ifCond .eq 23, 3) := by decide +kernel
theorem dX9_deaf_22 : decode cX9_deaf 22 = .ok (.iload_n 3, 1) := by decide +kernel
theorem dX9_deaf_23 : decode cX9_deaf 23 = .ok (.iconst 0, 1) := by decide +kernel
theorem dX9_deaf_24 : decode cX9_deaf 24 = .ok (.bipush 30, 2) := by decide +kernel
theorem dX9_deaf_26 : decode cX9_deaf 26 = .ok (.invokestatic 83, 3) := by decide +kernel
theorem dX9_deaf_29 : decode cX9_deaf 29 = .ok (.ifCond .eq 13, 3) := by decide +kernel
theorem dX9_deaf_32 : decode cX9_deaf 32 = .ok (.iload 4, 2) := by decide +kernel
theorem dX9_deaf_34 : decode cX9_deaf 34 = .ok (.iconst 0, 1) := by decide +kernel
theorem dX9_deaf_35 : decode cX9_deaf 35 = .ok (.iconst 1, 1) := by decide +kernel
theorem dX9_deaf_36 : decode cX9_deaf 36 = .ok (.invokestatic 83, 3) := by decide +kernel
theorem dX9_deaf_39 : decode cX9_deaf 39 = .ok (.ifCond .ne 6, 3) := by decide +kernel
theorem dX9_deaf_42 : decode cX9_deaf 42 = .ok (.ldc 87, 2) := by decide +kernel
theorem dX9_deaf_44 : decode cX9_deaf 44 = .ok (.ireturn, 1) := by decide +kernel
theorem dX9_deaf_45 : decode cX9_deaf 45 = .ok (.aload_n 0, 1) := by decide +kernel
theorem dX9_deaf_46 : decode cX9_deaf 46 = .ok (.iload_n 1, 1) := by decide +kernel
theorem dX9_deaf_47 : decode cX9_deaf 47 = .ok (.iload_n 2, 1) := by decide +kernel
theorem dX9_deaf_48 : decode cX9_deaf 48 = .ok (.iload_n 3, 1) := by decide +kernel
theorem dX9_deaf_49 : decode cX9_deaf 49 = .ok (.invokevirtual 297, 3) := by decide +kernel
theorem dX9_deaf_52 : decode cX9_deaf 52 = .ok (.istore 5, 2) := by decide +kernel
theorem dX9_deaf_54 : decode cX9_deaf 54 = .ok (.iload 5, 2) := by decide +kernel
theorem dX9_deaf_56 : decode cX9_deaf 56 = .ok (.ldc 221, 2) := by decide +kernel
theorem dX9_deaf_58 : decode cX9_deaf 58 = .ok (.if_icmp .eq 9, 3) := by decide +kernel
theorem dX9_deaf_61 : decode cX9_deaf 61 = .ok (.iload 4, 2) := by decide +kernel
theorem dX9_deaf_63 : decode cX9_deaf 63 = .ok (.iconst 1, 1) := by decide +kernel
theorem dX9_deaf_64 : decode cX9_deaf 64 = .ok (.if_icmp .ne 8, 3) := by decide +kernel
theorem dX9_deaf_67 : decode cX9_deaf 67 = .ok (.iload 5, 2) := by decide +kernel
theorem dX9_deaf_69 : decode cX9_deaf 69 = .ok (.goto 8, 3) := by decide +kernel
theorem dX9_deaf_72 : decode cX9_deaf 72 = .ok (.iload 5, 2) := by decide +kernel
theorem dX9_deaf_74 : decode cX9_deaf 74 = .ok (.invokestatic 283, 3) := by decide +kernel
theorem dX9_deaf_77 : decode cX9_deaf 77 = .ok (.ireturn, 1) := by decide +kernel
theorem dX9_share_0 : decode cX9_share 0 = .ok (.aload_n 0, 1) := by decide +kernel
theorem dX9_share_1 : decode cX9_share 1 = .ok (.getfield 24, 3) := by decide +kernel
theorem dX9_share_4 : decode cX9_share 4 = .ok (.iload_n 1, 1) := by decide +kernel
theorem dX9_share_5 : decode cX9_share 5 = .ok (.invokevirtual 197, 3) := by decide +kernel
theorem dX9_share_8 : decode cX9_share 8 = .ok (.ifCond .eq 13, 3) := by decide +kernel
theorem dX9_share_11 : decode cX9_share 11 = .ok (.iload_n 2, 1) := by decide +kernel
theorem dX9_share_12 : decode cX9_share 12 = .ok (.iconst 0, 1) := by decide +kernel
theorem dX9_share_13 : decode cX9_share 13 = .ok (.bipush 99, 2) := by decide +kernel
theorem dX9_share_15 : decode cX9_share 15 = .ok (.invokestatic 83, 3) := by decide +kernel
theorem dX9_share_18 : decode cX9_share 18 = .ok (.ifCond .ne 6, 3) := by decide +kernel
theorem dX9_share_21 : decode cX9_share 21 = .ok (.ldc 87, 2) := by decide +kernel
theorem dX9_share_23 : decode cX9_share 23 = .ok (.ireturn, 1) := by decide +kernel
theorem dX9_share_24 : decode cX9_share 24 = .ok (.aload_n 0, 1) := by decide +kernel
theorem dX9_share_25 : decode cX9_share 25 = .ok (.getfield 33, 3) := by decide +kernel
theorem dX9_share_28 : decode cX9_share 28 = .ok (.iload_n 1, 1) := by decide +kernel
theorem dX9_share_29 : decode cX9_share 29 = .ok (.iload_n 2, 1) := by decide +kernel
theorem dX9_share_30 : decode cX9_share 30 = .ok (.invokevirtual 300, 3) := by decide +kernel
theorem dX9_share_33 : decode cX9_share 33 = .ok (.ireturn, 1) := by decide +kernel
theorem dX9_thrift_0 : decode cX9_thrift 0 = .ok (.aload_n 0, 1) := by decide +kernel
theorem dX9_thrift_1 : decode cX9_thrift 1 = .ok (.getfield 24, 3) := by decide +kernel
theorem dX9_thrift_4 : decode cX9_thrift 4 = .ok (.iload_n 1, 1) := by decide +kernel
theorem dX9_thrift_5 : decode cX9_thrift 5 = .ok (.invokevirtual 197, 3) := by decide +kernel
theorem dX9_thrift_8 : decode cX9_thrift 8 = .ok (.ifCond .eq 31, 3) := by decide +kernel
theorem dX9_thrift_11 : decode cX9_thrift 11 = .ok (.iload_n 2, 1) := by decide +kernel
theorem dX9_thrift_12 : decode cX9_thrift 12 = .ok (.iconst 0, 1) := by decide +kernel
theorem dX9_thrift_13 : decode cX9_thrift 13 = .ok (.bipush 60, 2) := by decide +kernel
theorem dX9_thrift_15 : decode cX9_thrift 15 = .ok (.invokestatic 83, 3) := by decide +kernel
theorem dX9_thrift_18 : decode cX9_thrift 18 = .ok (.ifCond .eq 21, 3) := by decide +kernel
theorem dX9_thrift_21 : decode cX9_thrift 21 = .ok (.iload_n 3, 1) := by decide +kernel
theorem dX9_thrift_22 : decode cX9_thrift 22 = .ok (.invokestatic 79, 3) := by decide +kernel
theorem dX9_thrift_25 : decode cX9_thrift 25 = .ok (.ifCond .eq 14, 3) := by decide +kernel
theorem dX9_thrift_28 : decode cX9_thrift 28 = .ok (.iload 5, 2) := by decide +kernel
theorem dX9_thrift_30 : decode cX9_thrift 30 = .ok (.iconst 1, 1) := by decide +kernel
theorem dX9_thrift_31 : decode cX9_thrift 31 = .ok (.bipush 12, 2) := by decide +kernel
theorem dX9_thrift_33 : decode cX9_thrift 33 = .ok (.invokestatic 83, 3) := by decide +kernel
theorem dX9_thrift_36 : decode cX9_thrift 36 = .ok (.ifCond .ne 6, 3) := by decide +kernel
theorem dX9_thrift_39 : decode cX9_thrift 39 = .ok (.ldc 87, 2) := by decide +kernel
theorem dX9_thrift_41 : decode cX9_thrift 41 = .ok (.ireturn, 1) := by decide +kernel
theorem dX9_thrift_42 : decode cX9_thrift 42 = .ok (.aload_n 0, 1) := by decide +kernel
theorem dX9_thrift_43 : decode cX9_thrift 43 = .ok (.iload_n 3, 1) := by decide +kernel
theorem dX9_thrift_44 : decode cX9_thrift 44 = .ok (.iload 4, 2) := by decide +kernel
theorem dX9_thrift_46 : decode cX9_thrift 46 = .ok (.iload 5, 2) := by decide +kernel
theorem dX9_thrift_48 : decode cX9_thrift 48 = .ok (.invokevirtual 99, 3) := by decide +kernel
theorem dX9_thrift_51 : decode cX9_thrift 51 = .ok (.istore 6, 2) := by decide +kernel
theorem dX9_thrift_53 : decode cX9_thrift 53 = .ok (.iload 6, 2) := by decide +kernel
theorem dX9_thrift_55 : decode cX9_thrift 55 = .ok (.ifCond .ne 25, 3) := by decide +kernel
theorem dX9_thrift_58 : decode cX9_thrift 58 = .ok (.aload_n 0, 1) := by decide +kernel
theorem dX9_thrift_59 : decode cX9_thrift 59 = .ok (.getfield 11, 3) := by decide +kernel
theorem dX9_thrift_62 : decode cX9_thrift 62 = .ok (.iload_n 3, 1) := by decide +kernel
theorem dX9_thrift_63 : decode cX9_thrift 63 = .ok (.aaload, 1) := by decide +kernel
theorem dX9_thrift_64 : decode cX9_thrift 64 = .ok (.iload 4, 2) := by decide +kernel
theorem dX9_thrift_66 : decode cX9_thrift 66 = .ok (.iload 5, 2) := by decide +kernel
theorem dX9_thrift_68 : decode cX9_thrift 68 = .ok (.iconst 1, 1) := by decide +kernel
theorem dX9_thrift_69 : decode cX9_thrift 69 = .ok (.bipush 9, 2) := by decide +kernel
theorem dX9_thrift_71 : decode cX9_thrift 71 = .ok (.invokevirtual 303, 3) := by decide +kernel
theorem dX9_thrift_74 : decode cX9_thrift 74 = .ok (.ifCond .ne 6, 3) := by decide +kernel
theorem dX9_thrift_77 : decode cX9_thrift 77 = .ok (.iconst 3, 1) := by decide +kernel
theorem dX9_thrift_78 : decode cX9_thrift 78 = .ok (.istore 6, 2) := by decide +kernel
theorem dX9_thrift_80 : decode cX9_thrift 80 = .ok (.iload 6, 2) := by decide +kernel
theorem dX9_thrift_82 : decode cX9_thrift 82 = .ok (.ifCond .eq 10, 3) := by decide +kernel
theorem dX9_thrift_85 : decode cX9_thrift 85 = .ok (.aload_n 0, 1) := by decide +kernel
theorem dX9_thrift_86 : decode cX9_thrift 86 = .ok (.iload 6, 2) := by decide +kernel
theorem dX9_thrift_88 : decode cX9_thrift 88 = .ok (.invokevirtual 88, 3) := by decide +kernel
theorem dX9_thrift_91 : decode cX9_thrift 91 = .ok (.ireturn, 1) := by decide +kernel
theorem dX9_thrift_92 : decode cX9_thrift 92 = .ok (.aload_n 0, 1) := by decide +kernel
theorem dX9_thrift_93 : decode cX9_thrift 93 = .ok (.getfield 57, 3) := by decide +kernel
theorem dX9_thrift_96 : decode cX9_thrift 96 = .ok (.aload_n 0, 1) := by decide +kernel
theorem dX9_thrift_97 : decode cX9_thrift 97 = .ok (.getfield 33, 3) := by decide +kernel
theorem dX9_thrift_100 : decode cX9_thrift 100 = .ok (.getfield 237, 3) := by decide +kernel
theorem dX9_thrift_103 : decode cX9_thrift 103 = .ok (.iload_n 1, 1) := by decide +kernel
theorem dX9_thrift_104 : decode cX9_thrift 104 = .ok (.iaload, 1) := by decide +kernel
theorem dX9_thrift_105 : decode cX9_thrift 105 = .ok (.iload_n 2, 1) := by decide +kernel
theorem dX9_thrift_106 : decode cX9_thrift 106 = .ok (.invokevirtual 307, 3) := by decide +kernel
theorem dX9_thrift_109 : decode cX9_thrift 109 = .ok (.iconst 0, 1) := by decide +kernel
theorem dX9_thrift_110 : decode cX9_thrift 110 = .ok (.istore 7, 2) := by decide +kernel
theorem dX9_thrift_112 : decode cX9_thrift 112 = .ok (.iload 7, 2) := by decide +kernel
theorem dX9_thrift_114 : decode cX9_thrift 114 = .ok (.iload 5, 2) := by decide +kernel
theorem dX9_thrift_116 : decode cX9_thrift 116 = .ok (.if_icmp .ge 47, 3) := by decide +kernel
theorem dX9_thrift_119 : decode cX9_thrift 119 = .ok (.aload_n 0, 1) := by decide +kernel
theorem dX9_thrift_120 : decode cX9_thrift 120 = .ok (.getfield 57, 3) := by decide +kernel
theorem dX9_thrift_123 : decode cX9_thrift 123 = .ok (.aload_n 0, 1) := by decide +kernel
theorem dX9_thrift_124 : decode cX9_thrift 124 = .ok (.getfield 11, 3) := by decide +kernel
theorem dX9_thrift_127 : decode cX9_thrift 127 = .ok (.iload_n 3, 1) := by decide +kernel
theorem dX9_thrift_128 : decode cX9_thrift 128 = .ok (.aaload, 1) := by decide +kernel
theorem dX9_thrift_129 : decode cX9_thrift 129 = .ok (.getfield 119, 3) := by decide +kernel
theorem dX9_thrift_132 : decode cX9_thrift 132 = .ok (.iload 4, 2) := by decide +kernel
theorem dX9_thrift_134 : decode cX9_thrift 134 = .ok (.iload 7, 2) := by decide +kernel
theorem dX9_thrift_136 : decode cX9_thrift 136 = .ok (.iadd, 1) := by decide +kernel
theorem dX9_thrift_137 : decode cX9_thrift 137 = .ok (.iaload, 1) := by decide +kernel
theorem dX9_thrift_138 : decode cX9_thrift 138 = .ok (.aload_n 0, 1) := by decide +kernel
theorem dX9_thrift_139 : decode cX9_thrift 139 = .ok (.getfield 24, 3) := by decide +kernel
theorem dX9_thrift_142 : decode cX9_thrift 142 = .ok (.getfield 252, 3) := by decide +kernel
theorem dX9_thrift_145 : decode cX9_thrift 145 = .ok (.aload_n 0, 1) := by decide +kernel
theorem dX9_thrift_146 : decode cX9_thrift 146 = .ok (.getfield 24, 3) := by decide +kernel
theorem dX9_thrift_149 : decode cX9_thrift 149 = .ok (.getfield 240, 3) := by decide +kernel
theorem dX9_thrift_152 : decode cX9_thrift 152 = .ok (.iload_n 1, 1) := by decide +kernel
theorem dX9_thrift_153 : decode cX9_thrift 153 = .ok (.iaload, 1) := by decide +kernel
theorem dX9_thrift_154 : decode cX9_thrift 154 = .ok (.invokevirtual 308, 3) := by decide +kernel
theorem dX9_thrift_157 : decode cX9_thrift 157 = .ok (.iinc 7 1, 3) := by decide +kernel
theorem dX9_thrift_160 : decode cX9_thrift 160 = .ok (.goto (-48), 3) := by decide +kernel
theorem dX9_thrift_163 : decode cX9_thrift 163 = .ok (.aload_n 0, 1) := by decide +kernel
theorem dX9_thrift_164 : decode cX9_thrift 164 = .ok (.aload_n 0, 1) := by decide +kernel
theorem dX9_thrift_165 : decode cX9_thrift 165 = .ok (.getfield 57, 3) := by decide +kernel
theorem dX9_thrift_168 : decode cX9_thrift 168 = .ok (.invokevirtual 312, 3) := by decide +kernel
theorem dX9_thrift_171 : decode cX9_thrift 171 = .ok (.invokevirtual 96, 3) := by decide +kernel
