theorem dX9_thrift_174 : decode cX9_thrift 174 = .ok (.ireturn, 1) := by decide +kernel
theorem dX9_who_0 : decode cX9_who 0 = .ok (.aload_n 0, 1) := by decide +kernel
theorem dX9_who_1 : decode cX9_who 1 = .ok (.getfield 24, 3) := by decide +kernel
theorem dX9_who_4 : decode cX9_who 4 = .ok (.iload_n 1, 1) := by decide +kernel
theorem dX9_who_5 : decode cX9_who 5 = .ok (.invokevirtual 188, 3) := by decide +kernel
theorem dX9_who_8 : decode cX9_who 8 = .ok (.ifCond .eq 30, 3) := by decide +kernel
theorem dX9_who_11 : decode cX9_who 11 = .ok (.iload_n 2, 1) := by decide +kernel
theorem dX9_who_12 : decode cX9_who 12 = .ok (.iconst 0, 1) := by decide +kernel
theorem dX9_who_13 : decode cX9_who 13 = .ok (.iconst 1, 1) := by decide +kernel
theorem dX9_who_14 : decode cX9_who 14 = .ok (.invokestatic 83, 3) := by decide +kernel
theorem dX9_who_17 : decode cX9_who 17 = .ok (.ifCond .eq 21, 3) := by decide +kernel
theorem dX9_who_20 : decode cX9_who 20 = .ok (.iload_n 3, 1) := by decide +kernel
theorem dX9_who_21 : decode cX9_who 21 = .ok (.invokestatic 79, 3) := by decide +kernel
theorem dX9_who_24 : decode cX9_who 24 = .ok (.ifCond .eq 14, 3) := by decide +kernel
theorem dX9_who_27 : decode cX9_who 27 = .ok (.iload 5, 2) := by decide +kernel
theorem dX9_who_29 : decode cX9_who 29 = .ok (.iconst 1, 1) := by decide +kernel
theorem dX9_who_30 : decode cX9_who 30 = .ok (.bipush 12, 2) := by decide +kernel
theorem dX9_who_32 : decode cX9_who 32 = .ok (.invokestatic 83, 3) := by decide +kernel
theorem dX9_who_35 : decode cX9_who 35 = .ok (.ifCond .ne 6, 3) := by decide +kernel
theorem dX9_who_38 : decode cX9_who 38 = .ok (.ldc 87, 2) := by decide +kernel
theorem dX9_who_40 : decode cX9_who 40 = .ok (.ireturn, 1) := by decide +kernel
theorem dX9_who_41 : decode cX9_who 41 = .ok (.aload_n 0, 1) := by decide +kernel
theorem dX9_who_42 : decode cX9_who 42 = .ok (.iload_n 3, 1) := by decide +kernel
theorem dX9_who_43 : decode cX9_who 43 = .ok (.iload 4, 2) := by decide +kernel
theorem dX9_who_45 : decode cX9_who 45 = .ok (.iload 5, 2) := by decide +kernel
theorem dX9_who_47 : decode cX9_who 47 = .ok (.invokevirtual 99, 3) := by decide +kernel
theorem dX9_who_50 : decode cX9_who 50 = .ok (.istore 6, 2) := by decide +kernel
theorem dX9_who_52 : decode cX9_who 52 = .ok (.iload 6, 2) := by decide +kernel
theorem dX9_who_54 : decode cX9_who 54 = .ok (.ifCond .eq 10, 3) := by decide +kernel
theorem dX9_who_57 : decode cX9_who 57 = .ok (.aload_n 0, 1) := by decide +kernel
theorem dX9_who_58 : decode cX9_who 58 = .ok (.iload 6, 2) := by decide +kernel
theorem dX9_who_60 : decode cX9_who 60 = .ok (.invokevirtual 88, 3) := by decide +kernel
theorem dX9_who_63 : decode cX9_who 63 = .ok (.ireturn, 1) := by decide +kernel
theorem dX9_who_64 : decode cX9_who 64 = .ok (.iconst 0, 1) := by decide +kernel
theorem dX9_who_65 : decode cX9_who 65 = .ok (.istore 7, 2) := by decide +kernel
theorem dX9_who_67 : decode cX9_who 67 = .ok (.iconst 1, 1) := by decide +kernel
theorem dX9_who_68 : decode cX9_who 68 = .ok (.istore 8, 2) := by decide +kernel
theorem dX9_who_70 : decode cX9_who 70 = .ok (.iload 8, 2) := by decide +kernel
theorem dX9_who_72 : decode cX9_who 72 = .ok (.iconst 5, 1) := by decide +kernel
theorem dX9_who_73 : decode cX9_who 73 = .ok (.if_icmp .gt 69, 3) := by decide +kernel
theorem dX9_who_76 : decode cX9_who 76 = .ok (.iconst 0, 1) := by decide +kernel
theorem dX9_who_77 : decode cX9_who 77 = .ok (.istore 9, 2) := by decide +kernel
theorem dX9_who_79 : decode cX9_who 79 = .ok (.iload 9, 2) := by decide +kernel
theorem dX9_who_81 : decode cX9_who 81 = .ok (.aload_n 0, 1) := by decide +kernel
theorem dX9_who_82 : decode cX9_who 82 = .ok (.getfield 24, 3) := by decide +kernel
theorem dX9_who_85 : decode cX9_who 85 = .ok (.getfield 315, 3) := by decide +kernel
theorem dX9_who_88 : decode cX9_who 88 = .ok (.if_icmp .ge 48, 3) := by decide +kernel
theorem dX9_who_91 : decode cX9_who 91 = .ok (.aload_n 0, 1) := by decide +kernel
theorem dX9_who_92 : decode cX9_who 92 = .ok (.iload 8, 2) := by decide +kernel
theorem dX9_who_94 : decode cX9_who 94 = .ok (.iload 9, 2) := by decide +kernel
theorem dX9_who_96 : decode cX9_who 96 = .ok (.aload_n 0, 1) := by decide +kernel
theorem dX9_who_97 : decode cX9_who 97 = .ok (.getfield 11, 3) := by decide +kernel
theorem dX9_who_100 : decode cX9_who 100 = .ok (.iload_n 3, 1) := by decide +kernel
theorem dX9_who_101 : decode cX9_who 101 = .ok (.aaload, 1) := by decide +kernel
theorem dX9_who_102 : decode cX9_who 102 = .ok (.iload 4, 2) := by decide +kernel
theorem dX9_who_104 : decode cX9_who 104 = .ok (.iload 5, 2) := by decide +kernel
theorem dX9_who_106 : decode cX9_who 106 = .ok (.invokevirtual 318, 3) := by decide +kernel
theorem dX9_who_109 : decode cX9_who 109 = .ok (.ifCond .eq 21, 3) := by decide +kernel
theorem dX9_who_112 : decode cX9_who 112 = .ok (.iload 7, 2) := by decide +kernel
theorem dX9_who_114 : decode cX9_who 114 = .ok (.iconst 1, 1) := by decide +kernel
theorem dX9_who_115 : decode cX9_who 115 = .ok (.iload_n 2, 1) := by decide +kernel
theorem dX9_who_116 : decode cX9_who 116 = .ok (.ifCond .ne 8, 3) := by decide +kernel
theorem dX9_who_119 : decode cX9_who 119 = .ok (.iload 8, 2) := by decide +kernel
theorem dX9_who_121 : decode cX9_who 121 = .ok (.goto 5, 3) := by decide +kernel
theorem dX9_who_124 : decode cX9_who 124 = .ok (.iload 9, 2) := by decide +kernel
theorem dX9_who_126 : decode cX9_who 126 = .ok (.ishl, 1) := by decide +kernel
theorem dX9_who_127 : decode cX9_who 127 = .ok (.ior, 1) := by decide +kernel
theorem dX9_who_128 : decode cX9_who 128 = .ok (.istore 7, 2) := by decide +kernel
theorem dX9_who_130 : decode cX9_who 130 = .ok (.iinc 9 1, 3) := by decide +kernel
theorem dX9_who_133 : decode cX9_who 133 = .ok (.goto (-54), 3) := by decide +kernel
theorem dX9_who_136 : decode cX9_who 136 = .ok (.iinc 8 1, 3) := by decide +kernel
theorem dX9_who_139 : decode cX9_who 139 = .ok (.goto (-69), 3) := by decide +kernel
theorem dX9_who_142 : decode cX9_who 142 = .ok (.aload_n 0, 1) := by decide +kernel
theorem dX9_who_143 : decode cX9_who 143 = .ok (.iload 7, 2) := by decide +kernel
theorem dX9_who_145 : decode cX9_who 145 = .ok (.invokevirtual 96, 3) := by decide +kernel
theorem dX9_who_148 : decode cX9_who 148 = .ok (.ireturn, 1) := by decide +kernel
theorem dX9_priced_0 : decode cX9_priced 0 = .ok (.iload_n 1, 1) := by decide +kernel
theorem dX9_priced_1 : decode cX9_priced 1 = .ok (.invokestatic 79, 3) := by decide +kernel
theorem dX9_priced_4 : decode cX9_priced 4 = .ok (.ifCond .eq 21, 3) := by decide +kernel
theorem dX9_priced_7 : decode cX9_priced 7 = .ok (.iload_n 3, 1) := by decide +kernel
theorem dX9_priced_8 : decode cX9_priced 8 = .ok (.invokestatic 79, 3) := by decide +kernel
theorem dX9_priced_11 : decode cX9_priced 11 = .ok (.ifCond .eq 14, 3) := by decide +kernel
theorem dX9_priced_14 : decode cX9_priced 14 = .ok (.iload 5, 2) := by decide +kernel
theorem dX9_priced_16 : decode cX9_priced 16 = .ok (.iconst 1, 1) := by decide +kernel
theorem dX9_priced_17 : decode cX9_priced 17 = .ok (.bipush 12, 2) := by decide +kernel
theorem dX9_priced_19 : decode cX9_priced 19 = .ok (.invokestatic 83, 3) := by decide +kernel
theorem dX9_priced_22 : decode cX9_priced 22 = .ok (.ifCond .ne 6, 3) := by decide +kernel
theorem dX9_priced_25 : decode cX9_priced 25 = .ok (.ldc 87, 2) := by decide +kernel
theorem dX9_priced_27 : decode cX9_priced 27 = .ok (.ireturn, 1) := by decide +kernel
theorem dX9_priced_28 : decode cX9_priced 28 = .ok (.aload_n 0, 1) := by decide +kernel
theorem dX9_priced_29 : decode cX9_priced 29 = .ok (.iload_n 1, 1) := by decide +kernel
theorem dX9_priced_30 : decode cX9_priced 30 = .ok (.iload_n 2, 1) := by decide +kernel
theorem dX9_priced_31 : decode cX9_priced 31 = .ok (.iload 5, 2) := by decide +kernel
theorem dX9_priced_33 : decode cX9_priced 33 = .ok (.invokevirtual 99, 3) := by decide +kernel
theorem dX9_priced_36 : decode cX9_priced 36 = .ok (.istore 6, 2) := by decide +kernel
theorem dX9_priced_38 : decode cX9_priced 38 = .ok (.iload 6, 2) := by decide +kernel
theorem dX9_priced_40 : decode cX9_priced 40 = .ok (.ifCond .ne 14, 3) := by decide +kernel
theorem dX9_priced_43 : decode cX9_priced 43 = .ok (.aload_n 0, 1) := by decide +kernel
theorem dX9_priced_44 : decode cX9_priced 44 = .ok (.iload_n 3, 1) := by decide +kernel
theorem dX9_priced_45 : decode cX9_priced 45 = .ok (.iload 4, 2) := by decide +kernel
theorem dX9_priced_47 : decode cX9_priced 47 = .ok (.iload 5, 2) := by decide +kernel
theorem dX9_priced_49 : decode cX9_priced 49 = .ok (.invokevirtual 99, 3) := by decide +kernel
theorem dX9_priced_52 : decode cX9_priced 52 = .ok (.istore 6, 2) := by decide +kernel
theorem dX9_priced_54 : decode cX9_priced 54 = .ok (.iload 6, 2) := by decide +kernel
theorem dX9_priced_56 : decode cX9_priced 56 = .ok (.ifCond .ne 44, 3) := by decide +kernel
theorem dX9_priced_59 : decode cX9_priced 59 = .ok (.aload_n 0, 1) := by decide +kernel
theorem dX9_priced_60 : decode cX9_priced 60 = .ok (.getfield 11, 3) := by decide +kernel
theorem dX9_priced_63 : decode cX9_priced 63 = .ok (.iload_n 1, 1) := by decide +kernel
theorem dX9_priced_64 : decode cX9_priced 64 = .ok (.aaload, 1) := by decide +kernel
theorem dX9_priced_65 : decode cX9_priced 65 = .ok (.iload_n 2, 1) := by decide +kernel
theorem dX9_priced_66 : decode cX9_priced 66 = .ok (.iload 5, 2) := by decide +kernel
theorem dX9_priced_68 : decode cX9_priced 68 = .ok (.iconst 0, 1) := by decide +kernel
theorem dX9_priced_69 : decode cX9_priced 69 = .ok (.sipush 999, 3) := by decide +kernel
theorem dX9_priced_72 : decode cX9_priced 72 = .ok (.invokevirtual 303, 3) := by decide +kernel
theorem dX9_priced_75 : decode cX9_priced 75 = .ok (.ifCond .eq 22, 3) := by decide +kernel
theorem dX9_priced_78 : decode cX9_priced 78 = .ok (.aload_n 0, 1) := by decide +kernel
theorem dX9_priced_79 : decode cX9_priced 79 = .ok (.getfield 11, 3) := by decide +kernel
theorem dX9_priced_82 : decode cX9_priced 82 = .ok (.iload_n 3, 1) := by decide +kernel
theorem dX9_priced_83 : decode cX9_priced 83 = .ok (.aaload, 1) := by decide +kernel
theorem dX9_priced_84 : decode cX9_priced 84 = .ok (.iload 4, 2) := by decide +kernel
theorem dX9_priced_86 : decode cX9_priced 86 = .ok (.iload 5, 2) := by decide +kernel
theorem dX9_priced_88 : decode cX9_priced 88 = .ok (.iconst 1, 1) := by decide +kernel
theorem dX9_priced_89 : decode cX9_priced 89 = .ok (.bipush 9, 2) := by decide +kernel
theorem dX9_priced_91 : decode cX9_priced 91 = .ok (.invokevirtual 303, 3) := by decide +kernel
theorem dX9_priced_94 : decode cX9_priced 94 = .ok (.ifCond .ne 6, 3) := by decide +kernel
theorem dX9_priced_97 : decode cX9_priced 97 = .ok (.iconst 3, 1) := by decide +kernel
theorem dX9_priced_98 : decode cX9_priced 98 = .ok (.istore 6, 2) := by decide +kernel
theorem dX9_priced_100 : decode cX9_priced 100 = .ok (.iload 6, 2) := by decide +kernel
theorem dX9_priced_102 : decode cX9_priced 102 = .ok (.ifCond .eq 10, 3) := by decide +kernel
theorem dX9_priced_105 : decode cX9_priced 105 = .ok (.aload_n 0, 1) := by decide +kernel
theorem dX9_priced_106 : decode cX9_priced 106 = .ok (.iload 6, 2) := by decide +kernel
theorem dX9_priced_108 : decode cX9_priced 108 = .ok (.invokevirtual 88, 3) := by decide +kernel
theorem dX9_priced_111 : decode cX9_priced 111 = .ok (.ireturn, 1) := by decide +kernel
theorem dX9_priced_112 : decode cX9_priced 112 = .ok (.iconst 0, 1) := by decide +kernel
theorem dX9_priced_113 : decode cX9_priced 113 = .ok (.istore 7, 2) := by decide +kernel
theorem dX9_priced_115 : decode cX9_priced 115 = .ok (.iconst 0, 1) := by decide +kernel
theorem dX9_priced_116 : decode cX9_priced 116 = .ok (.istore 8, 2) := by decide +kernel
theorem dX9_priced_118 : decode cX9_priced 118 = .ok (.iload 8, 2) := by decide +kernel
theorem dX9_priced_120 : decode cX9_priced 120 = .ok (.iload 5, 2) := by decide +kernel
theorem dX9_priced_122 : decode cX9_priced 122 = .ok (.if_icmp .ge 44, 3) := by decide +kernel
theorem dX9_priced_125 : decode cX9_priced 125 = .ok (.iload 7, 2) := by decide +kernel
theorem dX9_priced_127 : decode cX9_priced 127 = .ok (.aload_n 0, 1) := by decide +kernel
theorem dX9_priced_128 : decode cX9_priced 128 = .ok (.getfield 11, 3) := by decide +kernel
theorem dX9_priced_131 : decode cX9_priced 131 = .ok (.iload_n 1, 1) := by decide +kernel
theorem dX9_priced_132 : decode cX9_priced 132 = .ok (.aaload, 1) := by decide +kernel
theorem dX9_priced_133 : decode cX9_priced 133 = .ok (.getfield 119, 3) := by decide +kernel
theorem dX9_priced_136 : decode cX9_priced 136 = .ok (.iload_n 2, 1) := by decide +kernel
theorem dX9_priced_137 : decode cX9_priced 137 = .ok (.iload 8, 2) := by decide +kernel
theorem dX9_priced_139 : decode cX9_priced 139 = .ok (.iadd, 1) := by decide +kernel
theorem dX9_priced_140 : decode cX9_priced 140 = .ok (.iaload, 1) := by decide +kernel
theorem dX9_priced_141 : decode cX9_priced 141 = .ok (.aload_n 0, 1) := by decide +kernel
theorem dX9_priced_142 : decode cX9_priced 142 = .ok (.getfield 11, 3) := by decide +kernel
theorem dX9_priced_145 : decode cX9_priced 145 = .ok (.iload_n 3, 1) := by decide +kernel
theorem dX9_priced_146 : decode cX9_priced 146 = .ok (.aaload, 1) := by decide +kernel
theorem dX9_priced_147 : decode cX9_priced 147 = .ok (.getfield 119, 3) := by decide +kernel
theorem dX9_priced_150 : decode cX9_priced 150 = .ok (.iload 4, 2) := by decide +kernel
theorem dX9_priced_152 : decode cX9_priced 152 = .ok (.iload 8, 2) := by decide +kernel
theorem dX9_priced_154 : decode cX9_priced 154 = .ok (.iadd, 1) := by decide +kernel
theorem dX9_priced_155 : decode cX9_priced 155 = .ok (.iaload, 1) := by decide +kernel
theorem dX9_priced_156 : decode cX9_priced 156 = .ok (.imul, 1) := by decide +kernel
theorem dX9_priced_157 : decode cX9_priced 157 = .ok (.iadd, 1) := by decide +kernel
theorem dX9_priced_158 : decode cX9_priced 158 = .ok (.istore 7, 2) := by decide +kernel
theorem dX9_priced_160 : decode cX9_priced 160 = .ok (.iinc 8 1, 3) := by decide +kernel
theorem dX9_priced_163 : decode cX9_priced 163 = .ok (.goto (-45), 3) := by decide +kernel
theorem dX9_priced_166 : decode cX9_priced 166 = .ok (.aload_n 0, 1) := by decide +kernel
theorem dX9_priced_167 : decode cX9_priced 167 = .ok (.iload 7, 2) := by decide +kernel
theorem dX9_priced_169 : decode cX9_priced 169 = .ok (.invokevirtual 96, 3) := by decide +kernel
theorem dX9_priced_172 : decode cX9_priced 172 = .ok (.ireturn, 1) := by decide +kernel
theorem dX9_heard_0 : decode cX9_heard 0 = .ok (.aload_n 0, 1) := by decide +kernel
theorem dX9_heard_1 : decode cX9_heard 1 = .ok (.getfield 24, 3) := by decide +kernel
theorem dX9_heard_4 : decode cX9_heard 4 = .ok (.iload_n 1, 1) := by decide +kernel
theorem dX9_heard_5 : decode cX9_heard 5 = .ok (.invokevirtual 188, 3) := by decide +kernel
theorem dX9_heard_8 : decode cX9_heard 8 = .ok (.ifCond .eq 45, 3) := by decide +kernel
theorem dX9_heard_11 : decode cX9_heard 11 = .ok (.aload_n 0, 1) := by decide +kernel
theorem dX9_heard_12 : decode cX9_heard 12 = .ok (.getfield 24, 3) := by decide +kernel
theorem dX9_heard_15 : decode cX9_heard 15 = .ok (.iload_n 2, 1) := by decide +kernel
theorem dX9_heard_16 : decode cX9_heard 16 = .ok (.invokevirtual 197, 3) := by decide +kernel
theorem dX9_heard_19 : decode cX9_heard 19 = .ok (.ifCond .eq 34, 3) := by decide +kernel
theorem dX9_heard_22 : decode cX9_heard 22 = .ok (.iload_n 3, 1) := by decide +kernel
theorem dX9_heard_23 : decode cX9_heard 23 = .ok (.iconst 0, 1) := by decide +kernel
theorem dX9_heard_24 : decode cX9_heard 24 = .ok (.bipush 30, 2) := by decide +kernel
theorem dX9_heard_26 : decode cX9_heard 26 = .ok (.invokestatic 83, 3) := by decide +kernel
theorem dX9_heard_29 : decode cX9_heard 29 = .ok (.ifCond .eq 24, 3) := by decide +kernel
theorem dX9_heard_32 : decode cX9_heard 32 = .ok (.iload 4, 2) := by decide +kernel
theorem dX9_heard_34 : decode cX9_heard 34 = .ok (.iconst 0, 1) := by decide +kernel
theorem dX9_heard_35 : decode cX9_heard 35 = .ok (.bipush 10, 2) := by decide +kernel
theorem dX9_heard_37 : decode cX9_heard 37 = .ok (.invokestatic 83, 3) := by decide +kernel
theorem dX9_heard_40 : decode cX9_heard 40 = .ok (.ifCond .eq 13, 3) := by decide +kernel
theorem dX9_heard_43 : decode cX9_heard 43 = .ok (.iload 5, 2) := by decide +kernel
theorem dX9_heard_45 : decode cX9_heard 45 = .ok (.iconst 0, 1) := by decide +kernel
theorem dX9_heard_46 : decode cX9_heard 46 = .ok (.iconst 1, 1) := by decide +kernel
theorem dX9_heard_47 : decode cX9_heard 47 = .ok (.invokestatic 83, 3) := by decide +kernel
theorem dX9_heard_50 : decode cX9_heard 50 = .ok (.ifCond .ne 7, 3) := by decide +kernel
theorem dX9_heard_53 : decode cX9_heard 53 = .ok (.ldc2_w 322, 3) := by decide +kernel
theorem dX9_heard_56 : decode cX9_heard 56 = .ok (.lreturn, 1) := by decide +kernel
theorem dX9_heard_57 : decode cX9_heard 57 = .ok (.bipush 10, 2) := by decide +kernel
theorem dX9_heard_59 : decode cX9_heard 59 = .ok (.aload_n 0, 1) := by decide +kernel
theorem dX9_heard_60 : decode cX9_heard 60 = .ok (.getfield 24, 3) := by decide +kernel
theorem dX9_heard_63 : decode cX9_heard 63 = .ok (.getfield 315, 3) := by decide +kernel
theorem dX9_heard_66 : decode cX9_heard 66 = .ok (.iconst 1, 1) := by decide +kernel
theorem dX9_heard_67 : decode cX9_heard 67 = .ok (.isub, 1) := by decide +kernel
theorem dX9_heard_68 : decode cX9_heard 68 = .ok (.invokestatic 324, 3) := by decide +kernel
theorem dX9_heard_71 : decode cX9_heard 71 = .ok (.lstore 6, 2) := by decide +kernel
theorem dX9_heard_73 : decode cX9_heard 73 = .ok (.aload_n 0, 1) := by decide +kernel
theorem dX9_heard_74 : decode cX9_heard 74 = .ok (.iload_n 1, 1) := by decide +kernel
theorem dX9_heard_75 : decode cX9_heard 75 = .ok (.iload_n 2, 1) := by decide +kernel
theorem dX9_heard_76 : decode cX9_heard 76 = .ok (.iload_n 3, 1) := by decide +kernel
theorem dX9_heard_77 : decode cX9_heard 77 = .ok (.iload 4, 2) := by decide +kernel
theorem dX9_heard_79 : decode cX9_heard 79 = .ok (.invokevirtual 328, 3) := by decide +kernel
theorem dX9_heard_82 : decode cX9_heard 82 = .ok (.lstore 8, 2) := by decide +kernel
theorem dX9_heard_84 : decode cX9_heard 84 = .ok (.lload 8, 2) := by decide +kernel
theorem dX9_heard_86 : decode cX9_heard 86 = .ok (.lload 6, 2) := by decide +kernel
theorem dX9_heard_88 : decode cX9_heard 88 = .ok (.invokestatic 332, 3) := by decide +kernel
theorem dX9_heard_91 : decode cX9_heard 91 = .ok (.lstore 10, 2) := by decide +kernel
theorem dX9_heard_93 : decode cX9_heard 93 = .ok (.lload 10, 2) := by decide +kernel
theorem dX9_heard_95 : decode cX9_heard 95 = .ok (.lconst 0, 1) := by decide +kernel
theorem dX9_heard_96 : decode cX9_heard 96 = .ok (.lcmp, 1) := by decide +kernel
theorem dX9_heard_97 : decode cX9_heard 97 = .ok (.ifCond .gt 7, 3) := by decide +kernel
theorem dX9_heard_100 : decode cX9_heard 100 = .ok (.ldc2_w 322, 3) := by decide +kernel
theorem dX9_heard_103 : decode cX9_heard 103 = .ok (.lreturn, 1) := by decide +kernel
theorem dX9_heard_104 : decode cX9_heard 104 = .ok (.iload 5, 2) := by decide +kernel
theorem dX9_heard_106 : decode cX9_heard 106 = .ok (.ifCond .ne 11, 3) := by decide +kernel
theorem dX9_heard_109 : decode cX9_heard 109 = .ok (.lload 8, 2) := by decide +kernel
theorem dX9_heard_111 : decode cX9_heard 111 = .ok (.lload 10, 2) := by decide +kernel
theorem dX9_heard_113 : decode cX9_heard 113 = .ok (.ldiv, 1) := by decide +kernel
theorem dX9_heard_114 : decode cX9_heard 114 = .ok (.goto 8, 3) := by decide +kernel
theorem dX9_heard_117 : decode cX9_heard 117 = .ok (.lload 6, 2) := by decide +kernel
theorem dX9_heard_119 : decode cX9_heard 119 = .ok (.lload 10, 2) := by decide +kernel
theorem dX9_heard_121 : decode cX9_heard 121 = .ok (.ldiv, 1) := by decide +kernel
theorem dX9_heard_122 : decode cX9_heard 122 = .ok (.lreturn, 1) := by decide +kernel
theorem dX9_drawn_0 : decode cX9_drawn 0 = .ok (.aload_n 0, 1) := by decide +kernel
theorem dX9_drawn_1 : decode cX9_drawn 1 = .ok (.invokevirtual 172, 3) := by decide +kernel
theorem dX9_drawn_4 : decode cX9_drawn 4 = .ok (.ifCond .eq 6, 3) := by decide +kernel
theorem dX9_drawn_7 : decode cX9_drawn 7 = .ok (.ldc 171, 2) := by decide +kernel
theorem dX9_drawn_9 : decode cX9_drawn 9 = .ok (.ireturn, 1) := by decide +kernel
theorem dX9_drawn_10 : decode cX9_drawn 10 = .ok (.iload_n 1, 1) := by decide +kernel
theorem dX9_drawn_11 : decode cX9_drawn 11 = .ok (.iconst 0, 1) := by decide +kernel
theorem dX9_drawn_12 : decode cX9_drawn 12 = .ok (.bipush 60, 2) := by decide +kernel
theorem dX9_drawn_14 : decode cX9_drawn 14 = .ok (.invokestatic 83, 3) := by decide +kernel
theorem dX9_drawn_17 : decode cX9_drawn 17 = .ok (.ifCond .eq 23, 3) := by decide +kernel
theorem dX9_drawn_20 : decode cX9_drawn 20 = .ok (.iload_n 2, 1) := by decide +kernel
theorem dX9_drawn_21 : decode cX9_drawn 21 = .ok (.iconst 1, 1) := by decide +kernel
theorem dX9_drawn_22 : decode cX9_drawn 22 = .ok (.ldc_w 336, 3) := by decide +kernel
theorem dX9_drawn_25 : decode cX9_drawn 25 = .ok (.invokestatic 83, 3) := by decide +kernel
theorem dX9_drawn_28 : decode cX9_drawn 28 = .ok (.ifCond .eq 12, 3) := by decide +kernel
theorem dX9_drawn_31 : decode cX9_drawn 31 = .ok (.iload_n 3, 1) := by decide +kernel
theorem dX9_drawn_32 : decode cX9_drawn 32 = .ok (.iconst 0, 1) := by decide +kernel
theorem dX9_drawn_33 : decode cX9_drawn 33 = .ok (.iconst 1, 1) := by decide +kernel
theorem dX9_drawn_34 : decode cX9_drawn 34 = .ok (.invokestatic 83, 3) := by decide +kernel
theorem dX9_drawn_37 : decode cX9_drawn 37 = .ok (.ifCond .ne 6, 3) := by decide +kernel
theorem dX9_drawn_40 : decode cX9_drawn 40 = .ok (.ldc 87, 2) := by decide +kernel
theorem dX9_drawn_42 : decode cX9_drawn 42 = .ok (.ireturn, 1) := by decide +kernel
theorem dX9_drawn_43 : decode cX9_drawn 43 = .ok (.aload_n 0, 1) := by decide +kernel
theorem dX9_drawn_44 : decode cX9_drawn 44 = .ok (.iload_n 1, 1) := by decide +kernel
theorem dX9_drawn_45 : decode cX9_drawn 45 = .ok (.iload_n 2, 1) := by decide +kernel
theorem dX9_drawn_46 : decode cX9_drawn 46 = .ok (.invokevirtual 337, 3) := by decide +kernel
theorem dX9_drawn_49 : decode cX9_drawn 49 = .ok (.iload_n 3, 1) := by decide +kernel
theorem dX9_drawn_50 : decode cX9_drawn 50 = .ok (.ifCond .ne 13, 3) := by decide +kernel
theorem dX9_drawn_53 : decode cX9_drawn 53 = .ok (.aload_n 0, 1) := by decide +kernel
theorem dX9_drawn_54 : decode cX9_drawn 54 = .ok (.getfield 37, 3) := by decide +kernel
theorem dX9_drawn_57 : decode cX9_drawn 57 = .ok (.getfield 255, 3) := by decide +kernel
theorem dX9_drawn_60 : decode cX9_drawn 60 = .ok (.goto 10, 3) := by decide +kernel
theorem dX9_drawn_63 : decode cX9_drawn 63 = .ok (.aload_n 0, 1) := by decide +kernel
theorem dX9_drawn_64 : decode cX9_drawn 64 = .ok (.getfield 37, 3) := by decide +kernel
theorem dX9_drawn_67 : decode cX9_drawn 67 = .ok (.getfield 185, 3) := by decide +kernel
theorem dX9_drawn_70 : decode cX9_drawn 70 = .ok (.ireturn, 1) := by decide +kernel
theorem dX9_image_0 : decode cX9_image 0 = .ok (.iload_n 1, 1) := by decide +kernel
theorem dX9_image_1 : decode cX9_image 1 = .ok (.iconst 0, 1) := by decide +kernel
theorem dX9_image_2 : decode cX9_image 2 = .ok (.iconst 1, 1) := by decide +kernel
theorem dX9_image_3 : decode cX9_image 3 = .ok (.invokestatic 83, 3) := by decide +kernel
theorem dX9_image_6 : decode cX9_image 6 = .ok (.ifCond .ne 6, 3) := by decide +kernel
theorem dX9_image_9 : decode cX9_image 9 = .ok (.ldc 87, 2) := by decide +kernel
theorem dX9_image_11 : decode cX9_image 11 = .ok (.ireturn, 1) := by decide +kernel
theorem dX9_image_12 : decode cX9_image 12 = .ok (.aload_n 0, 1) := by decide +kernel
theorem dX9_image_13 : decode cX9_image 13 = .ok (.invokevirtual 172, 3) := by decide +kernel
theorem dX9_image_16 : decode cX9_image 16 = .ok (.ifCond .eq 6, 3) := by decide +kernel
theorem dX9_image_19 : decode cX9_image 19 = .ok (.ldc 171, 2) := by decide +kernel
theorem dX9_image_21 : decode cX9_image 21 = .ok (.ireturn, 1) := by decide +kernel
theorem dX9_image_22 : decode cX9_image 22 = .ok (.aload_n 0, 1) := by decide +kernel
theorem dX9_image_23 : decode cX9_image 23 = .ok (.getfield 17, 3) := by decide +kernel
theorem dX9_image_26 : decode cX9_image 26 = .ok (.iload_n 1, 1) := by decide +kernel
theorem dX9_image_27 : decode cX9_image 27 = .ok (.aaload, 1) := by decide +kernel
theorem dX9_image_28 : decode cX9_image 28 = .ok (.getfield 340, 3) := by decide +kernel
theorem dX9_image_31 : decode cX9_image 31 = .ok (.aload_n 0, 1) := by decide +kernel
theorem dX9_image_32 : decode cX9_image 32 = .ok (.getfield 24, 3) := by decide +kernel
theorem dX9_image_35 : decode cX9_image 35 = .ok (.invokevirtual 148, 3) := by decide +kernel
theorem dX9_image_38 : decode cX9_image 38 = .ok (.aload_n 0, 1) := by decide +kernel
theorem dX9_image_39 : decode cX9_image 39 = .ok (.getfield 17, 3) := by decide +kernel
theorem dX9_image_42 : decode cX9_image 42 = .ok (.iload_n 1, 1) := by decide +kernel
theorem dX9_image_43 : decode cX9_image 43 = .ok (.aaload, 1) := by decide +kernel
theorem dX9_image_44 : decode cX9_image 44 = .ok (.getfield 341, 3) := by decide +kernel
theorem dX9_image_47 : decode cX9_image 47 = .ok (.aload_n 0, 1) := by decide +kernel
theorem dX9_image_48 : decode cX9_image 48 = .ok (.getfield 33, 3) := by decide +kernel
theorem dX9_image_51 : decode cX9_image 51 = .ok (.invokevirtual 152, 3) := by decide +kernel
theorem dX9_image_54 : decode cX9_image 54 = .ok (.aload_n 0, 1) := by decide +kernel
theorem dX9_image_55 : decode cX9_image 55 = .ok (.getfield 17, 3) := by decide +kernel
theorem dX9_image_58 : decode cX9_image 58 = .ok (.iload_n 1, 1) := by decide +kernel
theorem dX9_image_59 : decode cX9_image 59 = .ok (.aaload, 1) := by decide +kernel
theorem dX9_image_60 : decode cX9_image 60 = .ok (.iconst 1, 1) := by decide +kernel
theorem dX9_image_61 : decode cX9_image 61 = .ok (.putfield 342, 3) := by decide +kernel
theorem dX9_image_64 : decode cX9_image 64 = .ok (.iconst 1, 1) := by decide +kernel
theorem dX9_image_65 : decode cX9_image 65 = .ok (.ireturn, 1) := by decide +kernel
theorem dX9_restore_0 : decode cX9_restore 0 = .ok (.iload_n 1, 1) := by decide +kernel
theorem dX9_restore_1 : decode cX9_restore 1 = .ok (.iconst 0, 1) := by decide +kernel
theorem dX9_restore_2 : decode cX9_restore 2 = .ok (.iconst 1, 1) := by decide +kernel
theorem dX9_restore_3 : decode cX9_restore 3 = .ok (.invokestatic 83, 3) := by decide +kernel
theorem dX9_restore_6 : decode cX9_restore 6 = .ok (.ifCond .ne 6, 3) := by decide +kernel
theorem dX9_restore_9 : decode cX9_restore 9 = .ok (.ldc 87, 2) := by decide +kernel
theorem dX9_restore_11 : decode cX9_restore 11 = .ok (.ireturn, 1) := by decide +kernel
theorem dX9_restore_12 : decode cX9_restore 12 = .ok (.aload_n 0, 1) := by decide +kernel
theorem dX9_restore_13 : decode cX9_restore 13 = .ok (.getfield 17, 3) := by decide +kernel
theorem dX9_restore_16 : decode cX9_restore 16 = .ok (.iload_n 1, 1) := by decide +kernel
theorem dX9_restore_17 : decode cX9_restore 17 = .ok (.aaload, 1) := by decide +kernel
theorem dX9_restore_18 : decode cX9_restore 18 = .ok (.getfield 342, 3) := by decide +kernel
theorem dX9_restore_21 : decode cX9_restore 21 = .ok (.ifCond .ne 6, 3) := by decide +kernel
theorem dX9_restore_24 : decode cX9_restore 24 = .ok (.ldc 171, 2) := by decide +kernel
theorem dX9_restore_26 : decode cX9_restore 26 = .ok (.ireturn, 1) := by decide +kernel
theorem dX9_restore_27 : decode cX9_restore 27 = .ok (.aload_n 0, 1) := by decide +kernel
theorem dX9_restore_28 : decode cX9_restore 28 = .ok (.getfield 24, 3) := by decide +kernel
theorem dX9_restore_31 : decode cX9_restore 31 = .ok (.aload_n 0, 1) := by decide +kernel
theorem dX9_restore_32 : decode cX9_restore 32 = .ok (.getfield 17, 3) := by decide +kernel
theorem dX9_restore_35 : decode cX9_restore 35 = .ok (.iload_n 1, 1) := by decide +kernel
theorem dX9_restore_36 : decode cX9_restore 36 = .ok (.aaload, 1) := by decide +kernel
theorem dX9_restore_37 : decode cX9_restore 37 = .ok (.getfield 340, 3) := by decide +kernel
theorem dX9_restore_40 : decode cX9_restore 40 = .ok (.invokevirtual 148, 3) := by decide +kernel
theorem dX9_restore_43 : decode cX9_restore 43 = .ok (.aload_n 0, 1) := by decide +kernel
theorem dX9_restore_44 : decode cX9_restore 44 = .ok (.getfield 33, 3) := by decide +kernel
theorem dX9_restore_47 : decode cX9_restore 47 = .ok (.aload_n 0, 1) := by decide +kernel
theorem dX9_restore_48 : decode cX9_restore 48 = .ok (.getfield 17, 3) := by decide +kernel
theorem dX9_restore_51 : decode cX9_restore 51 = .ok (.iload_n 1, 1) := by decide +kernel
theorem dX9_restore_52 : decode cX9_restore 52 = .ok (.aaload, 1) := by decide +kernel
theorem dX9_restore_53 : decode cX9_restore 53 = .ok (.getfield 341, 3) := by decide +kernel
theorem dX9_restore_56 : decode cX9_restore 56 = .ok (.invokevirtual 152, 3) := by decide +kernel
theorem dX9_restore_59 : decode cX9_restore 59 = .ok (.aload_n 0, 1) := by decide +kernel
theorem dX9_restore_60 : decode cX9_restore 60 = .ok (.getfield 43, 3) := by decide +kernel
theorem dX9_restore_63 : decode cX9_restore 63 = .ok (.invokevirtual 155, 3) := by decide +kernel
theorem dX9_restore_66 : decode cX9_restore 66 = .ok (.iconst 1, 1) := by decide +kernel
theorem dX9_restore_67 : decode cX9_restore 67 = .ok (.ireturn, 1) := by decide +kernel
theorem dX9_kind_0 : decode cX9_kind 0 = .ok (.aload_n 0, 1) := by decide +kernel
theorem dX9_kind_1 : decode cX9_kind 1 = .ok (.getfield 24, 3) := by decide +kernel
theorem dX9_kind_4 : decode cX9_kind 4 = .ok (.iload_n 1, 1) := by decide +kernel
theorem dX9_kind_5 : decode cX9_kind 5 = .ok (.invokevirtual 188, 3) := by decide +kernel
theorem dX9_kind_8 : decode cX9_kind 8 = .ok (.ifCond .eq 15, 3) := by decide +kernel
theorem dX9_kind_11 : decode cX9_kind 11 = .ok (.aload_n 0, 1) := by decide +kernel
theorem dX9_kind_12 : decode cX9_kind 12 = .ok (.getfield 24, 3) := by decide +kernel
theorem dX9_kind_15 : decode cX9_kind 15 = .ok (.getfield 344, 3) := by decide +kernel
theorem dX9_kind_18 : decode cX9_kind 18 = .ok (.iload_n 1, 1) := by decide +kernel
theorem dX9_kind_19 : decode cX9_kind 19 = .ok (.iaload, 1) := by decide +kernel
theorem dX9_kind_20 : decode cX9_kind 20 = .ok (.goto 5, 3) := by decide +kernel
theorem dX9_kind_23 : decode cX9_kind 23 = .ok (.ldc 87, 2) := by decide +kernel
theorem dX9_kind_25 : decode cX9_kind 25 = .ok (.ireturn, 1) := by decide +kernel
theorem dX9_as_0 : decode cX9_as 0 = .ok (.aload_n 0, 1) := by decide +kernel
theorem dX9_as_1 : decode cX9_as 1 = .ok (.getfield 24, 3) := by decide +kernel
theorem dX9_as_4 : decode cX9_as 4 = .ok (.iload_n 1, 1) := by decide +kernel
theorem dX9_as_5 : decode cX9_as 5 = .ok (.invokevirtual 188, 3) := by decide +kernel
theorem dX9_as_8 : decode cX9_as 8 = .ok (.ifCond .eq 12, 3) := by decide +kernel
theorem dX9_as_11 : decode cX9_as 11 = .ok (.iload_n 2, 1) := by decide +kernel
theorem dX9_as_12 : decode cX9_as 12 = .ok (.iconst 0, 1) := by decide +kernel
theorem dX9_as_13 : decode cX9_as 13 = .ok (.iconst 5, 1) := by decide +kernel
theorem dX9_as_14 : decode cX9_as 14 = .ok (.invokestatic 83, 3) := by decide +kernel
theorem dX9_as_17 : decode cX9_as 17 = .ok (.ifCond .ne 6, 3) := by decide +kernel
theorem dX9_as_20 : decode cX9_as 20 = .ok (.ldc 87, 2) := by decide +kernel
theorem dX9_as_22 : decode cX9_as 22 = .ok (.ireturn, 1) := by decide +kernel
theorem dX9_as_23 : decode cX9_as 23 = .ok (.aload_n 0, 1) := by decide +kernel
theorem dX9_as_24 : decode cX9_as 24 = .ok (.getfield 24, 3) := by decide +kernel
theorem dX9_as_27 : decode cX9_as 27 = .ok (.getfield 344, 3) := by decide +kernel
theorem dX9_as_30 : decode cX9_as 30 = .ok (.iload_n 1, 1) := by decide +kernel
theorem dX9_as_31 : decode cX9_as 31 = .ok (.iaload, 1) := by decide +kernel
theorem dX9_as_32 : decode cX9_as 32 = .ok (.iload_n 2, 1) := by decide +kernel
theorem dX9_as_33 : decode cX9_as 33 = .ok (.invokestatic 347, 3) := by decide +kernel
theorem dX9_as_36 : decode cX9_as 36 = .ok (.ifCond .eq 11, 3) := by decide +kernel
theorem dX9_as_39 : decode cX9_as 39 = .ok (.aload_n 0, 1) := by decide +kernel
theorem dX9_as_40 : decode cX9_as 40 = .ok (.iload_n 1, 1) := by decide +kernel
theorem dX9_as_41 : decode cX9_as 41 = .ok (.invokevirtual 96, 3) := by decide +kernel
theorem dX9_as_44 : decode cX9_as 44 = .ok (.goto 8, 3) := by decide +kernel
theorem dX9_as_47 : decode cX9_as 47 = .ok (.aload_n 0, 1) := by decide +kernel
theorem dX9_as_48 : decode cX9_as 48 = .ok (.iconst 3, 1) := by decide +kernel
theorem dX9_as_49 : decode cX9_as 49 = .ok (.invokevirtual 88, 3) := by decide +kernel
theorem dX9_as_52 : decode cX9_as 52 = .ok (.ireturn, 1) := by decide +kernel
theorem dX9_ask_0 : decode cX9_ask 0 = .ok (.aload_n 0, 1) := by decide +kernel
theorem dX9_ask_1 : decode cX9_ask 1 = .ok (.getfield 24, 3) := by decide +kernel
theorem dX9_ask_4 : decode cX9_ask 4 = .ok (.iload_n 1, 1) := by decide +kernel
theorem dX9_ask_5 : decode cX9_ask 5 = .ok (.invokevirtual 188, 3) := by decide +kernel
theorem dX9_ask_8 : decode cX9_ask 8 = .ok (.ifCond .eq 12, 3) := by decide +kernel
theorem dX9_ask_11 : decode cX9_ask 11 = .ok (.iload_n 2, 1) := by decide +kernel
theorem dX9_ask_12 : decode cX9_ask 12 = .ok (.iconst 0, 1) := by decide +kernel
theorem dX9_ask_13 : decode cX9_ask 13 = .ok (.iconst 1, 1) := by decide +kernel
theorem dX9_ask_14 : decode cX9_ask 14 = .ok (.invokestatic 83, 3) := by decide +kernel
theorem dX9_ask_17 : decode cX9_ask 17 = .ok (.ifCond .ne 6, 3) := by decide +kernel
theorem dX9_ask_20 : decode cX9_ask 20 = .ok (.ldc 87, 2) := by decide +kernel
theorem dX9_ask_22 : decode cX9_ask 22 = .ok (.ireturn, 1) := by decide +kernel
theorem dX9_ask_23 : decode cX9_ask 23 = .ok (.aload_n 0, 1) := by decide +kernel
theorem dX9_ask_24 : decode cX9_ask 24 = .ok (.getfield 73, 3) := by decide +kernel
theorem dX9_ask_27 : decode cX9_ask 27 = .ok (.iload_n 1, 1) := by decide +kernel
theorem dX9_ask_28 : decode cX9_ask 28 = .ok (.iload_n 2, 1) := by decide +kernel
theorem dX9_ask_29 : decode cX9_ask 29 = .ok (.invokevirtual 350, 3) := by decide +kernel
theorem dX9_ask_32 : decode cX9_ask 32 = .ok (.ireturn, 1) := by decide +kernel
theorem dX9_trace_0 : decode cX9_trace 0 = .ok (.iload_n 1, 1) := by decide +kernel
theorem dX9_trace_1 : decode cX9_trace 1 = .ok (.ifCond .lt 26, 3) := by decide +kernel
theorem dX9_trace_4 : decode cX9_trace 4 = .ok (.iload_n 1, 1) := by decide +kernel
theorem dX9_trace_5 : decode cX9_trace 5 = .ok (.aload_n 0, 1) := by decide +kernel
theorem dX9_trace_6 : decode cX9_trace 6 = .ok (.getfield 73, 3) := by decide +kernel
theorem dX9_trace_9 : decode cX9_trace 9 = .ok (.getfield 353, 3) := by decide +kernel
theorem dX9_trace_12 : decode cX9_trace 12 = .ok (.if_icmp .ge 15, 3) := by decide +kernel
theorem dX9_trace_15 : decode cX9_trace 15 = .ok (.aload_n 0, 1) := by decide +kernel
theorem dX9_trace_16 : decode cX9_trace 16 = .ok (.getfield 73, 3) := by decide +kernel
theorem dX9_trace_19 : decode cX9_trace 19 = .ok (.getfield 356, 3) := by decide +kernel
theorem dX9_trace_22 : decode cX9_trace 22 = .ok (.iload_n 1, 1) := by decide +kernel
theorem dX9_trace_23 : decode cX9_trace 23 = .ok (.iaload, 1) := by decide +kernel
theorem dX9_trace_24 : decode cX9_trace 24 = .ok (.goto 5, 3) := by decide +kernel
theorem dX9_trace_27 : decode cX9_trace 27 = .ok (.ldc 221, 2) := by decide +kernel
theorem dX9_trace_29 : decode cX9_trace 29 = .ok (.ireturn, 1) := by decide +kernel
theorem dX9_count_0 : decode cX9_count 0 = .ok (.iload_n 1, 1) := by decide +kernel
theorem dX9_count_1 : decode cX9_count 1 = .ok (.tableswitch 108 0 7 #[47, 52, 60, 68, 76, 84, 92, 100], 47) := by decide +kernel
theorem dX9_count_48 : decode cX9_count 48 = .ok (.aload_n 0, 1) := by decide +kernel
theorem dX9_count_49 : decode cX9_count 49 = .ok (.invokevirtual 359, 3) := by decide +kernel
theorem dX9_count_52 : decode cX9_count 52 = .ok (.ireturn, 1) := by decide +kernel
theorem dX9_count_53 : decode cX9_count 53 = .ok (.aload_n 0, 1) := by decide +kernel
theorem dX9_count_54 : decode cX9_count 54 = .ok (.getfield 24, 3) := by decide +kernel
theorem dX9_count_57 : decode cX9_count 57 = .ok (.getfield 315, 3) := by decide +kernel
theorem dX9_count_60 : decode cX9_count 60 = .ok (.ireturn, 1) := by decide +kernel
theorem dX9_count_61 : decode cX9_count 61 = .ok (.aload_n 0, 1) := by decide +kernel
theorem dX9_count_62 : decode cX9_count 62 = .ok (.getfield 24, 3) := by decide +kernel
theorem dX9_count_65 : decode cX9_count 65 = .ok (.getfield 158, 3) := by decide +kernel
theorem dX9_count_68 : decode cX9_count 68 = .ok (.ireturn, 1) := by decide +kernel
theorem dX9_count_69 : decode cX9_count 69 = .ok (.aload_n 0, 1) := by decide +kernel
theorem dX9_count_70 : decode cX9_count 70 = .ok (.getfield 33, 3) := by decide +kernel
theorem dX9_count_73 : decode cX9_count 73 = .ok (.getfield 175, 3) := by decide +kernel
theorem dX9_count_76 : decode cX9_count 76 = .ok (.ireturn, 1) := by decide +kernel
theorem dX9_count_77 : decode cX9_count 77 = .ok (.aload_n 0, 1) := by decide +kernel
theorem dX9_count_78 : decode cX9_count 78 = .ok (.getfield 33, 3) := by decide +kernel
theorem dX9_count_81 : decode cX9_count 81 = .ok (.getfield 206, 3) := by decide +kernel
theorem dX9_count_84 : decode cX9_count 84 = .ok (.ireturn, 1) := by decide +kernel
theorem dX9_count_85 : decode cX9_count 85 = .ok (.aload_n 0, 1) := by decide +kernel
theorem dX9_count_86 : decode cX9_count 86 = .ok (.getfield 33, 3) := by decide +kernel
theorem dX9_count_89 : decode cX9_count 89 = .ok (.getfield 185, 3) := by decide +kernel
theorem dX9_count_92 : decode cX9_count 92 = .ok (.ireturn, 1) := by decide +kernel
theorem dX9_count_93 : decode cX9_count 93 = .ok (.aload_n 0, 1) := by decide +kernel
theorem dX9_count_94 : decode cX9_count 94 = .ok (.getfield 43, 3) := by decide +kernel
theorem dX9_count_97 : decode cX9_count 97 = .ok (.getfield 168, 3) := by decide +kernel
theorem dX9_count_100 : decode cX9_count 100 = .ok (.ireturn, 1) := by decide +kernel
theorem dX9_count_101 : decode cX9_count 101 = .ok (.aload_n 0, 1) := by decide +kernel
theorem dX9_count_102 : decode cX9_count 102 = .ok (.getfield 64, 3) := by decide +kernel
theorem dX9_count_105 : decode cX9_count 105 = .ok (.getfield 135, 3) := by decide +kernel
theorem dX9_count_108 : decode cX9_count 108 = .ok (.ireturn, 1) := by decide +kernel
theorem dX9_count_109 : decode cX9_count 109 = .ok (.ldc 87, 2) := by decide +kernel
theorem dX9_count_111 : decode cX9_count 111 = .ok (.ireturn, 1) := by decide +kernel
theorem dX9_status_0 : decode cX9_status 0 = .ok (.aload_n 0, 1) := by decide +kernel
theorem dX9_status_1 : decode cX9_status 1 = .ok (.getfield 362, 3) := by decide +kernel
theorem dX9_status_4 : decode cX9_status 4 = .ok (.ireturn, 1) := by decide +kernel
theorem dX9_within_0 : decode cX9_within 0 = .ok (.iload_n 0, 1) := by decide +kernel
theorem dX9_within_1 : decode cX9_within 1 = .ok (.iload_n 1, 1) := by decide +kernel
theorem dX9_within_2 : decode cX9_within 2 = .ok (.if_icmp .lt 12, 3) := by decide +kernel
theorem dX9_within_5 : decode cX9_within 5 = .ok (.iload_n 0, 1) := by decide +kernel
theorem dX9_within_6 : decode cX9_within 6 = .ok (.iload_n 2, 1) := by decide +kernel
theorem dX9_within_7 : decode cX9_within 7 = .ok (.if_icmp .gt 7, 3) := by decide +kernel
theorem dX9_within_10 : decode cX9_within 10 = .ok (.iconst 1, 1) := by decide +kernel
theorem dX9_within_11 : decode cX9_within 11 = .ok (.goto 4, 3) := by decide +kernel
theorem dX9_within_14 : decode cX9_within 14 = .ok (.iconst 0, 1) := by decide +kernel
theorem dX9_within_15 : decode cX9_within 15 = .ok (.ireturn, 1) := by decide +kernel
theorem dX9_isRow_0 : decode cX9_isRow 0 = .ok (.iload_n 0, 1) := by decide +kernel
theorem dX9_isRow_1 : decode cX9_isRow 1 = .ok (.ifCond .lt 13, 3) := by decide +kernel
theorem dX9_isRow_4 : decode cX9_isRow 4 = .ok (.iload_n 0, 1) := by decide +kernel
theorem dX9_isRow_5 : decode cX9_isRow 5 = .ok (.bipush 8, 2) := by decide +kernel
theorem dX9_isRow_7 : decode cX9_isRow 7 = .ok (.if_icmp .ge 7, 3) := by decide +kernel
theorem dX9_isRow_10 : decode cX9_isRow 10 = .ok (.iconst 1, 1) := by decide +kernel
theorem dX9_isRow_11 : decode cX9_isRow 11 = .ok (.goto 4, 3) := by decide +kernel
theorem dX9_isRow_14 : decode cX9_isRow 14 = .ok (.iconst 0, 1) := by decide +kernel
theorem dX9_isRow_15 : decode cX9_isRow 15 = .ok (.ireturn, 1) := by decide +kernel
theorem dX9_noDuchy_0 : decode cX9_noDuchy 0 = .ok (.aload_n 0, 1) := by decide +kernel
theorem dX9_noDuchy_1 : decode cX9_noDuchy 1 = .ok (.getfield 24, 3) := by decide +kernel
theorem dX9_noDuchy_4 : decode cX9_noDuchy 4 = .ok (.getfield 315, 3) := by decide +kernel
theorem dX9_noDuchy_7 : decode cX9_noDuchy 7 = .ok (.ifCond .ne 7, 3) := by decide +kernel
theorem dX9_noDuchy_10 : decode cX9_noDuchy 10 = .ok (.iconst 1, 1) := by decide +kernel
theorem dX9_noDuchy_11 : decode cX9_noDuchy 11 = .ok (.goto 4, 3) := by decide +kernel
theorem dX9_noDuchy_14 : decode cX9_noDuchy 14 = .ok (.iconst 0, 1) := by decide +kernel
theorem dX9_noDuchy_15 : decode cX9_noDuchy 15 = .ok (.ireturn, 1) := by decide +kernel
theorem dX9_found_0 : decode cX9_found 0 = .ok (.aload_n 0, 1) := by decide +kernel
theorem dX9_found_1 : decode cX9_found 1 = .ok (.iload_n 1, 1) := by decide +kernel
theorem dX9_found_2 : decode cX9_found 2 = .ok (.putfield 362, 3) := by decide +kernel
theorem dX9_found_5 : decode cX9_found 5 = .ok (.ldc_w 365, 3) := by decide +kernel
theorem dX9_found_8 : decode cX9_found 8 = .ok (.iload_n 1, 1) := by decide +kernel
theorem dX9_found_9 : decode cX9_found 9 = .ok (.isub, 1) := by decide +kernel
theorem dX9_found_10 : decode cX9_found 10 = .ok (.ireturn, 1) := by decide +kernel
theorem dX9_fine_0 : decode cX9_fine 0 = .ok (.aload_n 0, 1) := by decide +kernel
theorem dX9_fine_1 : decode cX9_fine 1 = .ok (.iconst 0, 1) := by decide +kernel
theorem dX9_fine_2 : decode cX9_fine 2 = .ok (.putfield 362, 3) := by decide +kernel
theorem dX9_fine_5 : decode cX9_fine 5 = .ok (.iload_n 1, 1) := by decide +kernel
theorem dX9_fine_6 : decode cX9_fine 6 = .ok (.ireturn, 1) := by decide +kernel
theorem dX9_stretchFinding_0 : decode cX9_stretchFinding 0 = .ok (.aload_n 0, 1) := by decide +kernel
theorem dX9_stretchFinding_1 : decode cX9_stretchFinding 1 = .ok (.getfield 11, 3) := by decide +kernel
theorem dX9_stretchFinding_4 : decode cX9_stretchFinding 4 = .ok (.iload_n 1, 1) := by decide +kernel
theorem dX9_stretchFinding_5 : decode cX9_stretchFinding 5 = .ok (.aaload, 1) := by decide +kernel
theorem dX9_stretchFinding_6 : decode cX9_stretchFinding 6 = .ok (.getfield 107, 3) := by decide +kernel
theorem dX9_stretchFinding_9 : decode cX9_stretchFinding 9 = .ok (.ifCond .ne 5, 3) := by decide +kernel
theorem dX9_stretchFinding_12 : decode cX9_stretchFinding 12 = .ok (.iconst 1, 1) := by decide +kernel
theorem dX9_stretchFinding_13 : decode cX9_stretchFinding 13 = .ok (.ireturn, 1) := by decide +kernel
theorem dX9_stretchFinding_14 : decode cX9_stretchFinding 14 = .ok (.aload_n 0, 1) := by decide +kernel
theorem dX9_stretchFinding_15 : decode cX9_stretchFinding 15 = .ok (.getfield 11, 3) := by decide +kernel
theorem dX9_stretchFinding_18 : decode cX9_stretchFinding 18 = .ok (.iload_n 1, 1) := by decide +kernel
theorem dX9_stretchFinding_19 : decode cX9_stretchFinding 19 = .ok (.aaload, 1) := by decide +kernel
theorem dX9_stretchFinding_20 : decode cX9_stretchFinding 20 = .ok (.iload_n 2, 1) := by decide +kernel
theorem dX9_stretchFinding_21 : decode cX9_stretchFinding 21 = .ok (.iload_n 3, 1) := by decide +kernel
theorem dX9_stretchFinding_22 : decode cX9_stretchFinding 22 = .ok (.invokevirtual 115, 3) := by decide +kernel
theorem dX9_stretchFinding_25 : decode cX9_stretchFinding 25 = .ok (.ifCond .eq 7, 3) := by decide +kernel
theorem dX9_stretchFinding_28 : decode cX9_stretchFinding 28 = .ok (.iconst 0, 1) := by decide +kernel
theorem dX9_stretchFinding_29 : decode cX9_stretchFinding 29 = .ok (.goto 4, 3) := by decide +kernel
theorem dX9_stretchFinding_32 : decode cX9_stretchFinding 32 = .ok (.iconst 2, 1) := by decide +kernel
theorem dX9_stretchFinding_33 : decode cX9_stretchFinding 33 = .ok (.ireturn, 1) := by decide +kernel
theorem dX9_rowsThere_0 : decode cX9_rowsThere 0 = .ok (.iconst 0, 1) := by decide +kernel
theorem dX9_rowsThere_1 : decode cX9_rowsThere 1 = .ok (.istore_n 1, 1) := by decide +kernel
theorem dX9_rowsThere_2 : decode cX9_rowsThere 2 = .ok (.iconst 0, 1) := by decide +kernel
theorem dX9_rowsThere_3 : decode cX9_rowsThere 3 = .ok (.istore_n 2, 1) := by decide +kernel
theorem dX9_rowsThere_4 : decode cX9_rowsThere 4 = .ok (.iload_n 2, 1) := by decide +kernel
theorem dX9_rowsThere_5 : decode cX9_rowsThere 5 = .ok (.bipush 8, 2) := by decide +kernel
theorem dX9_rowsThere_7 : decode cX9_rowsThere 7 = .ok (.if_icmp .ge 24, 3) := by decide +kernel
theorem dX9_rowsThere_10 : decode cX9_rowsThere 10 = .ok (.aload_n 0, 1) := by decide +kernel
theorem dX9_rowsThere_11 : decode cX9_rowsThere 11 = .ok (.getfield 11, 3) := by decide +kernel
theorem dX9_rowsThere_14 : decode cX9_rowsThere 14 = .ok (.iload_n 2, 1) := by decide +kernel
theorem dX9_rowsThere_15 : decode cX9_rowsThere 15 = .ok (.aaload, 1) := by decide +kernel
theorem dX9_rowsThere_16 : decode cX9_rowsThere 16 = .ok (.getfield 107, 3) := by decide +kernel
theorem dX9_rowsThere_19 : decode cX9_rowsThere 19 = .ok (.ifCond .eq 6, 3) := by decide +kernel
theorem dX9_rowsThere_22 : decode cX9_rowsThere 22 = .ok (.iinc 1 1, 3) := by decide +kernel
theorem dX9_rowsThere_25 : decode cX9_rowsThere 25 = .ok (.iinc 2 1, 3) := by decide +kernel
theorem dX9_rowsThere_28 : decode cX9_rowsThere 28 = .ok (.goto (-24), 3) := by decide +kernel
theorem dX9_rowsThere_31 : decode cX9_rowsThere 31 = .ok (.iload_n 1, 1) := by decide +kernel
theorem dX9_rowsThere_32 : decode cX9_rowsThere 32 = .ok (.ireturn, 1) := by decide +kernel
theorem dX9_isKind_0 : decode cX9_isKind 0 = .ok (.iload_n 0, 1) := by decide +kernel
theorem dX9_isKind_1 : decode cX9_isKind 1 = .ok (.istore_n 2, 1) := by decide +kernel
theorem dX9_isKind_2 : decode cX9_isKind 2 = .ok (.iconst 0, 1) := by decide +kernel
theorem dX9_isKind_3 : decode cX9_isKind 3 = .ok (.istore_n 3, 1) := by decide +kernel
theorem dX9_isKind_4 : decode cX9_isKind 4 = .ok (.iload_n 3, 1) := by decide +kernel
theorem dX9_isKind_5 : decode cX9_isKind 5 = .ok (.getstatic 366, 3) := by decide +kernel
theorem dX9_isKind_8 : decode cX9_isKind 8 = .ok (.arraylength, 1) := by decide +kernel
theorem dX9_isKind_9 : decode cX9_isKind 9 = .ok (.if_icmp .ge 34, 3) := by decide +kernel
theorem dX9_isKind_12 : decode cX9_isKind 12 = .ok (.iload_n 2, 1) := by decide +kernel
theorem dX9_isKind_13 : decode cX9_isKind 13 = .ok (.ifCond .lt 30, 3) := by decide +kernel
theorem dX9_isKind_16 : decode cX9_isKind 16 = .ok (.iload_n 2, 1) := by decide +kernel
theorem dX9_isKind_17 : decode cX9_isKind 17 = .ok (.getstatic 366, 3) := by decide +kernel
theorem dX9_isKind_20 : decode cX9_isKind 20 = .ok (.arraylength, 1) := by decide +kernel
theorem dX9_isKind_21 : decode cX9_isKind 21 = .ok (.if_icmp .ge 22, 3) := by decide +kernel
theorem dX9_isKind_24 : decode cX9_isKind 24 = .ok (.iload_n 2, 1) := by decide +kernel
theorem dX9_isKind_25 : decode cX9_isKind 25 = .ok (.iload_n 1, 1) := by decide +kernel
theorem dX9_isKind_26 : decode cX9_isKind 26 = .ok (.if_icmp .ne 5, 3) := by decide +kernel
theorem dX9_isKind_29 : decode cX9_isKind 29 = .ok (.iconst 1, 1) := by decide +kernel
theorem dX9_isKind_30 : decode cX9_isKind 30 = .ok (.ireturn, 1) := by decide +kernel
theorem dX9_isKind_31 : decode cX9_isKind 31 = .ok (.getstatic 366, 3) := by decide +kernel
theorem dX9_isKind_34 : decode cX9_isKind 34 = .ok (.iload_n 2, 1) := by decide +kernel
theorem dX9_isKind_35 : decode cX9_isKind 35 = .ok (.iaload, 1) := by decide +kernel
theorem dX9_isKind_36 : decode cX9_isKind 36 = .ok (.istore_n 2, 1) := by decide +kernel
theorem dX9_isKind_37 : decode cX9_isKind 37 = .ok (.iinc 3 1, 3) := by decide +kernel
theorem dX9_isKind_40 : decode cX9_isKind 40 = .ok (.goto (-36), 3) := by decide +kernel
theorem dX9_isKind_43 : decode cX9_isKind 43 = .ok (.iconst 0, 1) := by decide +kernel
theorem dX9_isKind_44 : decode cX9_isKind 44 = .ok (.ireturn, 1) := by decide +kernel
theorem dX9_largestSet_0 : decode cX9_largestSet 0 = .ok (.iconst 0, 1) := by decide +kernel
theorem dX9_largestSet_1 : decode cX9_largestSet 1 = .ok (.istore_n 1, 1) := by decide +kernel
theorem dX9_largestSet_2 : decode cX9_largestSet 2 = .ok (.iconst 0, 1) := by decide +kernel
theorem dX9_largestSet_3 : decode cX9_largestSet 3 = .ok (.istore_n 2, 1) := by decide +kernel
theorem dX9_largestSet_4 : decode cX9_largestSet 4 = .ok (.iconst 1, 1) := by decide +kernel
theorem dX9_largestSet_5 : decode cX9_largestSet 5 = .ok (.istore_n 3, 1) := by decide +kernel
theorem dX9_largestSet_6 : decode cX9_largestSet 6 = .ok (.iload_n 3, 1) := by decide +kernel
theorem dX9_largestSet_7 : decode cX9_largestSet 7 = .ok (.iconst 1, 1) := by decide +kernel
theorem dX9_largestSet_8 : decode cX9_largestSet 8 = .ok (.aload_n 0, 1) := by decide +kernel
theorem dX9_largestSet_9 : decode cX9_largestSet 9 = .ok (.getfield 24, 3) := by decide +kernel
theorem dX9_largestSet_12 : decode cX9_largestSet 12 = .ok (.getfield 158, 3) := by decide +kernel
theorem dX9_largestSet_15 : decode cX9_largestSet 15 = .ok (.ishl, 1) := by decide +kernel
theorem dX9_largestSet_16 : decode cX9_largestSet 16 = .ok (.if_icmp .ge 64, 3) := by decide +kernel
theorem dX9_largestSet_19 : decode cX9_largestSet 19 = .ok (.iload_n 3, 1) := by decide +kernel
theorem dX9_largestSet_20 : decode cX9_largestSet 20 = .ok (.invokestatic 283, 3) := by decide +kernel
theorem dX9_largestSet_23 : decode cX9_largestSet 23 = .ok (.iload_n 1, 1) := by decide +kernel
theorem dX9_largestSet_24 : decode cX9_largestSet 24 = .ok (.invokestatic 283, 3) := by decide +kernel
theorem dX9_largestSet_27 : decode cX9_largestSet 27 = .ok (.if_icmp .ge 8, 3) := by decide +kernel
theorem dX9_largestSet_30 : decode cX9_largestSet 30 = .ok (.ldc 221, 2) := by decide +kernel
theorem dX9_largestSet_32 : decode cX9_largestSet 32 = .ok (.goto 8, 3) := by decide +kernel
theorem dX9_largestSet_35 : decode cX9_largestSet 35 = .ok (.aload_n 0, 1) := by decide +kernel
theorem dX9_largestSet_36 : decode cX9_largestSet 36 = .ok (.iload_n 3, 1) := by decide +kernel
theorem dX9_largestSet_37 : decode cX9_largestSet 37 = .ok (.invokevirtual 277, 3) := by decide +kernel
theorem dX9_largestSet_40 : decode cX9_largestSet 40 = .ok (.istore 4, 2) := by decide +kernel
theorem dX9_largestSet_42 : decode cX9_largestSet 42 = .ok (.iload 4, 2) := by decide +kernel
theorem dX9_largestSet_44 : decode cX9_largestSet 44 = .ok (.ldc 221, 2) := by decide +kernel
theorem dX9_largestSet_46 : decode cX9_largestSet 46 = .ok (.if_icmp .ne 6, 3) := by decide +kernel
theorem dX9_largestSet_49 : decode cX9_largestSet 49 = .ok (.goto 25, 3) := by decide +kernel
theorem dX9_largestSet_52 : decode cX9_largestSet 52 = .ok (.iload_n 3, 1) := by decide +kernel
theorem dX9_largestSet_53 : decode cX9_largestSet 53 = .ok (.invokestatic 283, 3) := by decide +kernel
theorem dX9_largestSet_56 : decode cX9_largestSet 56 = .ok (.iload_n 1, 1) := by decide +kernel
theorem dX9_largestSet_57 : decode cX9_largestSet 57 = .ok (.invokestatic 283, 3) := by decide +kernel
theorem dX9_largestSet_60 : decode cX9_largestSet 60 = .ok (.if_icmp .gt 9, 3) := by decide +kernel
theorem dX9_largestSet_63 : decode cX9_largestSet 63 = .ok (.iload 4, 2) := by decide +kernel
theorem dX9_largestSet_65 : decode cX9_largestSet 65 = .ok (.iload_n 2, 1) := by decide +kernel
theorem dX9_largestSet_66 : decode cX9_largestSet 66 = .ok (.if_icmp .ge 8, 3) := by decide +kernel
theorem dX9_largestSet_69 : decode cX9_largestSet 69 = .ok (.iload_n 3, 1) := by decide +kernel
theorem dX9_largestSet_70 : decode cX9_largestSet 70 = .ok (.istore_n 1, 1) := by decide +kernel
theorem dX9_largestSet_71 : decode cX9_largestSet 71 = .ok (.iload 4, 2) := by decide +kernel
theorem dX9_largestSet_73 : decode cX9_largestSet 73 = .ok (.istore_n 2, 1) := by decide +kernel
theorem dX9_largestSet_74 : decode cX9_largestSet 74 = .ok (.iinc 3 1, 3) := by decide +kernel
theorem dX9_largestSet_77 : decode cX9_largestSet 77 = .ok (.goto (-71), 3) := by decide +kernel
theorem dX9_largestSet_80 : decode cX9_largestSet 80 = .ok (.iload_n 1, 1) := by decide +kernel
theorem dX9_largestSet_81 : decode cX9_largestSet 81 = .ok (.ireturn, 1) := by decide +kernel
theorem dX9_tryAllOf_0 : decode cX9_tryAllOf 0 = .ok (.aload_n 0, 1) := by decide +kernel
theorem dX9_tryAllOf_1 : decode cX9_tryAllOf 1 = .ok (.getfield 37, 3) := by decide +kernel
theorem dX9_tryAllOf_4 : decode cX9_tryAllOf 4 = .ok (.aload_n 0, 1) := by decide +kernel
theorem dX9_tryAllOf_5 : decode cX9_tryAllOf 5 = .ok (.getfield 33, 3) := by decide +kernel
theorem dX9_tryAllOf_8 : decode cX9_tryAllOf 8 = .ok (.invokevirtual 152, 3) := by decide +kernel
theorem dX9_tryAllOf_11 : decode cX9_tryAllOf 11 = .ok (.iconst 0, 1) := by decide +kernel
theorem dX9_tryAllOf_12 : decode cX9_tryAllOf 12 = .ok (.istore_n 2, 1) := by decide +kernel
theorem dX9_tryAllOf_13 : decode cX9_tryAllOf 13 = .ok (.iconst 0, 1) := by decide +kernel
theorem dX9_tryAllOf_14 : decode cX9_tryAllOf 14 = .ok (.istore_n 3, 1) := by decide +kernel
theorem dX9_tryAllOf_15 : decode cX9_tryAllOf 15 = .ok (.iload_n 3, 1) := by decide +kernel
theorem dX9_tryAllOf_16 : decode cX9_tryAllOf 16 = .ok (.aload_n 0, 1) := by decide +kernel
theorem dX9_tryAllOf_17 : decode cX9_tryAllOf 17 = .ok (.getfield 24, 3) := by decide +kernel
theorem dX9_tryAllOf_20 : decode cX9_tryAllOf 20 = .ok (.getfield 158, 3) := by decide +kernel
theorem dX9_tryAllOf_23 : decode cX9_tryAllOf 23 = .ok (.if_icmp .ge 45, 3) := by decide +kernel
theorem dX9_tryAllOf_26 : decode cX9_tryAllOf 26 = .ok (.iload_n 1, 1) := by decide +kernel
theorem dX9_tryAllOf_27 : decode cX9_tryAllOf 27 = .ok (.iload_n 3, 1) := by decide +kernel
theorem dX9_tryAllOf_28 : decode cX9_tryAllOf 28 = .ok (.ishr, 1) := by decide +kernel
theorem dX9_tryAllOf_29 : decode cX9_tryAllOf 29 = .ok (.iconst 1, 1) := by decide +kernel
theorem dX9_tryAllOf_30 : decode cX9_tryAllOf 30 = .ok (.iand, 1) := by decide +kernel
theorem dX9_tryAllOf_31 : decode cX9_tryAllOf 31 = .ok (.ifCond .ne 6, 3) := by decide +kernel
theorem dX9_tryAllOf_34 : decode cX9_tryAllOf 34 = .ok (.goto 28, 3) := by decide +kernel
theorem dX9_tryAllOf_37 : decode cX9_tryAllOf 37 = .ok (.aload_n 0, 1) := by decide +kernel
theorem dX9_tryAllOf_38 : decode cX9_tryAllOf 38 = .ok (.getfield 37, 3) := by decide +kernel
theorem dX9_tryAllOf_41 : decode cX9_tryAllOf 41 = .ok (.iload_n 3, 1) := by decide +kernel
theorem dX9_tryAllOf_42 : decode cX9_tryAllOf 42 = .ok (.invokevirtual 191, 3) := by decide +kernel
theorem dX9_tryAllOf_45 : decode cX9_tryAllOf 45 = .ok (.ifCond .ne 6, 3) := by decide +kernel
theorem dX9_tryAllOf_48 : decode cX9_tryAllOf 48 = .ok (.ldc 221, 2) := by decide +kernel
theorem dX9_tryAllOf_50 : decode cX9_tryAllOf 50 = .ok (.ireturn, 1) := by decide +kernel
theorem dX9_tryAllOf_51 : decode cX9_tryAllOf 51 = .ok (.iload_n 2, 1) := by decide +kernel
theorem dX9_tryAllOf_52 : decode cX9_tryAllOf 52 = .ok (.aload_n 0, 1) := by decide +kernel
theorem dX9_tryAllOf_53 : decode cX9_tryAllOf 53 = .ok (.getfield 37, 3) := by decide +kernel
theorem dX9_tryAllOf_56 : decode cX9_tryAllOf 56 = .ok (.iload_n 3, 1) := by decide +kernel
theorem dX9_tryAllOf_57 : decode cX9_tryAllOf 57 = .ok (.invokevirtual 194, 3) := by decide +kernel
theorem dX9_tryAllOf_60 : decode cX9_tryAllOf 60 = .ok (.iadd, 1) := by decide +kernel
theorem dX9_tryAllOf_61 : decode cX9_tryAllOf 61 = .ok (.istore_n 2, 1) := by decide +kernel
theorem dX9_tryAllOf_62 : decode cX9_tryAllOf 62 = .ok (.iinc 3 1, 3) := by decide +kernel
theorem dX9_tryAllOf_65 : decode cX9_tryAllOf 65 = .ok (.goto (-50), 3) := by decide +kernel
theorem dX9_tryAllOf_68 : decode cX9_tryAllOf 68 = .ok (.iload_n 2, 1) := by decide +kernel
theorem dX9_tryAllOf_69 : decode cX9_tryAllOf 69 = .ok (.ireturn, 1) := by decide +kernel
theorem dX9_fewestDeaf_0 : decode cX9_fewestDeaf 0 = .ok (.iconst 1, 1) := by decide +kernel
theorem dX9_fewestDeaf_1 : decode cX9_fewestDeaf 1 = .ok (.iload_n 2, 1) := by decide +kernel
theorem dX9_fewestDeaf_2 : decode cX9_fewestDeaf 2 = .ok (.ishl, 1) := by decide +kernel
theorem dX9_fewestDeaf_3 : decode cX9_fewestDeaf 3 = .ok (.iconst 1, 1) := by decide +kernel
theorem dX9_fewestDeaf_4 : decode cX9_fewestDeaf 4 = .ok (.aload_n 0, 1) := by decide +kernel
theorem dX9_fewestDeaf_5 : decode cX9_fewestDeaf 5 = .ok (.getfield 24, 3) := by decide +kernel
theorem dX9_fewestDeaf_8 : decode cX9_fewestDeaf 8 = .ok (.getfield 212, 3) := by decide +kernel
theorem dX9_fewestDeaf_11 : decode cX9_fewestDeaf 11 = .ok (.iload_n 1, 1) := by decide +kernel
theorem dX9_fewestDeaf_12 : decode cX9_fewestDeaf 12 = .ok (.iaload, 1) := by decide +kernel
theorem dX9_fewestDeaf_13 : decode cX9_fewestDeaf 13 = .ok (.ishl, 1) := by decide +kernel
theorem dX9_fewestDeaf_14 : decode cX9_fewestDeaf 14 = .ok (.ior, 1) := by decide +kernel
theorem dX9_fewestDeaf_15 : decode cX9_fewestDeaf 15 = .ok (.istore 4, 2) := by decide +kernel
theorem dX9_fewestDeaf_17 : decode cX9_fewestDeaf 17 = .ok (.ldc 221, 2) := by decide +kernel
theorem dX9_fewestDeaf_19 : decode cX9_fewestDeaf 19 = .ok (.istore 5, 2) := by decide +kernel
theorem dX9_fewestDeaf_21 : decode cX9_fewestDeaf 21 = .ok (.iconst 0, 1) := by decide +kernel
theorem dX9_fewestDeaf_22 : decode cX9_fewestDeaf 22 = .ok (.istore 6, 2) := by decide +kernel
theorem dX9_fewestDeaf_24 : decode cX9_fewestDeaf 24 = .ok (.iload 6, 2) := by decide +kernel
theorem dX9_fewestDeaf_26 : decode cX9_fewestDeaf 26 = .ok (.aload_n 0, 1) := by decide +kernel
theorem dX9_fewestDeaf_27 : decode cX9_fewestDeaf 27 = .ok (.getfield 24, 3) := by decide +kernel
theorem dX9_fewestDeaf_30 : decode cX9_fewestDeaf 30 = .ok (.invokevirtual 267, 3) := by decide +kernel
theorem dX9_fewestDeaf_33 : decode cX9_fewestDeaf 33 = .ok (.if_icmp .gt 71, 3) := by decide +kernel
theorem dX9_fewestDeaf_36 : decode cX9_fewestDeaf 36 = .ok (.iload 5, 2) := by decide +kernel
theorem dX9_fewestDeaf_38 : decode cX9_fewestDeaf 38 = .ok (.ldc 221, 2) := by decide +kernel
theorem dX9_fewestDeaf_40 : decode cX9_fewestDeaf 40 = .ok (.if_icmp .eq 16, 3) := by decide +kernel
theorem dX9_fewestDeaf_43 : decode cX9_fewestDeaf 43 = .ok (.iload 6, 2) := by decide +kernel
theorem dX9_fewestDeaf_45 : decode cX9_fewestDeaf 45 = .ok (.invokestatic 283, 3) := by decide +kernel
theorem dX9_fewestDeaf_48 : decode cX9_fewestDeaf 48 = .ok (.iload 5, 2) := by decide +kernel
theorem dX9_fewestDeaf_50 : decode cX9_fewestDeaf 50 = .ok (.invokestatic 283, 3) := by decide +kernel
theorem dX9_fewestDeaf_53 : decode cX9_fewestDeaf 53 = .ok (.if_icmp .ge 7, 3) := by decide +kernel
theorem dX9_fewestDeaf_56 : decode cX9_fewestDeaf 56 = .ok (.iconst 1, 1) := by decide +kernel
theorem dX9_fewestDeaf_57 : decode cX9_fewestDeaf 57 = .ok (.goto 4, 3) := by decide +kernel
theorem dX9_fewestDeaf_60 : decode cX9_fewestDeaf 60 = .ok (.iconst 0, 1) := by decide +kernel
theorem dX9_fewestDeaf_61 : decode cX9_fewestDeaf 61 = .ok (.istore 7, 2) := by decide +kernel
theorem dX9_fewestDeaf_63 : decode cX9_fewestDeaf 63 = .ok (.iload 6, 2) := by decide +kernel
theorem dX9_fewestDeaf_65 : decode cX9_fewestDeaf 65 = .ok (.iload 4, 2) := by decide +kernel
theorem dX9_fewestDeaf_67 : decode cX9_fewestDeaf 67 = .ok (.iand, 1) := by decide +kernel
theorem dX9_fewestDeaf_68 : decode cX9_fewestDeaf 68 = .ok (.ifCond .ne 30, 3) := by decide +kernel
theorem dX9_fewestDeaf_71 : decode cX9_fewestDeaf 71 = .ok (.iload 7, 2) := by decide +kernel
theorem dX9_fewestDeaf_73 : decode cX9_fewestDeaf 73 = .ok (.ifCond .eq 25, 3) := by decide +kernel
theorem dX9_fewestDeaf_76 : decode cX9_fewestDeaf 76 = .ok (.aload_n 0, 1) := by decide +kernel
theorem dX9_fewestDeaf_77 : decode cX9_fewestDeaf 77 = .ok (.getfield 33, 3) := by decide +kernel
theorem dX9_fewestDeaf_80 : decode cX9_fewestDeaf 80 = .ok (.iload_n 1, 1) := by decide +kernel
theorem dX9_fewestDeaf_81 : decode cX9_fewestDeaf 81 = .ok (.iload 6, 2) := by decide +kernel
theorem dX9_fewestDeaf_83 : decode cX9_fewestDeaf 83 = .ok (.iload_n 3, 1) := by decide +kernel
theorem dX9_fewestDeaf_84 : decode cX9_fewestDeaf 84 = .ok (.invokevirtual 369, 3) := by decide +kernel
theorem dX9_fewestDeaf_87 : decode cX9_fewestDeaf 87 = .ok (.iload_n 2, 1) := by decide +kernel
theorem dX9_fewestDeaf_88 : decode cX9_fewestDeaf 88 = .ok (.ishr, 1) := by decide +kernel
theorem dX9_fewestDeaf_89 : decode cX9_fewestDeaf 89 = .ok (.iconst 1, 1) := by decide +kernel
theorem dX9_fewestDeaf_90 : decode cX9_fewestDeaf 90 = .ok (.iand, 1) := by decide +kernel
theorem dX9_fewestDeaf_91 : decode cX9_fewestDeaf 91 = .ok (.ifCond .ne 7, 3) := by decide +kernel
theorem dX9_fewestDeaf_94 : decode cX9_fewestDeaf 94 = .ok (.iload 6, 2) := by decide +kernel
theorem dX9_fewestDeaf_96 : decode cX9_fewestDeaf 96 = .ok (.istore 5, 2) := by decide +kernel
theorem dX9_fewestDeaf_98 : decode cX9_fewestDeaf 98 = .ok (.iinc 6 1, 3) := by decide +kernel
theorem dX9_fewestDeaf_101 : decode cX9_fewestDeaf 101 = .ok (.goto (-77), 3) := by decide +kernel
theorem dX9_fewestDeaf_104 : decode cX9_fewestDeaf 104 = .ok (.iload 5, 2) := by decide +kernel
theorem dX9_fewestDeaf_106 : decode cX9_fewestDeaf 106 = .ok (.ireturn, 1) := by decide +kernel
theorem dX9_fitsCounts_0 : decode cX9_fitsCounts 0 = .ok (.aload_n 0, 1) := by decide +kernel
theorem dX9_fitsCounts_1 : decode cX9_fitsCounts 1 = .ok (.getfield 24, 3) := by decide +kernel
theorem dX9_fitsCounts_4 : decode cX9_fitsCounts 4 = .ok (.iload_n 1, 1) := by decide +kernel
theorem dX9_fitsCounts_5 : decode cX9_fitsCounts 5 = .ok (.iload_n 2, 1) := by decide +kernel
theorem dX9_fitsCounts_6 : decode cX9_fitsCounts 6 = .ok (.iconst 0, 1) := by decide +kernel
theorem dX9_fitsCounts_7 : decode cX9_fitsCounts 7 = .ok (.invokevirtual 372, 3) := by decide +kernel
theorem dX9_fitsCounts_10 : decode cX9_fitsCounts 10 = .ok (.istore 6, 2) := by decide +kernel
theorem dX9_fitsCounts_12 : decode cX9_fitsCounts 12 = .ok (.iconst 0, 1) := by decide +kernel
theorem dX9_fitsCounts_13 : decode cX9_fitsCounts 13 = .ok (.istore 7, 2) := by decide +kernel
theorem dX9_fitsCounts_15 : decode cX9_fitsCounts 15 = .ok (.iload 7, 2) := by decide +kernel
theorem dX9_fitsCounts_17 : decode cX9_fitsCounts 17 = .ok (.iload 5, 2) := by decide +kernel
theorem dX9_fitsCounts_19 : decode cX9_fitsCounts 19 = .ok (.if_icmp .ge 43, 3) := by decide +kernel
theorem dX9_fitsCounts_22 : decode cX9_fitsCounts 22 = .ok (.aload_n 0, 1) := by decide +kernel
theorem dX9_fitsCounts_23 : decode cX9_fitsCounts 23 = .ok (.getfield 24, 3) := by decide +kernel
theorem dX9_fitsCounts_26 : decode cX9_fitsCounts 26 = .ok (.iload_n 1, 1) := by decide +kernel
theorem dX9_fitsCounts_27 : decode cX9_fitsCounts 27 = .ok (.iload 6, 2) := by decide +kernel
theorem dX9_fitsCounts_29 : decode cX9_fitsCounts 29 = .ok (.iconst 0, 1) := by decide +kernel
theorem dX9_fitsCounts_30 : decode cX9_fitsCounts 30 = .ok (.iconst 1, 1) := by decide +kernel
theorem dX9_fitsCounts_31 : decode cX9_fitsCounts 31 = .ok (.invokevirtual 375, 3) := by decide +kernel
theorem dX9_fitsCounts_34 : decode cX9_fitsCounts 34 = .ok (.istore 6, 2) := by decide +kernel
theorem dX9_fitsCounts_36 : decode cX9_fitsCounts 36 = .ok (.iload 6, 2) := by decide +kernel
theorem dX9_fitsCounts_38 : decode cX9_fitsCounts 38 = .ok (.invokestatic 283, 3) := by decide +kernel
theorem dX9_fitsCounts_41 : decode cX9_fitsCounts 41 = .ok (.aload_n 3, 1) := by decide +kernel
theorem dX9_fitsCounts_42 : decode cX9_fitsCounts 42 = .ok (.getfield 119, 3) := by decide +kernel
theorem dX9_fitsCounts_45 : decode cX9_fitsCounts 45 = .ok (.iload 4, 2) := by decide +kernel
theorem dX9_fitsCounts_47 : decode cX9_fitsCounts 47 = .ok (.iload 7, 2) := by decide +kernel
theorem dX9_fitsCounts_49 : decode cX9_fitsCounts 49 = .ok (.iadd, 1) := by decide +kernel
theorem dX9_fitsCounts_50 : decode cX9_fitsCounts 50 = .ok (.iaload, 1) := by decide +kernel
theorem dX9_fitsCounts_51 : decode cX9_fitsCounts 51 = .ok (.if_icmp .eq 5, 3) := by decide +kernel
theorem dX9_fitsCounts_54 : decode cX9_fitsCounts 54 = .ok (.iconst 0, 1) := by decide +kernel
theorem dX9_fitsCounts_55 : decode cX9_fitsCounts 55 = .ok (.ireturn, 1) := by decide +kernel
theorem dX9_fitsCounts_56 : decode cX9_fitsCounts 56 = .ok (.iinc 7 1, 3) := by decide +kernel
theorem dX9_fitsCounts_59 : decode cX9_fitsCounts 59 = .ok (.goto (-44), 3) := by decide +kernel
theorem dX9_fitsCounts_62 : decode cX9_fitsCounts 62 = .ok (.iconst 1, 1) := by decide +kernel
theorem dX9_fitsCounts_63 : decode cX9_fitsCounts 63 = .ok (.ireturn, 1) := by decide +kernel
theorem dX9_heardCases_0 : decode cX9_heardCases 0 = .ok (.iconst 1, 1) := by decide +kernel
theorem dX9_heardCases_1 : decode cX9_heardCases 1 = .ok (.aload_n 0, 1) := by decide +kernel
theorem dX9_heardCases_2 : decode cX9_heardCases 2 = .ok (.getfield 24, 3) := by decide +kernel
theorem dX9_heardCases_5 : decode cX9_heardCases 5 = .ok (.getfield 212, 3) := by decide +kernel
theorem dX9_heardCases_8 : decode cX9_heardCases 8 = .ok (.iload_n 1, 1) := by decide +kernel
theorem dX9_heardCases_9 : decode cX9_heardCases 9 = .ok (.iaload, 1) := by decide +kernel
theorem dX9_heardCases_10 : decode cX9_heardCases 10 = .ok (.ishl, 1) := by decide +kernel
theorem dX9_heardCases_11 : decode cX9_heardCases 11 = .ok (.istore 5, 2) := by decide +kernel
theorem dX9_heardCases_13 : decode cX9_heardCases 13 = .ok (.lconst 0, 1) := by decide +kernel
theorem dX9_heardCases_14 : decode cX9_heardCases 14 = .ok (.lstore 6, 2) := by decide +kernel
theorem dX9_heardCases_16 : decode cX9_heardCases 16 = .ok (.iconst 0, 1) := by decide +kernel
theorem dX9_heardCases_17 : decode cX9_heardCases 17 = .ok (.istore 8, 2) := by decide +kernel
theorem dX9_heardCases_19 : decode cX9_heardCases 19 = .ok (.iload 8, 2) := by decide +kernel
theorem dX9_heardCases_21 : decode cX9_heardCases 21 = .ok (.aload_n 0, 1) := by decide +kernel
theorem dX9_heardCases_22 : decode cX9_heardCases 22 = .ok (.getfield 24, 3) := by decide +kernel
theorem dX9_heardCases_25 : decode cX9_heardCases 25 = .ok (.invokevirtual 267, 3) := by decide +kernel
theorem dX9_heardCases_28 : decode cX9_heardCases 28 = .ok (.if_icmp .gt 76, 3) := by decide +kernel
theorem dX9_heardCases_31 : decode cX9_heardCases 31 = .ok (.iload 8, 2) := by decide +kernel
theorem dX9_heardCases_33 : decode cX9_heardCases 33 = .ok (.iload 5, 2) := by decide +kernel
theorem dX9_heardCases_35 : decode cX9_heardCases 35 = .ok (.iand, 1) := by decide +kernel
theorem dX9_heardCases_36 : decode cX9_heardCases 36 = .ok (.ifCond .ne 62, 3) := by decide +kernel
theorem dX9_heardCases_39 : decode cX9_heardCases 39 = .ok (.aload_n 0, 1) := by decide +kernel
theorem dX9_heardCases_40 : decode cX9_heardCases 40 = .ok (.getfield 33, 3) := by decide +kernel
theorem dX9_heardCases_43 : decode cX9_heardCases 43 = .ok (.iload_n 1, 1) := by decide +kernel
theorem dX9_heardCases_44 : decode cX9_heardCases 44 = .ok (.iload 8, 2) := by decide +kernel
theorem dX9_heardCases_46 : decode cX9_heardCases 46 = .ok (.iload_n 3, 1) := by decide +kernel
theorem dX9_heardCases_47 : decode cX9_heardCases 47 = .ok (.invokevirtual 369, 3) := by decide +kernel
theorem dX9_heardCases_50 : decode cX9_heardCases 50 = .ok (.iload_n 2, 1) := by decide +kernel
theorem dX9_heardCases_51 : decode cX9_heardCases 51 = .ok (.ishr, 1) := by decide +kernel
theorem dX9_heardCases_52 : decode cX9_heardCases 52 = .ok (.iconst 1, 1) := by decide +kernel
theorem dX9_heardCases_53 : decode cX9_heardCases 53 = .ok (.iand, 1) := by decide +kernel
theorem dX9_heardCases_54 : decode cX9_heardCases 54 = .ok (.iconst 1, 1) := by decide +kernel
theorem dX9_heardCases_55 : decode cX9_heardCases 55 = .ok (.if_icmp .ne 43, 3) := by decide +kernel
theorem dX9_heardCases_58 : decode cX9_heardCases 58 = .ok (.iload 8, 2) := by decide +kernel
theorem dX9_heardCases_60 : decode cX9_heardCases 60 = .ok (.invokestatic 283, 3) := by decide +kernel
theorem dX9_heardCases_63 : decode cX9_heardCases 63 = .ok (.istore 9, 2) := by decide +kernel
theorem dX9_heardCases_65 : decode cX9_heardCases 65 = .ok (.lload 6, 2) := by decide +kernel
theorem dX9_heardCases_67 : decode cX9_heardCases 67 = .ok (.iload 4, 2) := by decide +kernel
theorem dX9_heardCases_69 : decode cX9_heardCases 69 = .ok (.iload 9, 2) := by decide +kernel
theorem dX9_heardCases_71 : decode cX9_heardCases 71 = .ok (.invokestatic 324, 3) := by decide +kernel
theorem dX9_heardCases_74 : decode cX9_heardCases 74 = .ok (.bipush 10, 2) := by decide +kernel
theorem dX9_heardCases_76 : decode cX9_heardCases 76 = .ok (.iload 4, 2) := by decide +kernel
theorem dX9_heardCases_78 : decode cX9_heardCases 78 = .ok (.isub, 1) := by decide +kernel
theorem dX9_heardCases_79 : decode cX9_heardCases 79 = .ok (.aload_n 0, 1) := by decide +kernel
theorem dX9_heardCases_80 : decode cX9_heardCases 80 = .ok (.getfield 24, 3) := by decide +kernel
theorem dX9_heardCases_83 : decode cX9_heardCases 83 = .ok (.getfield 315, 3) := by decide +kernel
theorem dX9_heardCases_86 : decode cX9_heardCases 86 = .ok (.iconst 1, 1) := by decide +kernel
theorem dX9_heardCases_87 : decode cX9_heardCases 87 = .ok (.isub, 1) := by decide +kernel
theorem dX9_heardCases_88 : decode cX9_heardCases 88 = .ok (.iload 9, 2) := by decide +kernel
theorem dX9_heardCases_90 : decode cX9_heardCases 90 = .ok (.isub, 1) := by decide +kernel
theorem dX9_heardCases_91 : decode cX9_heardCases 91 = .ok (.invokestatic 324, 3) := by decide +kernel
theorem dX9_heardCases_94 : decode cX9_heardCases 94 = .ok (.lmul, 1) := by decide +kernel
theorem dX9_heardCases_95 : decode cX9_heardCases 95 = .ok (.ladd, 1) := by decide +kernel
theorem dX9_heardCases_96 : decode cX9_heardCases 96 = .ok (.lstore 6, 2) := by decide +kernel
theorem dX9_heardCases_98 : decode cX9_heardCases 98 = .ok (.iinc 8 1, 3) := by decide +kernel
theorem dX9_heardCases_101 : decode cX9_heardCases 101 = .ok (.goto (-82), 3) := by decide +kernel
theorem dX9_heardCases_104 : decode cX9_heardCases 104 = .ok (.lload 6, 2) := by decide +kernel
theorem dX9_heardCases_106 : decode cX9_heardCases 106 = .ok (.lreturn, 1) := by decide +kernel
theorem dX9_power_0 : decode cX9_power 0 = .ok (.lconst 1, 1) := by decide +kernel
theorem dX9_power_1 : decode cX9_power 1 = .ok (.lstore_n 2, 1) := by decide +kernel
theorem dX9_power_2 : decode cX9_power 2 = .ok (.iconst 0, 1) := by decide +kernel
theorem dX9_power_3 : decode cX9_power 3 = .ok (.istore 4, 2) := by decide +kernel
theorem dX9_power_5 : decode cX9_power 5 = .ok (.iload 4, 2) := by decide +kernel
theorem dX9_power_7 : decode cX9_power 7 = .ok (.iload_n 1, 1) := by decide +kernel
theorem dX9_power_8 : decode cX9_power 8 = .ok (.if_icmp .ge 14, 3) := by decide +kernel
theorem dX9_power_11 : decode cX9_power 11 = .ok (.lload_n 2, 1) := by decide +kernel
theorem dX9_power_12 : decode cX9_power 12 = .ok (.iload_n 0, 1) := by decide +kernel
theorem dX9_power_13 : decode cX9_power 13 = .ok (.i2l, 1) := by decide +kernel
theorem dX9_power_14 : decode cX9_power 14 = .ok (.lmul, 1) := by decide +kernel
theorem dX9_power_15 : decode cX9_power 15 = .ok (.lstore_n 2, 1) := by decide +kernel
theorem dX9_power_16 : decode cX9_power 16 = .ok (.iinc 4 1, 3) := by decide +kernel
theorem dX9_power_19 : decode cX9_power 19 = .ok (.goto (-14), 3) := by decide +kernel
theorem dX9_power_22 : decode cX9_power 22 = .ok (.lload_n 2, 1) := by decide +kernel
theorem dX9_power_23 : decode cX9_power 23 = .ok (.lreturn, 1) := by decide +kernel
theorem dX9_commonDivisor_0 : decode cX9_commonDivisor 0 = .ok (.lload_n 0, 1) := by decide +kernel
theorem dX9_commonDivisor_1 : decode cX9_commonDivisor 1 = .ok (.lstore 4, 2) := by decide +kernel
theorem dX9_commonDivisor_3 : decode cX9_commonDivisor 3 = .ok (.lload_n 2, 1) := by decide +kernel
theorem dX9_commonDivisor_4 : decode cX9_commonDivisor 4 = .ok (.lstore 6, 2) := by decide +kernel
theorem dX9_commonDivisor_6 : decode cX9_commonDivisor 6 = .ok (.iconst 0, 1) := by decide +kernel
theorem dX9_commonDivisor_7 : decode cX9_commonDivisor 7 = .ok (.istore 8, 2) := by decide +kernel
theorem dX9_commonDivisor_9 : decode cX9_commonDivisor 9 = .ok (.iload 8, 2) := by decide +kernel
theorem dX9_commonDivisor_11 : decode cX9_commonDivisor 11 = .ok (.bipush 100, 2) := by decide +kernel
theorem dX9_commonDivisor_13 : decode cX9_commonDivisor 13 = .ok (.if_icmp .ge 31, 3) := by decide +kernel
theorem dX9_commonDivisor_16 : decode cX9_commonDivisor 16 = .ok (.lload 6, 2) := by decide +kernel
theorem dX9_commonDivisor_18 : decode cX9_commonDivisor 18 = .ok (.lconst 0, 1) := by decide +kernel
theorem dX9_commonDivisor_19 : decode cX9_commonDivisor 19 = .ok (.lcmp, 1) := by decide +kernel
theorem dX9_commonDivisor_20 : decode cX9_commonDivisor 20 = .ok (.ifCond .eq 24, 3) := by decide +kernel
theorem dX9_commonDivisor_23 : decode cX9_commonDivisor 23 = .ok (.lload 4, 2) := by decide +kernel
theorem dX9_commonDivisor_25 : decode cX9_commonDivisor 25 = .ok (.lload 6, 2) := by decide +kernel
theorem dX9_commonDivisor_27 : decode cX9_commonDivisor 27 = .ok (.lrem, 1) := by decide +kernel
theorem dX9_commonDivisor_28 : decode cX9_commonDivisor 28 = .ok (.lstore 9, 2) := by decide +kernel
theorem dX9_commonDivisor_30 : decode cX9_commonDivisor 30 = .ok (.lload 6, 2) := by decide +kernel
theorem dX9_commonDivisor_32 : decode cX9_commonDivisor 32 = .ok (.lstore 4, 2) := by decide +kernel
theorem dX9_commonDivisor_34 : decode cX9_commonDivisor 34 = .ok (.lload 9, 2) := by decide +kernel
theorem dX9_commonDivisor_36 : decode cX9_commonDivisor 36 = .ok (.lstore 6, 2) := by decide +kernel
theorem dX9_commonDivisor_38 : decode cX9_commonDivisor 38 = .ok (.iinc 8 1, 3) := by decide +kernel
theorem dX9_commonDivisor_41 : decode cX9_commonDivisor 41 = .ok (.goto (-32), 3) := by decide +kernel
theorem dX9_commonDivisor_44 : decode cX9_commonDivisor 44 = .ok (.lload 4, 2) := by decide +kernel
theorem dX9_commonDivisor_46 : decode cX9_commonDivisor 46 = .ok (.lreturn, 1) := by decide +kernel
theorem dX9_drawTerms_0 : decode cX9_drawTerms 0 = .ok (.aload_n 0, 1) := by decide +kernel
theorem dX9_drawTerms_1 : decode cX9_drawTerms 1 = .ok (.getfield 37, 3) := by decide +kernel
theorem dX9_drawTerms_4 : decode cX9_drawTerms 4 = .ok (.aload_n 0, 1) := by decide +kernel
theorem dX9_drawTerms_5 : decode cX9_drawTerms 5 = .ok (.getfield 33, 3) := by decide +kernel
theorem dX9_drawTerms_8 : decode cX9_drawTerms 8 = .ok (.invokevirtual 152, 3) := by decide +kernel
theorem dX9_drawTerms_11 : decode cX9_drawTerms 11 = .ok (.iload_n 2, 1) := by decide +kernel
theorem dX9_drawTerms_12 : decode cX9_drawTerms 12 = .ok (.i2l, 1) := by decide +kernel
theorem dX9_drawTerms_13 : decode cX9_drawTerms 13 = .ok (.lstore_n 3, 1) := by decide +kernel
theorem dX9_drawTerms_14 : decode cX9_drawTerms 14 = .ok (.iconst 0, 1) := by decide +kernel
theorem dX9_drawTerms_15 : decode cX9_drawTerms 15 = .ok (.istore 5, 2) := by decide +kernel
theorem dX9_drawTerms_17 : decode cX9_drawTerms 17 = .ok (.iload 5, 2) := by decide +kernel
theorem dX9_drawTerms_19 : decode cX9_drawTerms 19 = .ok (.iload_n 1, 1) := by decide +kernel
theorem dX9_drawTerms_20 : decode cX9_drawTerms 20 = .ok (.if_icmp .ge 72, 3) := by decide +kernel
theorem dX9_drawTerms_23 : decode cX9_drawTerms 23 = .ok (.aload_n 0, 1) := by decide +kernel
theorem dX9_drawTerms_24 : decode cX9_drawTerms 24 = .ok (.getfield 24, 3) := by decide +kernel
theorem dX9_drawTerms_27 : decode cX9_drawTerms 27 = .ok (.getfield 158, 3) := by decide +kernel
theorem dX9_drawTerms_30 : decode cX9_drawTerms 30 = .ok (.ifCond .le 62, 3) := by decide +kernel
theorem dX9_drawTerms_33 : decode cX9_drawTerms 33 = .ok (.lload_n 3, 1) := by decide +kernel
theorem dX9_drawTerms_34 : decode cX9_drawTerms 34 = .ok (.ldc2_w 379, 3) := by decide +kernel
theorem dX9_drawTerms_37 : decode cX9_drawTerms 37 = .ok (.lmul, 1) := by decide +kernel
theorem dX9_drawTerms_38 : decode cX9_drawTerms 38 = .ok (.ldc2_w 381, 3) := by decide +kernel
theorem dX9_drawTerms_41 : decode cX9_drawTerms 41 = .ok (.lrem, 1) := by decide +kernel
theorem dX9_drawTerms_42 : decode cX9_drawTerms 42 = .ok (.lstore_n 3, 1) := by decide +kernel
theorem dX9_drawTerms_43 : decode cX9_drawTerms 43 = .ok (.lload_n 3, 1) := by decide +kernel
theorem dX9_drawTerms_44 : decode cX9_drawTerms 44 = .ok (.aload_n 0, 1) := by decide +kernel
theorem dX9_drawTerms_45 : decode cX9_drawTerms 45 = .ok (.getfield 24, 3) := by decide +kernel
theorem dX9_drawTerms_48 : decode cX9_drawTerms 48 = .ok (.getfield 158, 3) := by decide +kernel
theorem dX9_drawTerms_51 : decode cX9_drawTerms 51 = .ok (.i2l, 1) := by decide +kernel
theorem dX9_drawTerms_52 : decode cX9_drawTerms 52 = .ok (.lrem, 1) := by decide +kernel
theorem dX9_drawTerms_53 : decode cX9_drawTerms 53 = .ok (.l2i, 1) := by decide +kernel
theorem dX9_drawTerms_54 : decode cX9_drawTerms 54 = .ok (.istore 6, 2) := by decide +kernel
theorem dX9_drawTerms_56 : decode cX9_drawTerms 56 = .ok (.aload_n 0, 1) := by decide +kernel
theorem dX9_drawTerms_57 : decode cX9_drawTerms 57 = .ok (.getfield 37, 3) := by decide +kernel
theorem dX9_drawTerms_60 : decode cX9_drawTerms 60 = .ok (.iload 6, 2) := by decide +kernel
theorem dX9_drawTerms_62 : decode cX9_drawTerms 62 = .ok (.invokevirtual 191, 3) := by decide +kernel
theorem dX9_drawTerms_65 : decode cX9_drawTerms 65 = .ok (.ifCond .eq 13, 3) := by decide +kernel
theorem dX9_drawTerms_68 : decode cX9_drawTerms 68 = .ok (.aload_n 0, 1) := by decide +kernel
theorem dX9_drawTerms_69 : decode cX9_drawTerms 69 = .ok (.getfield 37, 3) := by decide +kernel
theorem dX9_drawTerms_72 : decode cX9_drawTerms 72 = .ok (.iload 6, 2) := by decide +kernel
theorem dX9_drawTerms_74 : decode cX9_drawTerms 74 = .ok (.invokevirtual 194, 3) := by decide +kernel
theorem dX9_drawTerms_77 : decode cX9_drawTerms 77 = .ok (.pop, 1) := by decide +kernel
theorem dX9_drawTerms_78 : decode cX9_drawTerms 78 = .ok (.aload_n 0, 1) := by decide +kernel
theorem dX9_drawTerms_79 : decode cX9_drawTerms 79 = .ok (.getfield 37, 3) := by decide +kernel
theorem dX9_drawTerms_82 : decode cX9_drawTerms 82 = .ok (.iconst 1, 1) := by decide +kernel
theorem dX9_drawTerms_83 : decode cX9_drawTerms 83 = .ok (.invokevirtual 181, 3) := by decide +kernel
theorem dX9_drawTerms_86 : decode cX9_drawTerms 86 = .ok (.iinc 5 1, 3) := by decide +kernel
theorem dX9_drawTerms_89 : decode cX9_drawTerms 89 = .ok (.goto (-72), 3) := by decide +kernel
theorem dX9_drawTerms_92 : decode cX9_drawTerms 92 = .ok (.return_, 1) := by decide +kernel
theorem dX10_init_0 : decode cX10_init 0 = .ok (.aload_n 0, 1) := by decide +kernel
theorem dX10_init_1 : decode cX10_init 1 = .ok (.invokespecial 1, 3) := by decide +kernel
theorem dX10_init_4 : decode cX10_init 4 = .ok (.aload_n 0, 1) := by decide +kernel
theorem dX10_init_5 : decode cX10_init 5 = .ok (.bipush 8, 2) := by decide +kernel
theorem dX10_init_7 : decode cX10_init 7 = .ok (.newarray .int, 2) := by decide +kernel
theorem dX10_init_9 : decode cX10_init 9 = .ok (.putfield 7, 3) := by decide +kernel
theorem dX10_init_12 : decode cX10_init 12 = .ok (.aload_n 0, 1) := by decide +kernel
theorem dX10_init_13 : decode cX10_init 13 = .ok (.bipush 8, 2) := by decide +kernel
theorem dX10_init_15 : decode cX10_init 15 = .ok (.newarray .int, 2) := by decide +kernel
theorem dX10_init_17 : decode cX10_init 17 = .ok (.putfield 13, 3) := by decide +kernel
theorem dX10_init_20 : decode cX10_init 20 = .ok (.aload_n 0, 1) := by decide +kernel
theorem dX10_init_21 : decode cX10_init 21 = .ok (.sipush 320, 3) := by decide +kernel
theorem dX10_init_24 : decode cX10_init 24 = .ok (.newarray .int, 2) := by decide +kernel
theorem dX10_init_26 : decode cX10_init 26 = .ok (.putfield 16, 3) := by decide +kernel
theorem dX10_init_29 : decode cX10_init 29 = .ok (.aload_n 0, 1) := by decide +kernel
theorem dX10_init_30 : decode cX10_init 30 = .ok (.bipush 120, 2) := by decide +kernel
theorem dX10_init_32 : decode cX10_init 32 = .ok (.newarray .int, 2) := by decide +kernel
theorem dX10_init_34 : decode cX10_init 34 = .ok (.putfield 19, 3) := by decide +kernel
theorem dX10_init_37 : decode cX10_init 37 = .ok (.aload_n 0, 1) := by decide +kernel
theorem dX10_init_38 : decode cX10_init 38 = .ok (.bipush 32, 2) := by decide +kernel
theorem dX10_init_40 : decode cX10_init 40 = .ok (.newarray .int, 2) := by decide +kernel
theorem dX10_init_42 : decode cX10_init 42 = .ok (.putfield 22, 3) := by decide +kernel
theorem dX10_init_45 : decode cX10_init 45 = .ok (.aload_n 0, 1) := by decide +kernel
theorem dX10_init_46 : decode cX10_init 46 = .ok (.iconst 5, 1) := by decide +kernel
theorem dX10_init_47 : decode cX10_init 47 = .ok (.newarray .int, 2) := by decide +kernel
theorem dX10_init_49 : decode cX10_init 49 = .ok (.putfield 25, 3) := by decide +kernel
theorem dX10_init_52 : decode cX10_init 52 = .ok (.aload_n 0, 1) := by decide +kernel
theorem dX10_init_53 : decode cX10_init 53 = .ok (.iconst 1, 1) := by decide +kernel
theorem dX10_init_54 : decode cX10_init 54 = .ok (.newarray .int, 2) := by decide +kernel
theorem dX10_init_56 : decode cX10_init 56 = .ok (.putfield 28, 3) := by decide +kernel
theorem dX10_init_59 : decode cX10_init 59 = .ok (.aload_n 0, 1) := by decide +kernel
theorem dX10_init_60 : decode cX10_init 60 = .ok (.bipush 32, 2) := by decide +kernel
theorem dX10_init_62 : decode cX10_init 62 = .ok (.newarray .int, 2) := by decide +kernel
theorem dX10_init_64 : decode cX10_init 64 = .ok (.putfield 31, 3) := by decide +kernel
theorem dX10_init_67 : decode cX10_init 67 = .ok (.aload_n 0, 1) := by decide +kernel
theorem dX10_init_68 : decode cX10_init 68 = .ok (.bipush 21, 2) := by decide +kernel
theorem dX10_init_70 : decode cX10_init 70 = .ok (.newarray .int, 2) := by decide +kernel
theorem dX10_init_72 : decode cX10_init 72 = .ok (.putfield 34, 3) := by decide +kernel
theorem dX10_init_75 : decode cX10_init 75 = .ok (.aload_n 0, 1) := by decide +kernel
theorem dX10_init_76 : decode cX10_init 76 = .ok (.bipush 21, 2) := by decide +kernel
theorem dX10_init_78 : decode cX10_init 78 = .ok (.newarray .int, 2) := by decide +kernel
theorem dX10_init_80 : decode cX10_init 80 = .ok (.putfield 37, 3) := by decide +kernel
theorem dX10_init_83 : decode cX10_init 83 = .ok (.aload_n 0, 1) := by decide +kernel
theorem dX10_init_84 : decode cX10_init 84 = .ok (.sipush 504, 3) := by decide +kernel
theorem dX10_init_87 : decode cX10_init 87 = .ok (.newarray .int, 2) := by decide +kernel
theorem dX10_init_89 : decode cX10_init 89 = .ok (.putfield 40, 3) := by decide +kernel
theorem dX10_init_92 : decode cX10_init 92 = .ok (.aload_n 0, 1) := by decide +kernel
theorem dX10_init_93 : decode cX10_init 93 = .ok (.bipush 6, 2) := by decide +kernel
theorem dX10_init_95 : decode cX10_init 95 = .ok (.newarray .int, 2) := by decide +kernel
theorem dX10_init_97 : decode cX10_init 97 = .ok (.putfield 43, 3) := by decide +kernel
theorem dX10_init_100 : decode cX10_init 100 = .ok (.aload_n 0, 1) := by decide +kernel
theorem dX10_init_101 : decode cX10_init 101 = .ok (.bipush 61, 2) := by decide +kernel
theorem dX10_init_103 : decode cX10_init 103 = .ok (.newarray .int, 2) := by decide +kernel
theorem dX10_init_105 : decode cX10_init 105 = .ok (.putfield 46, 3) := by decide +kernel
theorem dX10_init_108 : decode cX10_init 108 = .ok (.aload_n 0, 1) := by decide +kernel
theorem dX10_init_109 : decode cX10_init 109 = .ok (.bipush 61, 2) := by decide +kernel
theorem dX10_init_111 : decode cX10_init 111 = .ok (.newarray .int, 2) := by decide +kernel
theorem dX10_init_113 : decode cX10_init 113 = .ok (.putfield 49, 3) := by decide +kernel
theorem dX10_init_116 : decode cX10_init 116 = .ok (.aload_n 0, 1) := by decide +kernel
theorem dX10_init_117 : decode cX10_init 117 = .ok (.iconst 2, 1) := by decide +kernel
theorem dX10_init_118 : decode cX10_init 118 = .ok (.newarray .boolean, 2) := by decide +kernel
theorem dX10_init_120 : decode cX10_init 120 = .ok (.putfield 52, 3) := by decide +kernel
theorem dX10_init_123 : decode cX10_init 123 = .ok (.aload_n 0, 1) := by decide +kernel
theorem dX10_init_124 : decode cX10_init 124 = .ok (.bipush 64, 2) := by decide +kernel
theorem dX10_init_126 : decode cX10_init 126 = .ok (.newarray .int, 2) := by decide +kernel
theorem dX10_init_128 : decode cX10_init 128 = .ok (.putfield 56, 3) := by decide +kernel
theorem dX10_init_131 : decode cX10_init 131 = .ok (.aload_n 0, 1) := by decide +kernel
theorem dX10_init_132 : decode cX10_init 132 = .ok (.bipush 42, 2) := by decide +kernel
theorem dX10_init_134 : decode cX10_init 134 = .ok (.newarray .int, 2) := by decide +kernel
theorem dX10_init_136 : decode cX10_init 136 = .ok (.putfield 59, 3) := by decide +kernel
theorem dX10_init_139 : decode cX10_init 139 = .ok (.aload_n 0, 1) := by decide +kernel
theorem dX10_init_140 : decode cX10_init 140 = .ok (.bipush 16, 2) := by decide +kernel
theorem dX10_init_142 : decode cX10_init 142 = .ok (.newarray .int, 2) := by decide +kernel
theorem dX10_init_144 : decode cX10_init 144 = .ok (.putfield 62, 3) := by decide +kernel
theorem dX10_init_147 : decode cX10_init 147 = .ok (.iconst 0, 1) := by decide +kernel
theorem dX10_init_148 : decode cX10_init 148 = .ok (.istore_n 1, 1) := by decide +kernel
theorem dX10_init_149 : decode cX10_init 149 = .ok (.iload_n 1, 1) := by decide +kernel
theorem dX10_init_150 : decode cX10_init 150 = .ok (.bipush 8, 2) := by decide +kernel
theorem dX10_init_152 : decode cX10_init 152 = .ok (.if_icmp .ge 16, 3) := by decide +kernel
theorem dX10_init_155 : decode cX10_init 155 = .ok (.aload_n 0, 1) := by decide +kernel
theorem dX10_init_156 : decode cX10_init 156 = .ok (.getfield 7, 3) := by decide +kernel
theorem dX10_init_159 : decode cX10_init 159 = .ok (.iload_n 1, 1) := by decide +kernel
theorem dX10_init_160 : decode cX10_init 160 = .ok (.iconst (-1), 1) := by decide +kernel
theorem dX10_init_161 : decode cX10_init 161 = .ok (.iastore, 1) := by decide +kernel
theorem dX10_init_162 : decode cX10_init 162 = .ok (.iinc 1 1, 3) := by decide +kernel
theorem dX10_init_165 : decode cX10_init 165 = .ok (.goto (-16), 3) := by decide +kernel
theorem dX10_init_168 : decode cX10_init 168 = .ok (.return_, 1) := by decide +kernel
theorem dX10_in_0 : decode cX10_in 0 = .ok (.iload_n 0, 1) := by decide +kernel
theorem dX10_in_1 : decode cX10_in 1 = .ok (.iload_n 1, 1) := by decide +kernel
theorem dX10_in_2 : decode cX10_in 2 = .ok (.if_icmp .lt 12, 3) := by decide +kernel
theorem dX10_in_5 : decode cX10_in 5 = .ok (.iload_n 0, 1) := by decide +kernel
theorem dX10_in_6 : decode cX10_in 6 = .ok (.iload_n 2, 1) := by decide +kernel
theorem dX10_in_7 : decode cX10_in 7 = .ok (.if_icmp .gt 7, 3) := by decide +kernel
theorem dX10_in_10 : decode cX10_in 10 = .ok (.iconst 1, 1) := by decide +kernel
theorem dX10_in_11 : decode cX10_in 11 = .ok (.goto 4, 3) := by decide +kernel
theorem dX10_in_14 : decode cX10_in 14 = .ok (.iconst 0, 1) := by decide +kernel
theorem dX10_in_15 : decode cX10_in 15 = .ok (.ireturn, 1) := by decide +kernel
theorem dX10_has_0 : decode cX10_has 0 = .ok (.iload_n 0, 1) := by decide +kernel
theorem dX10_has_1 : decode cX10_has 1 = .ok (.iload_n 1, 1) := by decide +kernel
theorem dX10_has_2 : decode cX10_has 2 = .ok (.ishr, 1) := by decide +kernel
theorem dX10_has_3 : decode cX10_has 3 = .ok (.iconst 1, 1) := by decide +kernel
theorem dX10_has_4 : decode cX10_has 4 = .ok (.iand, 1) := by decide +kernel
theorem dX10_has_5 : decode cX10_has 5 = .ok (.iconst 1, 1) := by decide +kernel
theorem dX10_has_6 : decode cX10_has 6 = .ok (.if_icmp .ne 7, 3) := by decide +kernel
theorem dX10_has_9 : decode cX10_has 9 = .ok (.iconst 1, 1) := by decide +kernel
theorem dX10_has_10 : decode cX10_has 10 = .ok (.goto 4, 3) := by decide +kernel
theorem dX10_has_13 : decode cX10_has 13 = .ok (.iconst 0, 1) := by decide +kernel
theorem dX10_has_14 : decode cX10_has 14 = .ok (.ireturn, 1) := by decide +kernel
theorem dX10_bits_0 : decode cX10_bits 0 = .ok (.iconst 0, 1) := by decide +kernel
theorem dX10_bits_1 : decode cX10_bits 1 = .ok (.istore_n 1, 1) := by decide +kernel
theorem dX10_bits_2 : decode cX10_bits 2 = .ok (.iload_n 0, 1) := by decide +kernel
theorem dX10_bits_3 : decode cX10_bits 3 = .ok (.istore_n 2, 1) := by decide +kernel
theorem dX10_bits_4 : decode cX10_bits 4 = .ok (.iload_n 2, 1) := by decide +kernel
theorem dX10_bits_5 : decode cX10_bits 5 = .ok (.ifCond .eq 15, 3) := by decide +kernel
theorem dX10_bits_8 : decode cX10_bits 8 = .ok (.iinc 1 1, 3) := by decide +kernel
theorem dX10_bits_11 : decode cX10_bits 11 = .ok (.iload_n 2, 1) := by decide +kernel
theorem dX10_bits_12 : decode cX10_bits 12 = .ok (.iload_n 2, 1) := by decide +kernel
theorem dX10_bits_13 : decode cX10_bits 13 = .ok (.iconst 1, 1) := by decide +kernel
theorem dX10_bits_14 : decode cX10_bits 14 = .ok (.isub, 1) := by decide +kernel
theorem dX10_bits_15 : decode cX10_bits 15 = .ok (.iand, 1) := by decide +kernel
theorem dX10_bits_16 : decode cX10_bits 16 = .ok (.istore_n 2, 1) := by decide +kernel
theorem dX10_bits_17 : decode cX10_bits 17 = .ok (.goto (-13), 3) := by decide +kernel
theorem dX10_bits_20 : decode cX10_bits 20 = .ok (.iload_n 1, 1) := by decide +kernel
theorem dX10_bits_21 : decode cX10_bits 21 = .ok (.ireturn, 1) := by decide +kernel
theorem dX10_meets_0 : decode cX10_meets 0 = .ok (.aload_n 0, 1) := by decide +kernel
theorem dX10_meets_1 : decode cX10_meets 1 = .ok (.iload_n 1, 1) := by decide +kernel
theorem dX10_meets_2 : decode cX10_meets 2 = .ok (.putfield 65, 3) := by decide +kernel
theorem dX10_meets_5 : decode cX10_meets 5 = .ok (.ldc 69, 2) := by decide +kernel
theorem dX10_meets_7 : decode cX10_meets 7 = .ok (.iload_n 1, 1) := by decide +kernel
theorem dX10_meets_8 : decode cX10_meets 8 = .ok (.isub, 1) := by decide +kernel
theorem dX10_meets_9 : decode cX10_meets 9 = .ok (.ireturn, 1) := by decide +kernel
theorem dX10_well_0 : decode cX10_well 0 = .ok (.aload_n 0, 1) := by decide +kernel
theorem dX10_well_1 : decode cX10_well 1 = .ok (.iconst 0, 1) := by decide +kernel
theorem dX10_well_2 : decode cX10_well 2 = .ok (.putfield 65, 3) := by decide +kernel
theorem dX10_well_5 : decode cX10_well 5 = .ok (.iload_n 1, 1) := by decide +kernel
theorem dX10_well_6 : decode cX10_well 6 = .ok (.ireturn, 1) := by decide +kernel
theorem dX10_status_0 : decode cX10_status 0 = .ok (.aload_n 0, 1) := by decide +kernel
theorem dX10_status_1 : decode cX10_status 1 = .ok (.getfield 65, 3) := by decide +kernel
theorem dX10_status_4 : decode cX10_status 4 = .ok (.ireturn, 1) := by decide +kernel
theorem dX10_isRow_0 : decode cX10_isRow 0 = .ok (.iload_n 0, 1) := by decide +kernel
theorem dX10_isRow_1 : decode cX10_isRow 1 = .ok (.iconst 0, 1) := by decide +kernel
theorem dX10_isRow_2 : decode cX10_isRow 2 = .ok (.bipush 7, 2) := by decide +kernel
theorem dX10_isRow_4 : decode cX10_isRow 4 = .ok (.invokestatic 70, 3) := by decide +kernel
theorem dX10_isRow_7 : decode cX10_isRow 7 = .ok (.ireturn, 1) := by decide +kernel
theorem dX10_isPart_0 : decode cX10_isPart 0 = .ok (.iload_n 3, 1) := by decide +kernel
theorem dX10_isPart_1 : decode cX10_isPart 1 = .ok (.ifCond .lt 33, 3) := by decide +kernel
theorem dX10_isPart_4 : decode cX10_isPart 4 = .ok (.iload_n 2, 1) := by decide +kernel
theorem dX10_isPart_5 : decode cX10_isPart 5 = .ok (.ifCond .lt 29, 3) := by decide +kernel
theorem dX10_isPart_8 : decode cX10_isPart 8 = .ok (.iload_n 2, 1) := by decide +kernel
theorem dX10_isPart_9 : decode cX10_isPart 9 = .ok (.aload_n 0, 1) := by decide +kernel
theorem dX10_isPart_10 : decode cX10_isPart 10 = .ok (.getfield 7, 3) := by decide +kernel
theorem dX10_isPart_13 : decode cX10_isPart 13 = .ok (.iload_n 1, 1) := by decide +kernel
theorem dX10_isPart_14 : decode cX10_isPart 14 = .ok (.iaload, 1) := by decide +kernel
theorem dX10_isPart_15 : decode cX10_isPart 15 = .ok (.if_icmp .gt 19, 3) := by decide +kernel
theorem dX10_isPart_18 : decode cX10_isPart 18 = .ok (.iload_n 3, 1) := by decide +kernel
theorem dX10_isPart_19 : decode cX10_isPart 19 = .ok (.aload_n 0, 1) := by decide +kernel
theorem dX10_isPart_20 : decode cX10_isPart 20 = .ok (.getfield 7, 3) := by decide +kernel
theorem dX10_isPart_23 : decode cX10_isPart 23 = .ok (.iload_n 1, 1) := by decide +kernel
theorem dX10_isPart_24 : decode cX10_isPart 24 = .ok (.iaload, 1) := by decide +kernel
theorem dX10_isPart_25 : decode cX10_isPart 25 = .ok (.iload_n 2, 1) := by decide +kernel
theorem dX10_isPart_26 : decode cX10_isPart 26 = .ok (.isub, 1) := by decide +kernel
theorem dX10_isPart_27 : decode cX10_isPart 27 = .ok (.if_icmp .gt 7, 3) := by decide +kernel
theorem dX10_isPart_30 : decode cX10_isPart 30 = .ok (.iconst 1, 1) := by decide +kernel
theorem dX10_isPart_31 : decode cX10_isPart 31 = .ok (.goto 4, 3) := by decide +kernel
theorem dX10_isPart_34 : decode cX10_isPart 34 = .ok (.iconst 0, 1) := by decide +kernel
theorem dX10_isPart_35 : decode cX10_isPart 35 = .ok (.ireturn, 1) := by decide +kernel
theorem dX10_item_0 : decode cX10_item 0 = .ok (.aload_n 0, 1) := by decide +kernel
theorem dX10_item_1 : decode cX10_item 1 = .ok (.getfield 16, 3) := by decide +kernel
theorem dX10_item_4 : decode cX10_item 4 = .ok (.bipush 40, 2) := by decide +kernel
theorem dX10_item_6 : decode cX10_item 6 = .ok (.iload_n 1, 1) := by decide +kernel
theorem dX10_item_7 : decode cX10_item 7 = .ok (.imul, 1) := by decide +kernel
theorem dX10_item_8 : decode cX10_item 8 = .ok (.iload_n 2, 1) := by decide +kernel
theorem dX10_item_9 : decode cX10_item 9 = .ok (.iadd, 1) := by decide +kernel
theorem dX10_item_10 : decode cX10_item 10 = .ok (.iaload, 1) := by decide +kernel
theorem dX10_item_11 : decode cX10_item 11 = .ok (.ireturn, 1) := by decide +kernel
theorem dX10_row_0 : decode cX10_row 0 = .ok (.iload_n 1, 1) := by decide +kernel
theorem dX10_row_1 : decode cX10_row 1 = .ok (.invokestatic 74, 3) := by decide +kernel
theorem dX10_row_4 : decode cX10_row 4 = .ok (.ifCond .eq 18, 3) := by decide +kernel
theorem dX10_row_7 : decode cX10_row 7 = .ok (.iload_n 2, 1) := by decide +kernel
theorem dX10_row_8 : decode cX10_row 8 = .ok (.iconst 0, 1) := by decide +kernel
theorem dX10_row_9 : decode cX10_row 9 = .ok (.iconst 2, 1) := by decide +kernel
theorem dX10_row_10 : decode cX10_row 10 = .ok (.invokestatic 70, 3) := by decide +kernel
theorem dX10_row_13 : decode cX10_row 13 = .ok (.ifCond .eq 9, 3) := by decide +kernel
theorem dX10_row_16 : decode cX10_row 16 = .ok (.iload_n 3, 1) := by decide +kernel
theorem dX10_row_17 : decode cX10_row 17 = .ok (.bipush 40, 2) := by decide +kernel
theorem dX10_row_19 : decode cX10_row 19 = .ok (.if_icmp .le 6, 3) := by decide +kernel
theorem dX10_row_22 : decode cX10_row 22 = .ok (.ldc 78, 2) := by decide +kernel
theorem dX10_row_24 : decode cX10_row 24 = .ok (.ireturn, 1) := by decide +kernel
theorem dX10_row_25 : decode cX10_row 25 = .ok (.iload_n 3, 1) := by decide +kernel
theorem dX10_row_26 : decode cX10_row 26 = .ok (.ifCond .ge 9, 3) := by decide +kernel
theorem dX10_row_29 : decode cX10_row 29 = .ok (.aload_n 0, 1) := by decide +kernel
theorem dX10_row_30 : decode cX10_row 30 = .ok (.iconst 4, 1) := by decide +kernel
theorem dX10_row_31 : decode cX10_row 31 = .ok (.invokevirtual 79, 3) := by decide +kernel
theorem dX10_row_34 : decode cX10_row 34 = .ok (.ireturn, 1) := by decide +kernel
theorem dX10_row_35 : decode cX10_row 35 = .ok (.aload_n 0, 1) := by decide +kernel
theorem dX10_row_36 : decode cX10_row 36 = .ok (.getfield 7, 3) := by decide +kernel
theorem dX10_row_39 : decode cX10_row 39 = .ok (.iload_n 1, 1) := by decide +kernel
theorem dX10_row_40 : decode cX10_row 40 = .ok (.iload_n 3, 1) := by decide +kernel
theorem dX10_row_41 : decode cX10_row 41 = .ok (.iastore, 1) := by decide +kernel
theorem dX10_row_42 : decode cX10_row 42 = .ok (.aload_n 0, 1) := by decide +kernel
theorem dX10_row_43 : decode cX10_row 43 = .ok (.getfield 13, 3) := by decide +kernel
theorem dX10_row_46 : decode cX10_row 46 = .ok (.iload_n 1, 1) := by decide +kernel
theorem dX10_row_47 : decode cX10_row 47 = .ok (.iload_n 2, 1) := by decide +kernel
theorem dX10_row_48 : decode cX10_row 48 = .ok (.iastore, 1) := by decide +kernel
theorem dX10_row_49 : decode cX10_row 49 = .ok (.iconst 0, 1) := by decide +kernel
theorem dX10_row_50 : decode cX10_row 50 = .ok (.istore 4, 2) := by decide +kernel
theorem dX10_row_52 : decode cX10_row 52 = .ok (.iload 4, 2) := by decide +kernel
theorem dX10_row_54 : decode cX10_row 54 = .ok (.iload_n 3, 1) := by decide +kernel
theorem dX10_row_55 : decode cX10_row 55 = .ok (.if_icmp .ge 22, 3) := by decide +kernel
theorem dX10_row_58 : decode cX10_row 58 = .ok (.aload_n 0, 1) := by decide +kernel
theorem dX10_row_59 : decode cX10_row 59 = .ok (.getfield 16, 3) := by decide +kernel
theorem dX10_row_62 : decode cX10_row 62 = .ok (.bipush 40, 2) := by decide +kernel
theorem dX10_row_64 : decode cX10_row 64 = .ok (.iload_n 1, 1) := by decide +kernel
theorem dX10_row_65 : decode cX10_row 65 = .ok (.imul, 1) := by decide +kernel
theorem dX10_row_66 : decode cX10_row 66 = .ok (.iload 4, 2) := by decide +kernel
theorem dX10_row_68 : decode cX10_row 68 = .ok (.iadd, 1) := by decide +kernel
theorem dX10_row_69 : decode cX10_row 69 = .ok (.iconst 0, 1) := by decide +kernel
theorem dX10_row_70 : decode cX10_row 70 = .ok (.iastore, 1) := by decide +kernel
theorem dX10_row_71 : decode cX10_row 71 = .ok (.iinc 4 1, 3) := by decide +kernel
theorem dX10_row_74 : decode cX10_row 74 = .ok (.goto (-22), 3) := by decide +kernel
theorem dX10_row_77 : decode cX10_row 77 = .ok (.aload_n 0, 1) := by decide +kernel
theorem dX10_row_78 : decode cX10_row 78 = .ok (.iload_n 3, 1) := by decide +kernel
theorem dX10_row_79 : decode cX10_row 79 = .ok (.invokevirtual 83, 3) := by decide +kernel
theorem dX10_row_82 : decode cX10_row 82 = .ok (.ireturn, 1) := by decide +kernel
theorem dX10_set_0 : decode cX10_set 0 = .ok (.iload_n 1, 1) := by decide +kernel
theorem dX10_set_1 : decode cX10_set 1 = .ok (.invokestatic 74, 3) := by decide +kernel
theorem dX10_set_4 : decode cX10_set 4 = .ok (.ifCond .ne 6, 3) := by decide +kernel
theorem dX10_set_7 : decode cX10_set 7 = .ok (.ldc 78, 2) := by decide +kernel
theorem dX10_set_9 : decode cX10_set 9 = .ok (.ireturn, 1) := by decide +kernel
theorem dX10_set_10 : decode cX10_set 10 = .ok (.aload_n 0, 1) := by decide +kernel
theorem dX10_set_11 : decode cX10_set 11 = .ok (.getfield 7, 3) := by decide +kernel
theorem dX10_set_14 : decode cX10_set 14 = .ok (.iload_n 1, 1) := by decide +kernel
theorem dX10_set_15 : decode cX10_set 15 = .ok (.iaload, 1) := by decide +kernel
theorem dX10_set_16 : decode cX10_set 16 = .ok (.ifCond .ge 9, 3) := by decide +kernel
theorem dX10_set_19 : decode cX10_set 19 = .ok (.aload_n 0, 1) := by decide +kernel
theorem dX10_set_20 : decode cX10_set 20 = .ok (.iconst 1, 1) := by decide +kernel
theorem dX10_set_21 : decode cX10_set 21 = .ok (.invokevirtual 79, 3) := by decide +kernel
theorem dX10_set_24 : decode cX10_set 24 = .ok (.ireturn, 1) := by decide +kernel
theorem dX10_set_25 : decode cX10_set 25 = .ok (.iload_n 2, 1) := by decide +kernel
theorem dX10_set_26 : decode cX10_set 26 = .ok (.iconst 0, 1) := by decide +kernel
theorem dX10_set_27 : decode cX10_set 27 = .ok (.aload_n 0, 1) := by decide +kernel
theorem dX10_set_28 : decode cX10_set 28 = .ok (.getfield 7, 3) := by decide +kernel
theorem dX10_set_31 : decode cX10_set 31 = .ok (.iload_n 1, 1) := by decide +kernel
theorem dX10_set_32 : decode cX10_set 32 = .ok (.iaload, 1) := by decide +kernel
theorem dX10_set_33 : decode cX10_set 33 = .ok (.iconst 1, 1) := by decide +kernel
theorem dX10_set_34 : decode cX10_set 34 = .ok (.isub, 1) := by decide +kernel
theorem dX10_set_35 : decode cX10_set 35 = .ok (.invokestatic 70, 3) := by decide +kernel
theorem dX10_set_38 : decode cX10_set 38 = .ok (.ifCond .ne 9, 3) := by decide +kernel
theorem dX10_set_41 : decode cX10_set 41 = .ok (.aload_n 0, 1) := by decide +kernel
theorem dX10_set_42 : decode cX10_set 42 = .ok (.iconst 2, 1) := by decide +kernel
theorem dX10_set_43 : decode cX10_set 43 = .ok (.invokevirtual 79, 3) := by decide +kernel
theorem dX10_set_46 : decode cX10_set 46 = .ok (.ireturn, 1) := by decide +kernel
theorem dX10_set_47 : decode cX10_set 47 = .ok (.aload_n 0, 1) := by decide +kernel
theorem dX10_set_48 : decode cX10_set 48 = .ok (.getfield 13, 3) := by decide +kernel
theorem dX10_set_51 : decode cX10_set 51 = .ok (.iload_n 1, 1) := by decide +kernel
theorem dX10_set_52 : decode cX10_set 52 = .ok (.iaload, 1) := by decide +kernel
theorem dX10_set_53 : decode cX10_set 53 = .ok (.ifCond .ne 8, 3) := by decide +kernel
theorem dX10_set_56 : decode cX10_set 56 = .ok (.iload_n 3, 1) := by decide +kernel
theorem dX10_set_57 : decode cX10_set 57 = .ok (.i2b, 1) := by decide +kernel
theorem dX10_set_58 : decode cX10_set 58 = .ok (.goto 19, 3) := by decide +kernel
theorem dX10_set_61 : decode cX10_set 61 = .ok (.aload_n 0, 1) := by decide +kernel
theorem dX10_set_62 : decode cX10_set 62 = .ok (.getfield 13, 3) := by decide +kernel
theorem dX10_set_65 : decode cX10_set 65 = .ok (.iload_n 1, 1) := by decide +kernel
theorem dX10_set_66 : decode cX10_set 66 = .ok (.iaload, 1) := by decide +kernel
theorem dX10_set_67 : decode cX10_set 67 = .ok (.iconst 1, 1) := by decide +kernel
theorem dX10_set_68 : decode cX10_set 68 = .ok (.if_icmp .ne 8, 3) := by decide +kernel
theorem dX10_set_71 : decode cX10_set 71 = .ok (.iload_n 3, 1) := by decide +kernel
theorem dX10_set_72 : decode cX10_set 72 = .ok (.i2s, 1) := by decide +kernel
theorem dX10_set_73 : decode cX10_set 73 = .ok (.goto 4, 3) := by decide +kernel
theorem dX10_set_76 : decode cX10_set 76 = .ok (.iload_n 3, 1) := by decide +kernel
theorem dX10_set_77 : decode cX10_set 77 = .ok (.istore 4, 2) := by decide +kernel
theorem dX10_set_79 : decode cX10_set 79 = .ok (.aload_n 0, 1) := by decide +kernel
theorem dX10_set_80 : decode cX10_set 80 = .ok (.getfield 16, 3) := by decide +kernel
theorem dX10_set_83 : decode cX10_set 83 = .ok (.bipush 40, 2) := by decide +kernel
theorem dX10_set_85 : decode cX10_set 85 = .ok (.iload_n 1, 1) := by decide +kernel
theorem dX10_set_86 : decode cX10_set 86 = .ok (.imul, 1) := by decide +kernel
theorem dX10_set_87 : decode cX10_set 87 = .ok (.iload_n 2, 1) := by decide +kernel
theorem dX10_set_88 : decode cX10_set 88 = .ok (.iadd, 1) := by decide +kernel
theorem dX10_set_89 : decode cX10_set 89 = .ok (.iload 4, 2) := by decide +kernel
theorem dX10_set_91 : decode cX10_set 91 = .ok (.iastore, 1) := by decide +kernel
theorem dX10_set_92 : decode cX10_set 92 = .ok (.aload_n 0, 1) := by decide +kernel
theorem dX10_set_93 : decode cX10_set 93 = .ok (.iload 4, 2) := by decide +kernel
theorem dX10_set_95 : decode cX10_set 95 = .ok (.invokevirtual 83, 3) := by decide +kernel
theorem dX10_set_98 : decode cX10_set 98 = .ok (.ireturn, 1) := by decide +kernel
theorem dX10_copy_0 : decode cX10_copy 0 = .ok (.iload_n 1, 1) := by decide +kernel
theorem dX10_copy_1 : decode cX10_copy 1 = .ok (.invokestatic 74, 3) := by decide +kernel
theorem dX10_copy_4 : decode cX10_copy 4 = .ok (.ifCond .eq 10, 3) := by decide +kernel
theorem dX10_copy_7 : decode cX10_copy 7 = .ok (.iload_n 3, 1) := by decide +kernel
theorem dX10_copy_8 : decode cX10_copy 8 = .ok (.invokestatic 74, 3) := by decide +kernel
theorem dX10_copy_11 : decode cX10_copy 11 = .ok (.ifCond .ne 6, 3) := by decide +kernel
theorem dX10_copy_14 : decode cX10_copy 14 = .ok (.ldc 78, 2) := by decide +kernel
theorem dX10_copy_16 : decode cX10_copy 16 = .ok (.ireturn, 1) := by decide +kernel
theorem dX10_copy_17 : decode cX10_copy 17 = .ok (.aload_n 0, 1) := by decide +kernel
theorem dX10_copy_18 : decode cX10_copy 18 = .ok (.getfield 7, 3) := by decide +kernel
theorem dX10_copy_21 : decode cX10_copy 21 = .ok (.iload_n 1, 1) := by decide +kernel
theorem dX10_copy_22 : decode cX10_copy 22 = .ok (.iaload, 1) := by decide +kernel
theorem dX10_copy_23 : decode cX10_copy 23 = .ok (.ifCond .lt 12, 3) := by decide +kernel
theorem dX10_copy_26 : decode cX10_copy 26 = .ok (.aload_n 0, 1) := by decide +kernel
theorem dX10_copy_27 : decode cX10_copy 27 = .ok (.getfield 7, 3) := by decide +kernel
theorem dX10_copy_30 : decode cX10_copy 30 = .ok (.iload_n 3, 1) := by decide +kernel
theorem dX10_copy_31 : decode cX10_copy 31 = .ok (.iaload, 1) := by decide +kernel
theorem dX10_copy_32 : decode cX10_copy 32 = .ok (.ifCond .ge 9, 3) := by decide +kernel
theorem dX10_copy_35 : decode cX10_copy 35 = .ok (.aload_n 0, 1) := by decide +kernel
theorem dX10_copy_36 : decode cX10_copy 36 = .ok (.iconst 1, 1) := by decide +kernel
theorem dX10_copy_37 : decode cX10_copy 37 = .ok (.invokevirtual 79, 3) := by decide +kernel
theorem dX10_copy_40 : decode cX10_copy 40 = .ok (.ireturn, 1) := by decide +kernel
theorem dX10_copy_41 : decode cX10_copy 41 = .ok (.aload_n 0, 1) := by decide +kernel
theorem dX10_copy_42 : decode cX10_copy 42 = .ok (.getfield 13, 3) := by decide +kernel
theorem dX10_copy_45 : decode cX10_copy 45 = .ok (.iload_n 1, 1) := by decide +kernel
theorem dX10_copy_46 : decode cX10_copy 46 = .ok (.iaload, 1) := by decide +kernel
theorem dX10_copy_47 : decode cX10_copy 47 = .ok (.aload_n 0, 1) := by decide +kernel
theorem dX10_copy_48 : decode cX10_copy 48 = .ok (.getfield 13, 3) := by decide +kernel
theorem dX10_copy_51 : decode cX10_copy 51 = .ok (.iload_n 3, 1) := by decide +kernel
theorem dX10_copy_52 : decode cX10_copy 52 = .ok (.iaload, 1) := by decide +kernel
theorem dX10_copy_53 : decode cX10_copy 53 = .ok (.if_icmp .eq 9, 3) := by decide +kernel
theorem dX10_copy_56 : decode cX10_copy 56 = .ok (.aload_n 0, 1) := by decide +kernel
theorem dX10_copy_57 : decode cX10_copy 57 = .ok (.iconst 5, 1) := by decide +kernel
theorem dX10_copy_58 : decode cX10_copy 58 = .ok (.invokevirtual 79, 3) := by decide +kernel
theorem dX10_copy_61 : decode cX10_copy 61 = .ok (.ireturn, 1) := by decide +kernel
theorem dX10_copy_62 : decode cX10_copy 62 = .ok (.aload_n 0, 1) := by decide +kernel
theorem dX10_copy_63 : decode cX10_copy 63 = .ok (.iload_n 1, 1) := by decide +kernel
theorem dX10_copy_64 : decode cX10_copy 64 = .ok (.iload_n 2, 1) := by decide +kernel
theorem dX10_copy_65 : decode cX10_copy 65 = .ok (.iload 5, 2) := by decide +kernel
theorem dX10_copy_67 : decode cX10_copy 67 = .ok (.invokevirtual 86, 3) := by decide +kernel
theorem dX10_copy_70 : decode cX10_copy 70 = .ok (.ifCond .eq 15, 3) := by decide +kernel
theorem dX10_copy_73 : decode cX10_copy 73 = .ok (.aload_n 0, 1) := by decide +kernel
theorem dX10_copy_74 : decode cX10_copy 74 = .ok (.iload_n 3, 1) := by decide +kernel
theorem dX10_copy_75 : decode cX10_copy 75 = .ok (.iload 4, 2) := by decide +kernel
theorem dX10_copy_77 : decode cX10_copy 77 = .ok (.iload 5, 2) := by decide +kernel
theorem dX10_copy_79 : decode cX10_copy 79 = .ok (.invokevirtual 86, 3) := by decide +kernel
theorem dX10_copy_82 : decode cX10_copy 82 = .ok (.ifCond .ne 9, 3) := by decide +kernel
theorem dX10_copy_85 : decode cX10_copy 85 = .ok (.aload_n 0, 1) := by decide +kernel
theorem dX10_copy_86 : decode cX10_copy 86 = .ok (.iconst 2, 1) := by decide +kernel
theorem dX10_copy_87 : decode cX10_copy 87 = .ok (.invokevirtual 79, 3) := by decide +kernel
theorem dX10_copy_90 : decode cX10_copy 90 = .ok (.ireturn, 1) := by decide +kernel
theorem dX10_copy_91 : decode cX10_copy 91 = .ok (.iload_n 1, 1) := by decide +kernel
theorem dX10_copy_92 : decode cX10_copy 92 = .ok (.iload_n 3, 1) := by decide +kernel
theorem dX10_copy_93 : decode cX10_copy 93 = .ok (.if_icmp .ne 13, 3) := by decide +kernel
theorem dX10_copy_96 : decode cX10_copy 96 = .ok (.iload 4, 2) := by decide +kernel
theorem dX10_copy_98 : decode cX10_copy 98 = .ok (.iload_n 2, 1) := by decide +kernel
theorem dX10_copy_99 : decode cX10_copy 99 = .ok (.if_icmp .le 7, 3) := by decide +kernel
theorem dX10_copy_102 : decode cX10_copy 102 = .ok (.iconst 1, 1) := by decide +kernel
theorem dX10_copy_103 : decode cX10_copy 103 = .ok (.goto 4, 3) := by decide +kernel
theorem dX10_copy_106 : decode cX10_copy 106 = .ok (.iconst 0, 1) := by decide +kernel
theorem dX10_copy_107 : decode cX10_copy 107 = .ok (.istore 6, 2) := by decide +kernel
theorem dX10_copy_109 : decode cX10_copy 109 = .ok (.iconst 0, 1) := by decide +kernel
theorem dX10_copy_110 : decode cX10_copy 110 = .ok (.istore 7, 2) := by decide +kernel
theorem dX10_copy_112 : decode cX10_copy 112 = .ok (.iload 7, 2) := by decide +kernel
theorem dX10_copy_114 : decode cX10_copy 114 = .ok (.iload 5, 2) := by decide +kernel
theorem dX10_copy_116 : decode cX10_copy 116 = .ok (.if_icmp .ge 57, 3) := by decide +kernel
theorem dX10_copy_119 : decode cX10_copy 119 = .ok (.iload 6, 2) := by decide +kernel
theorem dX10_copy_121 : decode cX10_copy 121 = .ok (.ifCond .eq 13, 3) := by decide +kernel
theorem dX10_copy_124 : decode cX10_copy 124 = .ok (.iload 5, 2) := by decide +kernel
theorem dX10_copy_126 : decode cX10_copy 126 = .ok (.iconst 1, 1) := by decide +kernel
theorem dX10_copy_127 : decode cX10_copy 127 = .ok (.isub, 1) := by decide +kernel
theorem dX10_copy_128 : decode cX10_copy 128 = .ok (.iload 7, 2) := by decide +kernel
theorem dX10_copy_130 : decode cX10_copy 130 = .ok (.isub, 1) := by decide +kernel
theorem dX10_copy_131 : decode cX10_copy 131 = .ok (.goto 5, 3) := by decide +kernel
theorem dX10_copy_134 : decode cX10_copy 134 = .ok (.iload 7, 2) := by decide +kernel
theorem dX10_copy_136 : decode cX10_copy 136 = .ok (.istore 8, 2) := by decide +kernel
theorem dX10_copy_138 : decode cX10_copy 138 = .ok (.aload_n 0, 1) := by decide +kernel
theorem dX10_copy_139 : decode cX10_copy 139 = .ok (.getfield 16, 3) := by decide +kernel
theorem dX10_copy_142 : decode cX10_copy 142 = .ok (.bipush 40, 2) := by decide +kernel
theorem dX10_copy_144 : decode cX10_copy 144 = .ok (.iload_n 3, 1) := by decide +kernel
theorem dX10_copy_145 : decode cX10_copy 145 = .ok (.imul, 1) := by decide +kernel
theorem dX10_copy_146 : decode cX10_copy 146 = .ok (.iload 4, 2) := by decide +kernel
theorem dX10_copy_148 : decode cX10_copy 148 = .ok (.iadd, 1) := by decide +kernel
theorem dX10_copy_149 : decode cX10_copy 149 = .ok (.iload 8, 2) := by decide +kernel
theorem dX10_copy_151 : decode cX10_copy 151 = .ok (.iadd, 1) := by decide +kernel
theorem dX10_copy_152 : decode cX10_copy 152 = .ok (.aload_n 0, 1) := by decide +kernel
theorem dX10_copy_153 : decode cX10_copy 153 = .ok (.getfield 16, 3) := by decide +kernel
theorem dX10_copy_156 : decode cX10_copy 156 = .ok (.bipush 40, 2) := by decide +kernel
theorem dX10_copy_158 : decode cX10_copy 158 = .ok (.iload_n 1, 1) := by decide +kernel
theorem dX10_copy_159 : decode cX10_copy 159 = .ok (.imul, 1) := by decide +kernel
theorem dX10_copy_160 : decode cX10_copy 160 = .ok (.iload_n 2, 1) := by decide +kernel
theorem dX10_copy_161 : decode cX10_copy 161 = .ok (.iadd, 1) := by decide +kernel
theorem dX10_copy_162 : decode cX10_copy 162 = .ok (.iload 8, 2) := by decide +kernel
theorem dX10_copy_164 : decode cX10_copy 164 = .ok (.iadd, 1) := by decide +kernel
theorem dX10_copy_165 : decode cX10_copy 165 = .ok (.iaload, 1) := by decide +kernel
theorem dX10_copy_166 : decode cX10_copy 166 = .ok (.iastore, 1) := by decide +kernel
theorem dX10_copy_167 : decode cX10_copy 167 = .ok (.iinc 7 1, 3) := by decide +kernel
theorem dX10_copy_170 : decode cX10_copy 170 = .ok (.goto (-58), 3) := by decide +kernel
theorem dX10_copy_173 : decode cX10_copy 173 = .ok (.aload_n 0, 1) := by decide +kernel
theorem dX10_copy_174 : decode cX10_copy 174 = .ok (.iload 5, 2) := by decide +kernel
theorem dX10_copy_176 : decode cX10_copy 176 = .ok (.invokevirtual 83, 3) := by decide +kernel
theorem dX10_copy_179 : decode cX10_copy 179 = .ok (.ireturn, 1) := by decide +kernel
theorem dX10_drop_0 : decode cX10_drop 0 = .ok (.iload_n 1, 1) := by decide +kernel
theorem dX10_drop_1 : decode cX10_drop 1 = .ok (.invokestatic 74, 3) := by decide +kernel
theorem dX10_drop_4 : decode cX10_drop 4 = .ok (.ifCond .ne 6, 3) := by decide +kernel
theorem dX10_drop_7 : decode cX10_drop 7 = .ok (.ldc 78, 2) := by decide +kernel
theorem dX10_drop_9 : decode cX10_drop 9 = .ok (.ireturn, 1) := by decide +kernel
theorem dX10_drop_10 : decode cX10_drop 10 = .ok (.aload_n 0, 1) := by decide +kernel
theorem dX10_drop_11 : decode cX10_drop 11 = .ok (.getfield 7, 3) := by decide +kernel
theorem dX10_drop_14 : decode cX10_drop 14 = .ok (.iload_n 1, 1) := by decide +kernel
theorem dX10_drop_15 : decode cX10_drop 15 = .ok (.iaload, 1) := by decide +kernel
theorem dX10_drop_16 : decode cX10_drop 16 = .ok (.ifCond .ge 9, 3) := by decide +kernel
theorem dX10_drop_19 : decode cX10_drop 19 = .ok (.aload_n 0, 1) := by decide +kernel
theorem dX10_drop_20 : decode cX10_drop 20 = .ok (.iconst 1, 1) := by decide +kernel
theorem dX10_drop_21 : decode cX10_drop 21 = .ok (.invokevirtual 79, 3) := by decide +kernel
theorem dX10_drop_24 : decode cX10_drop 24 = .ok (.ireturn, 1) := by decide +kernel
theorem dX10_drop_25 : decode cX10_drop 25 = .ok (.aload_n 0, 1) := by decide +kernel
theorem dX10_drop_26 : decode cX10_drop 26 = .ok (.getfield 7, 3) := by decide +kernel
theorem dX10_drop_29 : decode cX10_drop 29 = .ok (.iload_n 1, 1) := by decide +kernel
theorem dX10_drop_30 : decode cX10_drop 30 = .ok (.iaload, 1) := by decide +kernel
theorem dX10_drop_31 : decode cX10_drop 31 = .ok (.istore_n 2, 1) := by decide +kernel
theorem dX10_drop_32 : decode cX10_drop 32 = .ok (.aload_n 0, 1) := by decide +kernel
theorem dX10_drop_33 : decode cX10_drop 33 = .ok (.getfield 7, 3) := by decide +kernel
theorem dX10_drop_36 : decode cX10_drop 36 = .ok (.iload_n 1, 1) := by decide +kernel
theorem dX10_drop_37 : decode cX10_drop 37 = .ok (.iconst (-1), 1) := by decide +kernel
theorem dX10_drop_38 : decode cX10_drop 38 = .ok (.iastore, 1) := by decide +kernel
theorem dX10_drop_39 : decode cX10_drop 39 = .ok (.aload_n 0, 1) := by decide +kernel
theorem dX10_drop_40 : decode cX10_drop 40 = .ok (.iload_n 2, 1) := by decide +kernel
theorem dX10_drop_41 : decode cX10_drop 41 = .ok (.invokevirtual 83, 3) := by decide +kernel
theorem dX10_drop_44 : decode cX10_drop 44 = .ok (.ireturn, 1) := by decide +kernel
theorem dX10_feed_0 : decode cX10_feed 0 = .ok (.iload_n 1, 1) := by decide +kernel
theorem dX10_feed_1 : decode cX10_feed 1 = .ok (.iconst 0, 1) := by decide +kernel
theorem dX10_feed_2 : decode cX10_feed 2 = .ok (.sipush 255, 3) := by decide +kernel
theorem dX10_feed_5 : decode cX10_feed 5 = .ok (.invokestatic 70, 3) := by decide +kernel
theorem dX10_feed_8 : decode cX10_feed 8 = .ok (.ifCond .ne 6, 3) := by decide +kernel
theorem dX10_feed_11 : decode cX10_feed 11 = .ok (.ldc 78, 2) := by decide +kernel
theorem dX10_feed_13 : decode cX10_feed 13 = .ok (.ireturn, 1) := by decide +kernel
theorem dX10_feed_14 : decode cX10_feed 14 = .ok (.aload_n 0, 1) := by decide +kernel
theorem dX10_feed_15 : decode cX10_feed 15 = .ok (.getfield 89, 3) := by decide +kernel
theorem dX10_feed_18 : decode cX10_feed 18 = .ok (.bipush 120, 2) := by decide +kernel
theorem dX10_feed_20 : decode cX10_feed 20 = .ok (.if_icmp .ne 6, 3) := by decide +kernel
theorem dX10_feed_23 : decode cX10_feed 23 = .ok (.ldc 92, 2) := by decide +kernel
theorem dX10_feed_25 : decode cX10_feed 25 = .ok (.ireturn, 1) := by decide +kernel
theorem dX10_feed_26 : decode cX10_feed 26 = .ok (.aload_n 0, 1) := by decide +kernel
theorem dX10_feed_27 : decode cX10_feed 27 = .ok (.getfield 19, 3) := by decide +kernel
theorem dX10_feed_30 : decode cX10_feed 30 = .ok (.aload_n 0, 1) := by decide +kernel
theorem dX10_feed_31 : decode cX10_feed 31 = .ok (.getfield 89, 3) := by decide +kernel
theorem dX10_feed_34 : decode cX10_feed 34 = .ok (.iload_n 1, 1) := by decide +kernel
theorem dX10_feed_35 : decode cX10_feed 35 = .ok (.iastore, 1) := by decide +kernel
theorem dX10_feed_36 : decode cX10_feed 36 = .ok (.aload_n 0, 1) := by decide +kernel
theorem dX10_feed_37 : decode cX10_feed 37 = .ok (.dup, 1) := by decide +kernel
theorem dX10_feed_38 : decode cX10_feed 38 = .ok (.getfield 89, 3) := by decide +kernel
theorem dX10_feed_41 : decode cX10_feed 41 = .ok (.iconst 1, 1) := by decide +kernel
theorem dX10_feed_42 : decode cX10_feed 42 = .ok (.iadd, 1) := by decide +kernel
theorem dX10_feed_43 : decode cX10_feed 43 = .ok (.putfield 89, 3) := by decide +kernel
theorem dX10_feed_46 : decode cX10_feed 46 = .ok (.aload_n 0, 1) := by decide +kernel
theorem dX10_feed_47 : decode cX10_feed 47 = .ok (.getfield 89, 3) := by decide +kernel
theorem dX10_feed_50 : decode cX10_feed 50 = .ok (.ireturn, 1) := by decide +kernel
theorem dX10_byteAt_0 : decode cX10_byteAt 0 = .ok (.iload_n 1, 1) := by decide +kernel
theorem dX10_byteAt_1 : decode cX10_byteAt 1 = .ok (.aload_n 0, 1) := by decide +kernel
theorem dX10_byteAt_2 : decode cX10_byteAt 2 = .ok (.getfield 89, 3) := by decide +kernel
theorem dX10_byteAt_5 : decode cX10_byteAt 5 = .ok (.if_icmp .ge 12, 3) := by decide +kernel
theorem dX10_byteAt_8 : decode cX10_byteAt 8 = .ok (.aload_n 0, 1) := by decide +kernel
theorem dX10_byteAt_9 : decode cX10_byteAt 9 = .ok (.getfield 19, 3) := by decide +kernel
theorem dX10_byteAt_12 : decode cX10_byteAt 12 = .ok (.iload_n 1, 1) := by decide +kernel
theorem dX10_byteAt_13 : decode cX10_byteAt 13 = .ok (.iaload, 1) := by decide +kernel
theorem dX10_byteAt_14 : decode cX10_byteAt 14 = .ok (.goto 4, 3) := by decide +kernel
theorem dX10_byteAt_17 : decode cX10_byteAt 17 = .ok (.iconst 0, 1) := by decide +kernel
theorem dX10_byteAt_18 : decode cX10_byteAt 18 = .ok (.ireturn, 1) := by decide +kernel
theorem dX10_isFigure_0 : decode cX10_isFigure 0 = .ok (.iload_n 0, 1) := by decide +kernel
theorem dX10_isFigure_1 : decode cX10_isFigure 1 = .ok (.bipush 48, 2) := by decide +kernel
theorem dX10_isFigure_3 : decode cX10_isFigure 3 = .ok (.bipush 57, 2) := by decide +kernel
theorem dX10_isFigure_5 : decode cX10_isFigure 5 = .ok (.invokestatic 70, 3) := by decide +kernel
theorem dX10_isFigure_8 : decode cX10_isFigure 8 = .ok (.ireturn, 1) := by decide +kernel
theorem dX10_reads_0 : decode cX10_reads 0 = .ok (.aload_n 0, 1) := by decide +kernel
theorem dX10_reads_1 : decode cX10_reads 1 = .ok (.aload_n 0, 1) := by decide +kernel
theorem dX10_reads_2 : decode cX10_reads 2 = .ok (.getfield 93, 3) := by decide +kernel
theorem dX10_reads_5 : decode cX10_reads 5 = .ok (.putfield 96, 3) := by decide +kernel
theorem dX10_reads_8 : decode cX10_reads 8 = .ok (.aload_n 0, 1) := by decide +kernel
theorem dX10_reads_9 : decode cX10_reads 9 = .ok (.aload_n 0, 1) := by decide +kernel
theorem dX10_reads_10 : decode cX10_reads 10 = .ok (.getfield 93, 3) := by decide +kernel
theorem dX10_reads_13 : decode cX10_reads 13 = .ok (.invokevirtual 99, 3) := by decide +kernel
theorem dX10_reads_16 : decode cX10_reads 16 = .ok (.istore_n 1, 1) := by decide +kernel
theorem dX10_reads_17 : decode cX10_reads 17 = .ok (.aload_n 0, 1) := by decide +kernel
theorem dX10_reads_18 : decode cX10_reads 18 = .ok (.getfield 93, 3) := by decide +kernel
theorem dX10_reads_21 : decode cX10_reads 21 = .ok (.aload_n 0, 1) := by decide +kernel
theorem dX10_reads_22 : decode cX10_reads 22 = .ok (.getfield 89, 3) := by decide +kernel
theorem dX10_reads_25 : decode cX10_reads 25 = .ok (.if_icmp .ne 11, 3) := by decide +kernel
theorem dX10_reads_28 : decode cX10_reads 28 = .ok (.aload_n 0, 1) := by decide +kernel
theorem dX10_reads_29 : decode cX10_reads 29 = .ok (.iconst (-1), 1) := by decide +kernel
theorem dX10_reads_30 : decode cX10_reads 30 = .ok (.putfield 102, 3) := by decide +kernel
theorem dX10_reads_33 : decode cX10_reads 33 = .ok (.goto 149, 3) := by decide +kernel
theorem dX10_reads_36 : decode cX10_reads 36 = .ok (.iload_n 1, 1) := by decide +kernel
theorem dX10_reads_37 : decode cX10_reads 37 = .ok (.invokestatic 105, 3) := by decide +kernel
theorem dX10_reads_40 : decode cX10_reads 40 = .ok (.ifCond .eq 100, 3) := by decide +kernel
theorem dX10_reads_43 : decode cX10_reads 43 = .ok (.aload_n 0, 1) := by decide +kernel
theorem dX10_reads_44 : decode cX10_reads 44 = .ok (.iconst 0, 1) := by decide +kernel
theorem dX10_reads_45 : decode cX10_reads 45 = .ok (.putfield 108, 3) := by decide +kernel
theorem dX10_reads_48 : decode cX10_reads 48 = .ok (.aload_n 0, 1) := by decide +kernel
theorem dX10_reads_49 : decode cX10_reads 49 = .ok (.aload_n 0, 1) := by decide +kernel
theorem dX10_reads_50 : decode cX10_reads 50 = .ok (.getfield 93, 3) := by decide +kernel
theorem dX10_reads_53 : decode cX10_reads 53 = .ok (.invokevirtual 99, 3) := by decide +kernel
theorem dX10_reads_56 : decode cX10_reads 56 = .ok (.invokestatic 105, 3) := by decide +kernel
theorem dX10_reads_59 : decode cX10_reads 59 = .ok (.ifCond .eq 55, 3) := by decide +kernel
theorem dX10_reads_62 : decode cX10_reads 62 = .ok (.aload_n 0, 1) := by decide +kernel
theorem dX10_reads_63 : decode cX10_reads 63 = .ok (.aload_n 0, 1) := by decide +kernel
theorem dX10_reads_64 : decode cX10_reads 64 = .ok (.getfield 108, 3) := by decide +kernel
theorem dX10_reads_67 : decode cX10_reads 67 = .ok (.bipush 99, 2) := by decide +kernel
theorem dX10_reads_69 : decode cX10_reads 69 = .ok (.if_icmp .le 10, 3) := by decide +kernel
theorem dX10_reads_72 : decode cX10_reads 72 = .ok (.aload_n 0, 1) := by decide +kernel
theorem dX10_reads_73 : decode cX10_reads 73 = .ok (.getfield 108, 3) := by decide +kernel
theorem dX10_reads_76 : decode cX10_reads 76 = .ok (.goto 22, 3) := by decide +kernel
theorem dX10_reads_79 : decode cX10_reads 79 = .ok (.bipush 10, 2) := by decide +kernel
theorem dX10_reads_81 : decode cX10_reads 81 = .ok (.aload_n 0, 1) := by decide +kernel
theorem dX10_reads_82 : decode cX10_reads 82 = .ok (.getfield 108, 3) := by decide +kernel
theorem dX10_reads_85 : decode cX10_reads 85 = .ok (.imul, 1) := by decide +kernel
theorem dX10_reads_86 : decode cX10_reads 86 = .ok (.aload_n 0, 1) := by decide +kernel
theorem dX10_reads_87 : decode cX10_reads 87 = .ok (.aload_n 0, 1) := by decide +kernel
theorem dX10_reads_88 : decode cX10_reads 88 = .ok (.getfield 93, 3) := by decide +kernel
theorem dX10_reads_91 : decode cX10_reads 91 = .ok (.invokevirtual 99, 3) := by decide +kernel
theorem dX10_reads_94 : decode cX10_reads 94 = .ok (.iadd, 1) := by decide +kernel
theorem dX10_reads_95 : decode cX10_reads 95 = .ok (.bipush 48, 2) := by decide +kernel
theorem dX10_reads_97 : decode cX10_reads 97 = .ok (.isub, 1) := by decide +kernel
theorem dX10_reads_98 : decode cX10_reads 98 = .ok (.putfield 108, 3) := by decide +kernel
theorem dX10_reads_101 : decode cX10_reads 101 = .ok (.aload_n 0, 1) := by decide +kernel
theorem dX10_reads_102 : decode cX10_reads 102 = .ok (.dup, 1) := by decide +kernel
theorem dX10_reads_103 : decode cX10_reads 103 = .ok (.getfield 93, 3) := by decide +kernel
theorem dX10_reads_106 : decode cX10_reads 106 = .ok (.iconst 1, 1) := by decide +kernel
theorem dX10_reads_107 : decode cX10_reads 107 = .ok (.iadd, 1) := by decide +kernel
theorem dX10_reads_108 : decode cX10_reads 108 = .ok (.putfield 93, 3) := by decide +kernel
theorem dX10_reads_111 : decode cX10_reads 111 = .ok (.goto (-63), 3) := by decide +kernel
theorem dX10_reads_114 : decode cX10_reads 114 = .ok (.aload_n 0, 1) := by decide +kernel
theorem dX10_reads_115 : decode cX10_reads 115 = .ok (.aload_n 0, 1) := by decide +kernel
theorem dX10_reads_116 : decode cX10_reads 116 = .ok (.getfield 93, 3) := by decide +kernel
theorem dX10_reads_119 : decode cX10_reads 119 = .ok (.aload_n 0, 1) := by decide +kernel
theorem dX10_reads_120 : decode cX10_reads 120 = .ok (.getfield 96, 3) := by decide +kernel
theorem dX10_reads_123 : decode cX10_reads 123 = .ok (.isub, 1) := by decide +kernel
theorem dX10_reads_124 : decode cX10_reads 124 = .ok (.iconst 2, 1) := by decide +kernel
theorem dX10_reads_125 : decode cX10_reads 125 = .ok (.if_icmp .le 7, 3) := by decide +kernel
theorem dX10_reads_128 : decode cX10_reads 128 = .ok (.iconst 0, 1) := by decide +kernel
theorem dX10_reads_129 : decode cX10_reads 129 = .ok (.goto 5, 3) := by decide +kernel
theorem dX10_reads_132 : decode cX10_reads 132 = .ok (.bipush 48, 2) := by decide +kernel
theorem dX10_reads_134 : decode cX10_reads 134 = .ok (.putfield 102, 3) := by decide +kernel
theorem dX10_reads_137 : decode cX10_reads 137 = .ok (.goto 45, 3) := by decide +kernel
theorem dX10_reads_140 : decode cX10_reads 140 = .ok (.aload_n 0, 1) := by decide +kernel
theorem dX10_reads_141 : decode cX10_reads 141 = .ok (.dup, 1) := by decide +kernel
theorem dX10_reads_142 : decode cX10_reads 142 = .ok (.getfield 93, 3) := by decide +kernel
theorem dX10_reads_145 : decode cX10_reads 145 = .ok (.iconst 1, 1) := by decide +kernel
theorem dX10_reads_146 : decode cX10_reads 146 = .ok (.iadd, 1) := by decide +kernel
theorem dX10_reads_147 : decode cX10_reads 147 = .ok (.putfield 93, 3) := by decide +kernel
theorem dX10_reads_150 : decode cX10_reads 150 = .ok (.aload_n 0, 1) := by decide +kernel
theorem dX10_reads_151 : decode cX10_reads 151 = .ok (.iload_n 1, 1) := by decide +kernel
theorem dX10_reads_152 : decode cX10_reads 152 = .ok (.bipush 97, 2) := by decide +kernel
theorem dX10_reads_154 : decode cX10_reads 154 = .ok (.bipush 122, 2) := by decide +kernel
theorem dX10_reads_156 : decode cX10_reads 156 = .ok (.invokestatic 70, 3) := by decide +kernel
theorem dX10_reads_159 : decode cX10_reads 159 = .ok (.ifCond .ne 15, 3) := by decide +kernel
theorem dX10_reads_162 : decode cX10_reads 162 = .ok (.iload_n 1, 1) := by decide +kernel
theorem dX10_reads_163 : decode cX10_reads 163 = .ok (.bipush 44, 2) := by decide +kernel
theorem dX10_reads_165 : decode cX10_reads 165 = .ok (.if_icmp .eq 9, 3) := by decide +kernel
theorem dX10_reads_168 : decode cX10_reads 168 = .ok (.iload_n 1, 1) := by decide +kernel
theorem dX10_reads_169 : decode cX10_reads 169 = .ok (.bipush 59, 2) := by decide +kernel
theorem dX10_reads_171 : decode cX10_reads 171 = .ok (.if_icmp .ne 7, 3) := by decide +kernel
theorem dX10_reads_174 : decode cX10_reads 174 = .ok (.iload_n 1, 1) := by decide +kernel
theorem dX10_reads_175 : decode cX10_reads 175 = .ok (.goto 4, 3) := by decide +kernel
theorem dX10_reads_178 : decode cX10_reads 178 = .ok (.iconst 0, 1) := by decide +kernel
theorem dX10_reads_179 : decode cX10_reads 179 = .ok (.putfield 102, 3) := by decide +kernel
theorem dX10_reads_182 : decode cX10_reads 182 = .ok (.return_, 1) := by decide +kernel
theorem dX10_fails_0 : decode cX10_fails 0 = .ok (.aload_n 0, 1) := by decide +kernel
theorem dX10_fails_1 : decode cX10_fails 1 = .ok (.iload_n 1, 1) := by decide +kernel
theorem dX10_fails_2 : decode cX10_fails 2 = .ok (.putfield 111, 3) := by decide +kernel
theorem dX10_fails_5 : decode cX10_fails 5 = .ok (.iconst 0, 1) := by decide +kernel
theorem dX10_fails_6 : decode cX10_fails 6 = .ok (.ireturn, 1) := by decide +kernel
theorem dX10_told_0 : decode cX10_told 0 = .ok (.aload_n 0, 1) := by decide +kernel
theorem dX10_told_1 : decode cX10_told 1 = .ok (.invokevirtual 114, 3) := by decide +kernel
theorem dX10_told_4 : decode cX10_told 4 = .ok (.aload_n 0, 1) := by decide +kernel
theorem dX10_told_5 : decode cX10_told 5 = .ok (.getfield 102, 3) := by decide +kernel
theorem dX10_told_8 : decode cX10_told 8 = .ok (.bipush 48, 2) := by decide +kernel
theorem dX10_told_10 : decode cX10_told 10 = .ok (.if_icmp .eq 9, 3) := by decide +kernel
theorem dX10_told_13 : decode cX10_told 13 = .ok (.aload_n 0, 1) := by decide +kernel
theorem dX10_told_14 : decode cX10_told 14 = .ok (.iconst 1, 1) := by decide +kernel
theorem dX10_told_15 : decode cX10_told 15 = .ok (.invokevirtual 117, 3) := by decide +kernel
theorem dX10_told_18 : decode cX10_told 18 = .ok (.ireturn, 1) := by decide +kernel
theorem dX10_told_19 : decode cX10_told 19 = .ok (.aload_n 1, 1) := by decide +kernel
theorem dX10_told_20 : decode cX10_told 20 = .ok (.iload_n 2, 1) := by decide +kernel
theorem dX10_told_21 : decode cX10_told 21 = .ok (.aload_n 0, 1) := by decide +kernel
theorem dX10_told_22 : decode cX10_told 22 = .ok (.getfield 108, 3) := by decide +kernel
theorem dX10_told_25 : decode cX10_told 25 = .ok (.iastore, 1) := by decide +kernel
theorem dX10_told_26 : decode cX10_told 26 = .ok (.aload_n 0, 1) := by decide +kernel
theorem dX10_told_27 : decode cX10_told 27 = .ok (.getfield 108, 3) := by decide +kernel
theorem dX10_told_30 : decode cX10_told 30 = .ok (.iload_n 3, 1) := by decide +kernel
theorem dX10_told_31 : decode cX10_told 31 = .ok (.iload 4, 2) := by decide +kernel
theorem dX10_told_33 : decode cX10_told 33 = .ok (.invokestatic 70, 3) := by decide +kernel
theorem dX10_told_36 : decode cX10_told 36 = .ok (.ifCond .ne 11, 3) := by decide +kernel
theorem dX10_told_39 : decode cX10_told 39 = .ok (.aload_n 0, 1) := by decide +kernel
theorem dX10_told_40 : decode cX10_told 40 = .ok (.iconst 2, 1) := by decide +kernel
theorem dX10_told_41 : decode cX10_told 41 = .ok (.invokevirtual 117, 3) := by decide +kernel
theorem dX10_told_44 : decode cX10_told 44 = .ok (.ifCond .eq 7, 3) := by decide +kernel
theorem dX10_told_47 : decode cX10_told 47 = .ok (.iconst 1, 1) := by decide +kernel
theorem dX10_told_48 : decode cX10_told 48 = .ok (.goto 4, 3) := by decide +kernel
theorem dX10_told_51 : decode cX10_told 51 = .ok (.iconst 0, 1) := by decide +kernel
theorem dX10_told_52 : decode cX10_told 52 = .ok (.ireturn, 1) := by decide +kernel
theorem dX10_sign_0 : decode cX10_sign 0 = .ok (.aload_n 0, 1) := by decide +kernel
theorem dX10_sign_1 : decode cX10_sign 1 = .ok (.invokevirtual 114, 3) := by decide +kernel
theorem dX10_sign_4 : decode cX10_sign 4 = .ok (.aload_n 0, 1) := by decide +kernel
theorem dX10_sign_5 : decode cX10_sign 5 = .ok (.getfield 102, 3) := by decide +kernel
theorem dX10_sign_8 : decode cX10_sign 8 = .ok (.iload_n 1, 1) := by decide +kernel
theorem dX10_sign_9 : decode cX10_sign 9 = .ok (.if_icmp .eq 11, 3) := by decide +kernel
theorem dX10_sign_12 : decode cX10_sign 12 = .ok (.aload_n 0, 1) := by decide +kernel
theorem dX10_sign_13 : decode cX10_sign 13 = .ok (.iconst 1, 1) := by decide +kernel
theorem dX10_sign_14 : decode cX10_sign 14 = .ok (.invokevirtual 117, 3) := by decide +kernel
theorem dX10_sign_17 : decode cX10_sign 17 = .ok (.ifCond .eq 7, 3) := by decide +kernel
theorem dX10_sign_20 : decode cX10_sign 20 = .ok (.iconst 1, 1) := by decide +kernel
theorem dX10_sign_21 : decode cX10_sign 21 = .ok (.goto 4, 3) := by decide +kernel
theorem dX10_sign_24 : decode cX10_sign 24 = .ok (.iconst 0, 1) := by decide +kernel
theorem dX10_sign_25 : decode cX10_sign 25 = .ok (.ireturn, 1) := by decide +kernel
theorem dX10_readsLaw_0 : decode cX10_readsLaw 0 = .ok (.aload_n 0, 1) := by decide +kernel
theorem dX10_readsLaw_1 : decode cX10_readsLaw 1 = .ok (.getfield 102, 3) := by decide +kernel
theorem dX10_readsLaw_4 : decode cX10_readsLaw 4 = .ok (.bipush 99, 2) := by decide +kernel
theorem dX10_readsLaw_6 : decode cX10_readsLaw 6 = .ok (.if_icmp .eq 9, 3) := by decide +kernel
theorem dX10_readsLaw_9 : decode cX10_readsLaw 9 = .ok (.aload_n 0, 1) := by decide +kernel
theorem dX10_readsLaw_10 : decode cX10_readsLaw 10 = .ok (.iconst 1, 1) := by decide +kernel
theorem dX10_readsLaw_11 : decode cX10_readsLaw 11 = .ok (.invokevirtual 117, 3) := by decide +kernel
theorem dX10_readsLaw_14 : decode cX10_readsLaw 14 = .ok (.ireturn, 1) := by decide +kernel
theorem dX10_readsLaw_15 : decode cX10_readsLaw 15 = .ok (.aload_n 0, 1) := by decide +kernel
theorem dX10_readsLaw_16 : decode cX10_readsLaw 16 = .ok (.aload_n 0, 1) := by decide +kernel
theorem dX10_readsLaw_17 : decode cX10_readsLaw 17 = .ok (.getfield 22, 3) := by decide +kernel
theorem dX10_readsLaw_20 : decode cX10_readsLaw 20 = .ok (.iconst 2, 1) := by decide +kernel
theorem dX10_readsLaw_21 : decode cX10_readsLaw 21 = .ok (.iconst 1, 1) := by decide +kernel
theorem dX10_readsLaw_22 : decode cX10_readsLaw 22 = .ok (.bipush 60, 2) := by decide +kernel
theorem dX10_readsLaw_24 : decode cX10_readsLaw 24 = .ok (.invokevirtual 120, 3) := by decide +kernel
theorem dX10_readsLaw_27 : decode cX10_readsLaw 27 = .ok (.ifCond .eq 40, 3) := by decide +kernel
theorem dX10_readsLaw_30 : decode cX10_readsLaw 30 = .ok (.aload_n 0, 1) := by decide +kernel
theorem dX10_readsLaw_31 : decode cX10_readsLaw 31 = .ok (.bipush 44, 2) := by decide +kernel
theorem dX10_readsLaw_33 : decode cX10_readsLaw 33 = .ok (.invokevirtual 124, 3) := by decide +kernel
theorem dX10_readsLaw_36 : decode cX10_readsLaw 36 = .ok (.ifCond .eq 31, 3) := by decide +kernel
theorem dX10_readsLaw_39 : decode cX10_readsLaw 39 = .ok (.aload_n 0, 1) := by decide +kernel
theorem dX10_readsLaw_40 : decode cX10_readsLaw 40 = .ok (.aload_n 0, 1) := by decide +kernel
theorem dX10_readsLaw_41 : decode cX10_readsLaw 41 = .ok (.getfield 28, 3) := by decide +kernel
theorem dX10_readsLaw_44 : decode cX10_readsLaw 44 = .ok (.iconst 0, 1) := by decide +kernel
theorem dX10_readsLaw_45 : decode cX10_readsLaw 45 = .ok (.iconst 1, 1) := by decide +kernel
theorem dX10_readsLaw_46 : decode cX10_readsLaw 46 = .ok (.bipush 9, 2) := by decide +kernel
theorem dX10_readsLaw_48 : decode cX10_readsLaw 48 = .ok (.invokevirtual 120, 3) := by decide +kernel
theorem dX10_readsLaw_51 : decode cX10_readsLaw 51 = .ok (.ifCond .eq 16, 3) := by decide +kernel
theorem dX10_readsLaw_54 : decode cX10_readsLaw 54 = .ok (.aload_n 0, 1) := by decide +kernel
theorem dX10_readsLaw_55 : decode cX10_readsLaw 55 = .ok (.bipush 59, 2) := by decide +kernel
theorem dX10_readsLaw_57 : decode cX10_readsLaw 57 = .ok (.invokevirtual 124, 3) := by decide +kernel
theorem dX10_readsLaw_60 : decode cX10_readsLaw 60 = .ok (.ifCond .eq 7, 3) := by decide +kernel
theorem dX10_readsLaw_63 : decode cX10_readsLaw 63 = .ok (.iconst 1, 1) := by decide +kernel
theorem dX10_readsLaw_64 : decode cX10_readsLaw 64 = .ok (.goto 4, 3) := by decide +kernel
theorem dX10_readsLaw_67 : decode cX10_readsLaw 67 = .ok (.iconst 0, 1) := by decide +kernel
theorem dX10_readsLaw_68 : decode cX10_readsLaw 68 = .ok (.istore_n 1, 1) := by decide +kernel
theorem dX10_readsLaw_69 : decode cX10_readsLaw 69 = .ok (.aload_n 0, 1) := by decide +kernel
theorem dX10_readsLaw_70 : decode cX10_readsLaw 70 = .ok (.aload_n 0, 1) := by decide +kernel
theorem dX10_readsLaw_71 : decode cX10_readsLaw 71 = .ok (.getfield 28, 3) := by decide +kernel
theorem dX10_readsLaw_74 : decode cX10_readsLaw 74 = .ok (.iconst 0, 1) := by decide +kernel
theorem dX10_readsLaw_75 : decode cX10_readsLaw 75 = .ok (.iaload, 1) := by decide +kernel
theorem dX10_readsLaw_76 : decode cX10_readsLaw 76 = .ok (.putfield 127, 3) := by decide +kernel
theorem dX10_readsLaw_79 : decode cX10_readsLaw 79 = .ok (.iload_n 1, 1) := by decide +kernel
theorem dX10_readsLaw_80 : decode cX10_readsLaw 80 = .ok (.ireturn, 1) := by decide +kernel
theorem dX10_readsPerson_0 : decode cX10_readsPerson 0 = .ok (.aload_n 0, 1) := by decide +kernel
theorem dX10_readsPerson_1 : decode cX10_readsPerson 1 = .ok (.getfield 22, 3) := by decide +kernel
theorem dX10_readsPerson_4 : decode cX10_readsPerson 4 = .ok (.iconst 0, 1) := by decide +kernel
theorem dX10_readsPerson_5 : decode cX10_readsPerson 5 = .ok (.iaload, 1) := by decide +kernel
theorem dX10_readsPerson_6 : decode cX10_readsPerson 6 = .ok (.iconst 5, 1) := by decide +kernel
theorem dX10_readsPerson_7 : decode cX10_readsPerson 7 = .ok (.if_icmp .ne 9, 3) := by decide +kernel
theorem dX10_readsPerson_10 : decode cX10_readsPerson 10 = .ok (.aload_n 0, 1) := by decide +kernel
theorem dX10_readsPerson_11 : decode cX10_readsPerson 11 = .ok (.iconst 3, 1) := by decide +kernel
theorem dX10_readsPerson_12 : decode cX10_readsPerson 12 = .ok (.invokevirtual 117, 3) := by decide +kernel
theorem dX10_readsPerson_15 : decode cX10_readsPerson 15 = .ok (.ireturn, 1) := by decide +kernel
theorem dX10_readsPerson_16 : decode cX10_readsPerson 16 = .ok (.aload_n 0, 1) := by decide +kernel
theorem dX10_readsPerson_17 : decode cX10_readsPerson 17 = .ok (.getfield 22, 3) := by decide +kernel
theorem dX10_readsPerson_20 : decode cX10_readsPerson 20 = .ok (.iconst 0, 1) := by decide +kernel
theorem dX10_readsPerson_21 : decode cX10_readsPerson 21 = .ok (.iaload, 1) := by decide +kernel
theorem dX10_readsPerson_22 : decode cX10_readsPerson 22 = .ok (.istore_n 1, 1) := by decide +kernel
theorem dX10_readsPerson_23 : decode cX10_readsPerson 23 = .ok (.aload_n 0, 1) := by decide +kernel
theorem dX10_readsPerson_24 : decode cX10_readsPerson 24 = .ok (.getfield 22, 3) := by decide +kernel
theorem dX10_readsPerson_27 : decode cX10_readsPerson 27 = .ok (.iconst 0, 1) := by decide +kernel
theorem dX10_readsPerson_28 : decode cX10_readsPerson 28 = .ok (.dup2, 1) := by decide +kernel
theorem dX10_readsPerson_29 : decode cX10_readsPerson 29 = .ok (.iaload, 1) := by decide +kernel
theorem dX10_readsPerson_30 : decode cX10_readsPerson 30 = .ok (.iconst 1, 1) := by decide +kernel
theorem dX10_readsPerson_31 : decode cX10_readsPerson 31 = .ok (.iadd, 1) := by decide +kernel
theorem dX10_readsPerson_32 : decode cX10_readsPerson 32 = .ok (.iastore, 1) := by decide +kernel
theorem dX10_readsPerson_33 : decode cX10_readsPerson 33 = .ok (.aload_n 0, 1) := by decide +kernel
theorem dX10_readsPerson_34 : decode cX10_readsPerson 34 = .ok (.aload_n 0, 1) := by decide +kernel
theorem dX10_readsPerson_35 : decode cX10_readsPerson 35 = .ok (.getfield 25, 3) := by decide +kernel
theorem dX10_readsPerson_38 : decode cX10_readsPerson 38 = .ok (.iload_n 1, 1) := by decide +kernel
theorem dX10_readsPerson_39 : decode cX10_readsPerson 39 = .ok (.iconst 0, 1) := by decide +kernel
theorem dX10_readsPerson_40 : decode cX10_readsPerson 40 = .ok (.bipush 99, 2) := by decide +kernel
theorem dX10_readsPerson_42 : decode cX10_readsPerson 42 = .ok (.invokevirtual 120, 3) := by decide +kernel
theorem dX10_readsPerson_45 : decode cX10_readsPerson 45 = .ok (.ifCond .eq 42, 3) := by decide +kernel
theorem dX10_readsPerson_48 : decode cX10_readsPerson 48 = .ok (.aload_n 0, 1) := by decide +kernel
theorem dX10_readsPerson_49 : decode cX10_readsPerson 49 = .ok (.bipush 44, 2) := by decide +kernel
theorem dX10_readsPerson_51 : decode cX10_readsPerson 51 = .ok (.invokevirtual 124, 3) := by decide +kernel
theorem dX10_readsPerson_54 : decode cX10_readsPerson 54 = .ok (.ifCond .eq 33, 3) := by decide +kernel
theorem dX10_readsPerson_57 : decode cX10_readsPerson 57 = .ok (.aload_n 0, 1) := by decide +kernel
theorem dX10_readsPerson_58 : decode cX10_readsPerson 58 = .ok (.aload_n 0, 1) := by decide +kernel
theorem dX10_readsPerson_59 : decode cX10_readsPerson 59 = .ok (.getfield 22, 3) := by decide +kernel
theorem dX10_readsPerson_62 : decode cX10_readsPerson 62 = .ok (.iconst 3, 1) := by decide +kernel
theorem dX10_readsPerson_63 : decode cX10_readsPerson 63 = .ok (.iload_n 1, 1) := by decide +kernel
theorem dX10_readsPerson_64 : decode cX10_readsPerson 64 = .ok (.iadd, 1) := by decide +kernel
theorem dX10_readsPerson_65 : decode cX10_readsPerson 65 = .ok (.iconst 0, 1) := by decide +kernel
theorem dX10_readsPerson_66 : decode cX10_readsPerson 66 = .ok (.bipush 20, 2) := by decide +kernel
theorem dX10_readsPerson_68 : decode cX10_readsPerson 68 = .ok (.invokevirtual 120, 3) := by decide +kernel
theorem dX10_readsPerson_71 : decode cX10_readsPerson 71 = .ok (.ifCond .eq 16, 3) := by decide +kernel
theorem dX10_readsPerson_74 : decode cX10_readsPerson 74 = .ok (.aload_n 0, 1) := by decide +kernel
theorem dX10_readsPerson_75 : decode cX10_readsPerson 75 = .ok (.bipush 59, 2) := by decide +kernel
theorem dX10_readsPerson_77 : decode cX10_readsPerson 77 = .ok (.invokevirtual 124, 3) := by decide +kernel
theorem dX10_readsPerson_80 : decode cX10_readsPerson 80 = .ok (.ifCond .eq 7, 3) := by decide +kernel
theorem dX10_readsPerson_83 : decode cX10_readsPerson 83 = .ok (.iconst 1, 1) := by decide +kernel
theorem dX10_readsPerson_84 : decode cX10_readsPerson 84 = .ok (.goto 4, 3) := by decide +kernel
theorem dX10_readsPerson_87 : decode cX10_readsPerson 87 = .ok (.iconst 0, 1) := by decide +kernel
theorem dX10_readsPerson_88 : decode cX10_readsPerson 88 = .ok (.ireturn, 1) := by decide +kernel
theorem dX10_sortOf_0 : decode cX10_sortOf 0 = .ok (.iload_n 0, 1) := by decide +kernel
theorem dX10_sortOf_1 : decode cX10_sortOf 1 = .ok (.lookupswitch 61 #[(98, 53), (101, 59), (110, 51), (115, 55), (119, 57)], 51) := by decide +kernel
theorem dX10_sortOf_52 : decode cX10_sortOf 52 = .ok (.iconst 1, 1) := by decide +kernel
theorem dX10_sortOf_53 : decode cX10_sortOf 53 = .ok (.ireturn, 1) := by decide +kernel
theorem dX10_sortOf_54 : decode cX10_sortOf 54 = .ok (.iconst 2, 1) := by decide +kernel
theorem dX10_sortOf_55 : decode cX10_sortOf 55 = .ok (.ireturn, 1) := by decide +kernel
theorem dX10_sortOf_56 : decode cX10_sortOf 56 = .ok (.iconst 3, 1) := by decide +kernel
theorem dX10_sortOf_57 : decode cX10_sortOf 57 = .ok (.ireturn, 1) := by decide +kernel
theorem dX10_sortOf_58 : decode cX10_sortOf 58 = .ok (.iconst 4, 1) := by decide +kernel
theorem dX10_sortOf_59 : decode cX10_sortOf 59 = .ok (.ireturn, 1) := by decide +kernel
theorem dX10_sortOf_60 : decode cX10_sortOf 60 = .ok (.iconst 5, 1) := by decide +kernel
theorem dX10_sortOf_61 : decode cX10_sortOf 61 = .ok (.ireturn, 1) := by decide +kernel
theorem dX10_sortOf_62 : decode cX10_sortOf 62 = .ok (.iconst 0, 1) := by decide +kernel
theorem dX10_sortOf_63 : decode cX10_sortOf 63 = .ok (.ireturn, 1) := by decide +kernel
theorem dX10_readsSpeech_0 : decode cX10_readsSpeech 0 = .ok (.aload_n 0, 1) := by decide +kernel
theorem dX10_readsSpeech_1 : decode cX10_readsSpeech 1 = .ok (.getfield 102, 3) := by decide +kernel
theorem dX10_readsSpeech_4 : decode cX10_readsSpeech 4 = .ok (.invokestatic 130, 3) := by decide +kernel
theorem dX10_readsSpeech_7 : decode cX10_readsSpeech 7 = .ok (.istore_n 1, 1) := by decide +kernel
theorem dX10_readsSpeech_8 : decode cX10_readsSpeech 8 = .ok (.iload_n 1, 1) := by decide +kernel
theorem dX10_readsSpeech_9 : decode cX10_readsSpeech 9 = .ok (.ifCond .ne 9, 3) := by decide +kernel
theorem dX10_readsSpeech_12 : decode cX10_readsSpeech 12 = .ok (.aload_n 0, 1) := by decide +kernel
theorem dX10_readsSpeech_13 : decode cX10_readsSpeech 13 = .ok (.iconst 1, 1) := by decide +kernel
theorem dX10_readsSpeech_14 : decode cX10_readsSpeech 14 = .ok (.invokevirtual 117, 3) := by decide +kernel
theorem dX10_readsSpeech_17 : decode cX10_readsSpeech 17 = .ok (.ireturn, 1) := by decide +kernel
theorem dX10_readsSpeech_18 : decode cX10_readsSpeech 18 = .ok (.aload_n 0, 1) := by decide +kernel
theorem dX10_readsSpeech_19 : decode cX10_readsSpeech 19 = .ok (.getfield 22, 3) := by decide +kernel
theorem dX10_readsSpeech_22 : decode cX10_readsSpeech 22 = .ok (.iconst 1, 1) := by decide +kernel
theorem dX10_readsSpeech_23 : decode cX10_readsSpeech 23 = .ok (.iaload, 1) := by decide +kernel
theorem dX10_readsSpeech_24 : decode cX10_readsSpeech 24 = .ok (.bipush 6, 2) := by decide +kernel
theorem dX10_readsSpeech_26 : decode cX10_readsSpeech 26 = .ok (.if_icmp .ne 9, 3) := by decide +kernel
theorem dX10_readsSpeech_29 : decode cX10_readsSpeech 29 = .ok (.aload_n 0, 1) := by decide +kernel
theorem dX10_readsSpeech_30 : decode cX10_readsSpeech 30 = .ok (.iconst 3, 1) := by decide +kernel
theorem dX10_readsSpeech_31 : decode cX10_readsSpeech 31 = .ok (.invokevirtual 117, 3) := by decide +kernel
theorem dX10_readsSpeech_34 : decode cX10_readsSpeech 34 = .ok (.ireturn, 1) := by decide +kernel
theorem dX10_readsSpeech_35 : decode cX10_readsSpeech 35 = .ok (.aload_n 0, 1) := by decide +kernel
theorem dX10_readsSpeech_36 : decode cX10_readsSpeech 36 = .ok (.getfield 22, 3) := by decide +kernel
theorem dX10_readsSpeech_39 : decode cX10_readsSpeech 39 = .ok (.iconst 1, 1) := by decide +kernel
theorem dX10_readsSpeech_40 : decode cX10_readsSpeech 40 = .ok (.iaload, 1) := by decide +kernel
theorem dX10_readsSpeech_41 : decode cX10_readsSpeech 41 = .ok (.istore_n 2, 1) := by decide +kernel
theorem dX10_readsSpeech_42 : decode cX10_readsSpeech 42 = .ok (.aload_n 0, 1) := by decide +kernel
theorem dX10_readsSpeech_43 : decode cX10_readsSpeech 43 = .ok (.getfield 22, 3) := by decide +kernel
theorem dX10_readsSpeech_46 : decode cX10_readsSpeech 46 = .ok (.iconst 1, 1) := by decide +kernel
theorem dX10_readsSpeech_47 : decode cX10_readsSpeech 47 = .ok (.dup2, 1) := by decide +kernel
theorem dX10_readsSpeech_48 : decode cX10_readsSpeech 48 = .ok (.iaload, 1) := by decide +kernel
theorem dX10_readsSpeech_49 : decode cX10_readsSpeech 49 = .ok (.iconst 1, 1) := by decide +kernel
theorem dX10_readsSpeech_50 : decode cX10_readsSpeech 50 = .ok (.iadd, 1) := by decide +kernel
theorem dX10_readsSpeech_51 : decode cX10_readsSpeech 51 = .ok (.iastore, 1) := by decide +kernel
theorem dX10_readsSpeech_52 : decode cX10_readsSpeech 52 = .ok (.aload_n 0, 1) := by decide +kernel
theorem dX10_readsSpeech_53 : decode cX10_readsSpeech 53 = .ok (.getfield 22, 3) := by decide +kernel
theorem dX10_readsSpeech_56 : decode cX10_readsSpeech 56 = .ok (.bipush 8, 2) := by decide +kernel
theorem dX10_readsSpeech_58 : decode cX10_readsSpeech 58 = .ok (.iload_n 2, 1) := by decide +kernel
theorem dX10_readsSpeech_59 : decode cX10_readsSpeech 59 = .ok (.iadd, 1) := by decide +kernel
theorem dX10_readsSpeech_60 : decode cX10_readsSpeech 60 = .ok (.iload_n 1, 1) := by decide +kernel
theorem dX10_readsSpeech_61 : decode cX10_readsSpeech 61 = .ok (.iastore, 1) := by decide +kernel
theorem dX10_readsSpeech_62 : decode cX10_readsSpeech 62 = .ok (.aload_n 0, 1) := by decide +kernel
theorem dX10_readsSpeech_63 : decode cX10_readsSpeech 63 = .ok (.aload_n 0, 1) := by decide +kernel
theorem dX10_readsSpeech_64 : decode cX10_readsSpeech 64 = .ok (.getfield 22, 3) := by decide +kernel
theorem dX10_readsSpeech_67 : decode cX10_readsSpeech 67 = .ok (.bipush 14, 2) := by decide +kernel
theorem dX10_readsSpeech_69 : decode cX10_readsSpeech 69 = .ok (.iload_n 2, 1) := by decide +kernel
theorem dX10_readsSpeech_70 : decode cX10_readsSpeech 70 = .ok (.iadd, 1) := by decide +kernel
theorem dX10_readsSpeech_71 : decode cX10_readsSpeech 71 = .ok (.iconst 0, 1) := by decide +kernel
theorem dX10_readsSpeech_72 : decode cX10_readsSpeech 72 = .ok (.aload_n 0, 1) := by decide +kernel
theorem dX10_readsSpeech_73 : decode cX10_readsSpeech 73 = .ok (.getfield 22, 3) := by decide +kernel
theorem dX10_readsSpeech_76 : decode cX10_readsSpeech 76 = .ok (.iconst 0, 1) := by decide +kernel
theorem dX10_readsSpeech_77 : decode cX10_readsSpeech 77 = .ok (.iaload, 1) := by decide +kernel
theorem dX10_readsSpeech_78 : decode cX10_readsSpeech 78 = .ok (.iconst 1, 1) := by decide +kernel
theorem dX10_readsSpeech_79 : decode cX10_readsSpeech 79 = .ok (.isub, 1) := by decide +kernel
theorem dX10_readsSpeech_80 : decode cX10_readsSpeech 80 = .ok (.invokevirtual 120, 3) := by decide +kernel
theorem dX10_readsSpeech_83 : decode cX10_readsSpeech 83 = .ok (.ifCond .eq 56, 3) := by decide +kernel
theorem dX10_readsSpeech_86 : decode cX10_readsSpeech 86 = .ok (.aload_n 0, 1) := by decide +kernel
theorem dX10_readsSpeech_87 : decode cX10_readsSpeech 87 = .ok (.bipush 44, 2) := by decide +kernel
theorem dX10_readsSpeech_89 : decode cX10_readsSpeech 89 = .ok (.invokevirtual 124, 3) := by decide +kernel
theorem dX10_readsSpeech_92 : decode cX10_readsSpeech 92 = .ok (.ifCond .eq 47, 3) := by decide +kernel
theorem dX10_readsSpeech_95 : decode cX10_readsSpeech 95 = .ok (.aload_n 0, 1) := by decide +kernel
theorem dX10_readsSpeech_96 : decode cX10_readsSpeech 96 = .ok (.aload_n 0, 1) := by decide +kernel
theorem dX10_readsSpeech_97 : decode cX10_readsSpeech 97 = .ok (.getfield 22, 3) := by decide +kernel
theorem dX10_readsSpeech_100 : decode cX10_readsSpeech 100 = .ok (.bipush 20, 2) := by decide +kernel
theorem dX10_readsSpeech_102 : decode cX10_readsSpeech 102 = .ok (.iload_n 2, 1) := by decide +kernel
theorem dX10_readsSpeech_103 : decode cX10_readsSpeech 103 = .ok (.iadd, 1) := by decide +kernel
theorem dX10_readsSpeech_104 : decode cX10_readsSpeech 104 = .ok (.iconst 1, 1) := by decide +kernel
theorem dX10_readsSpeech_105 : decode cX10_readsSpeech 105 = .ok (.bipush 30, 2) := by decide +kernel
theorem dX10_readsSpeech_107 : decode cX10_readsSpeech 107 = .ok (.invokevirtual 120, 3) := by decide +kernel
theorem dX10_readsSpeech_110 : decode cX10_readsSpeech 110 = .ok (.ifCond .eq 29, 3) := by decide +kernel
theorem dX10_readsSpeech_113 : decode cX10_readsSpeech 113 = .ok (.aload_n 0, 1) := by decide +kernel
theorem dX10_readsSpeech_114 : decode cX10_readsSpeech 114 = .ok (.bipush 44, 2) := by decide +kernel
theorem dX10_readsSpeech_116 : decode cX10_readsSpeech 116 = .ok (.invokevirtual 124, 3) := by decide +kernel
theorem dX10_readsSpeech_119 : decode cX10_readsSpeech 119 = .ok (.ifCond .eq 20, 3) := by decide +kernel
theorem dX10_readsSpeech_122 : decode cX10_readsSpeech 122 = .ok (.aload_n 0, 1) := by decide +kernel
theorem dX10_readsSpeech_123 : decode cX10_readsSpeech 123 = .ok (.aload_n 0, 1) := by decide +kernel
theorem dX10_readsSpeech_124 : decode cX10_readsSpeech 124 = .ok (.getfield 22, 3) := by decide +kernel
theorem dX10_readsSpeech_127 : decode cX10_readsSpeech 127 = .ok (.bipush 26, 2) := by decide +kernel
theorem dX10_readsSpeech_129 : decode cX10_readsSpeech 129 = .ok (.iload_n 2, 1) := by decide +kernel
theorem dX10_readsSpeech_130 : decode cX10_readsSpeech 130 = .ok (.iadd, 1) := by decide +kernel
theorem dX10_readsSpeech_131 : decode cX10_readsSpeech 131 = .ok (.iconst 0, 1) := by decide +kernel
theorem dX10_readsSpeech_132 : decode cX10_readsSpeech 132 = .ok (.iload_n 2, 1) := by decide +kernel
theorem dX10_readsSpeech_133 : decode cX10_readsSpeech 133 = .ok (.invokevirtual 120, 3) := by decide +kernel
theorem dX10_readsSpeech_136 : decode cX10_readsSpeech 136 = .ok (.ifCond .ne 5, 3) := by decide +kernel
theorem dX10_readsSpeech_139 : decode cX10_readsSpeech 139 = .ok (.iconst 0, 1) := by decide +kernel
theorem dX10_readsSpeech_140 : decode cX10_readsSpeech 140 = .ok (.ireturn, 1) := by decide +kernel
theorem dX10_readsSpeech_141 : decode cX10_readsSpeech 141 = .ok (.aload_n 0, 1) := by decide +kernel
theorem dX10_readsSpeech_142 : decode cX10_readsSpeech 142 = .ok (.getfield 22, 3) := by decide +kernel
theorem dX10_readsSpeech_145 : decode cX10_readsSpeech 145 = .ok (.bipush 26, 2) := by decide +kernel
theorem dX10_readsSpeech_147 : decode cX10_readsSpeech 147 = .ok (.iload_n 2, 1) := by decide +kernel
theorem dX10_readsSpeech_148 : decode cX10_readsSpeech 148 = .ok (.iadd, 1) := by decide +kernel
theorem dX10_readsSpeech_149 : decode cX10_readsSpeech 149 = .ok (.aload_n 0, 1) := by decide +kernel
theorem dX10_readsSpeech_150 : decode cX10_readsSpeech 150 = .ok (.getfield 22, 3) := by decide +kernel
theorem dX10_readsSpeech_153 : decode cX10_readsSpeech 153 = .ok (.bipush 26, 2) := by decide +kernel
theorem dX10_readsSpeech_155 : decode cX10_readsSpeech 155 = .ok (.iload_n 2, 1) := by decide +kernel
theorem dX10_readsSpeech_156 : decode cX10_readsSpeech 156 = .ok (.iadd, 1) := by decide +kernel
theorem dX10_readsSpeech_157 : decode cX10_readsSpeech 157 = .ok (.iaload, 1) := by decide +kernel
theorem dX10_readsSpeech_158 : decode cX10_readsSpeech 158 = .ok (.iload_n 2, 1) := by decide +kernel
theorem dX10_readsSpeech_159 : decode cX10_readsSpeech 159 = .ok (.if_icmp .ne 8, 3) := by decide +kernel
theorem dX10_readsSpeech_162 : decode cX10_readsSpeech 162 = .ok (.ldc 133, 2) := by decide +kernel
theorem dX10_readsSpeech_164 : decode cX10_readsSpeech 164 = .ok (.goto 12, 3) := by decide +kernel
theorem dX10_readsSpeech_167 : decode cX10_readsSpeech 167 = .ok (.aload_n 0, 1) := by decide +kernel
theorem dX10_readsSpeech_168 : decode cX10_readsSpeech 168 = .ok (.getfield 22, 3) := by decide +kernel
theorem dX10_readsSpeech_171 : decode cX10_readsSpeech 171 = .ok (.bipush 26, 2) := by decide +kernel
theorem dX10_readsSpeech_173 : decode cX10_readsSpeech 173 = .ok (.iload_n 2, 1) := by decide +kernel
theorem dX10_readsSpeech_174 : decode cX10_readsSpeech 174 = .ok (.iadd, 1) := by decide +kernel
theorem dX10_readsSpeech_175 : decode cX10_readsSpeech 175 = .ok (.iaload, 1) := by decide +kernel
theorem dX10_readsSpeech_176 : decode cX10_readsSpeech 176 = .ok (.iastore, 1) := by decide +kernel
theorem dX10_readsSpeech_177 : decode cX10_readsSpeech 177 = .ok (.aload_n 0, 1) := by decide +kernel
theorem dX10_readsSpeech_178 : decode cX10_readsSpeech 178 = .ok (.bipush 59, 2) := by decide +kernel
theorem dX10_readsSpeech_180 : decode cX10_readsSpeech 180 = .ok (.invokevirtual 124, 3) := by decide +kernel
theorem dX10_readsSpeech_183 : decode cX10_readsSpeech 183 = .ok (.ireturn, 1) := by decide +kernel
theorem dX10_readsAll_0 : decode cX10_readsAll 0 = .ok (.aload_n 0, 1) := by decide +kernel
theorem dX10_readsAll_1 : decode cX10_readsAll 1 = .ok (.iconst 0, 1) := by decide +kernel
theorem dX10_readsAll_2 : decode cX10_readsAll 2 = .ok (.putfield 93, 3) := by decide +kernel
theorem dX10_readsAll_5 : decode cX10_readsAll 5 = .ok (.aload_n 0, 1) := by decide +kernel
theorem dX10_readsAll_6 : decode cX10_readsAll 6 = .ok (.getfield 22, 3) := by decide +kernel
theorem dX10_readsAll_9 : decode cX10_readsAll 9 = .ok (.iconst 0, 1) := by decide +kernel
theorem dX10_readsAll_10 : decode cX10_readsAll 10 = .ok (.iconst 0, 1) := by decide +kernel
theorem dX10_readsAll_11 : decode cX10_readsAll 11 = .ok (.iastore, 1) := by decide +kernel
theorem dX10_readsAll_12 : decode cX10_readsAll 12 = .ok (.aload_n 0, 1) := by decide +kernel
theorem dX10_readsAll_13 : decode cX10_readsAll 13 = .ok (.getfield 22, 3) := by decide +kernel
theorem dX10_readsAll_16 : decode cX10_readsAll 16 = .ok (.iconst 1, 1) := by decide +kernel
theorem dX10_readsAll_17 : decode cX10_readsAll 17 = .ok (.iconst 0, 1) := by decide +kernel
theorem dX10_readsAll_18 : decode cX10_readsAll 18 = .ok (.iastore, 1) := by decide +kernel
theorem dX10_readsAll_19 : decode cX10_readsAll 19 = .ok (.aload_n 0, 1) := by decide +kernel
theorem dX10_readsAll_20 : decode cX10_readsAll 20 = .ok (.invokevirtual 114, 3) := by decide +kernel
theorem dX10_readsAll_23 : decode cX10_readsAll 23 = .ok (.aload_n 0, 1) := by decide +kernel
theorem dX10_readsAll_24 : decode cX10_readsAll 24 = .ok (.invokevirtual 134, 3) := by decide +kernel
theorem dX10_readsAll_27 : decode cX10_readsAll 27 = .ok (.ifCond .ne 5, 3) := by decide +kernel
theorem dX10_readsAll_30 : decode cX10_readsAll 30 = .ok (.iconst 0, 1) := by decide +kernel
theorem dX10_readsAll_31 : decode cX10_readsAll 31 = .ok (.ireturn, 1) := by decide +kernel
theorem dX10_readsAll_32 : decode cX10_readsAll 32 = .ok (.aload_n 0, 1) := by decide +kernel
theorem dX10_readsAll_33 : decode cX10_readsAll 33 = .ok (.invokevirtual 114, 3) := by decide +kernel
theorem dX10_readsAll_36 : decode cX10_readsAll 36 = .ok (.aload_n 0, 1) := by decide +kernel
theorem dX10_readsAll_37 : decode cX10_readsAll 37 = .ok (.getfield 102, 3) := by decide +kernel
theorem dX10_readsAll_40 : decode cX10_readsAll 40 = .ok (.bipush 122, 2) := by decide +kernel
theorem dX10_readsAll_42 : decode cX10_readsAll 42 = .ok (.if_icmp .ne 28, 3) := by decide +kernel
theorem dX10_readsAll_45 : decode cX10_readsAll 45 = .ok (.aload_n 0, 1) := by decide +kernel
theorem dX10_readsAll_46 : decode cX10_readsAll 46 = .ok (.getfield 22, 3) := by decide +kernel
theorem dX10_readsAll_49 : decode cX10_readsAll 49 = .ok (.iconst 1, 1) := by decide +kernel
theorem dX10_readsAll_50 : decode cX10_readsAll 50 = .ok (.iaload, 1) := by decide +kernel
theorem dX10_readsAll_51 : decode cX10_readsAll 51 = .ok (.ifCond .ne 19, 3) := by decide +kernel
theorem dX10_readsAll_54 : decode cX10_readsAll 54 = .ok (.aload_n 0, 1) := by decide +kernel
theorem dX10_readsAll_55 : decode cX10_readsAll 55 = .ok (.invokevirtual 138, 3) := by decide +kernel
theorem dX10_readsAll_58 : decode cX10_readsAll 58 = .ok (.ifCond .ne 5, 3) := by decide +kernel
theorem dX10_readsAll_61 : decode cX10_readsAll 61 = .ok (.iconst 0, 1) := by decide +kernel
theorem dX10_readsAll_62 : decode cX10_readsAll 62 = .ok (.ireturn, 1) := by decide +kernel
theorem dX10_readsAll_63 : decode cX10_readsAll 63 = .ok (.aload_n 0, 1) := by decide +kernel
theorem dX10_readsAll_64 : decode cX10_readsAll 64 = .ok (.invokevirtual 114, 3) := by decide +kernel
theorem dX10_readsAll_67 : decode cX10_readsAll 67 = .ok (.goto (-31), 3) := by decide +kernel
theorem dX10_readsAll_70 : decode cX10_readsAll 70 = .ok (.aload_n 0, 1) := by decide +kernel
theorem dX10_readsAll_71 : decode cX10_readsAll 71 = .ok (.getfield 22, 3) := by decide +kernel
theorem dX10_readsAll_74 : decode cX10_readsAll 74 = .ok (.iconst 0, 1) := by decide +kernel
theorem dX10_readsAll_75 : decode cX10_readsAll 75 = .ok (.iaload, 1) := by decide +kernel
theorem dX10_readsAll_76 : decode cX10_readsAll 76 = .ok (.ifCond .ne 9, 3) := by decide +kernel
theorem dX10_readsAll_79 : decode cX10_readsAll 79 = .ok (.aload_n 0, 1) := by decide +kernel
theorem dX10_readsAll_80 : decode cX10_readsAll 80 = .ok (.iconst 1, 1) := by decide +kernel
theorem dX10_readsAll_81 : decode cX10_readsAll 81 = .ok (.invokevirtual 117, 3) := by decide +kernel
theorem dX10_readsAll_84 : decode cX10_readsAll 84 = .ok (.ireturn, 1) := by decide +kernel
theorem dX10_readsAll_85 : decode cX10_readsAll 85 = .ok (.aload_n 0, 1) := by decide +kernel
theorem dX10_readsAll_86 : decode cX10_readsAll 86 = .ok (.getfield 102, 3) := by decide +kernel
theorem dX10_readsAll_89 : decode cX10_readsAll 89 = .ok (.iconst (-1), 1) := by decide +kernel
theorem dX10_readsAll_90 : decode cX10_readsAll 90 = .ok (.if_icmp .ne 12, 3) := by decide +kernel
theorem dX10_readsAll_93 : decode cX10_readsAll 93 = .ok (.aload_n 0, 1) := by decide +kernel
theorem dX10_readsAll_94 : decode cX10_readsAll 94 = .ok (.getfield 22, 3) := by decide +kernel
theorem dX10_readsAll_97 : decode cX10_readsAll 97 = .ok (.iconst 1, 1) := by decide +kernel
theorem dX10_readsAll_98 : decode cX10_readsAll 98 = .ok (.iaload, 1) := by decide +kernel
theorem dX10_readsAll_99 : decode cX10_readsAll 99 = .ok (.ifCond .ne 19, 3) := by decide +kernel
theorem dX10_readsAll_102 : decode cX10_readsAll 102 = .ok (.aload_n 0, 1) := by decide +kernel
theorem dX10_readsAll_103 : decode cX10_readsAll 103 = .ok (.invokevirtual 141, 3) := by decide +kernel
theorem dX10_readsAll_106 : decode cX10_readsAll 106 = .ok (.ifCond .ne 5, 3) := by decide +kernel
theorem dX10_readsAll_109 : decode cX10_readsAll 109 = .ok (.iconst 0, 1) := by decide +kernel
theorem dX10_readsAll_110 : decode cX10_readsAll 110 = .ok (.ireturn, 1) := by decide +kernel
theorem dX10_readsAll_111 : decode cX10_readsAll 111 = .ok (.aload_n 0, 1) := by decide +kernel
theorem dX10_readsAll_112 : decode cX10_readsAll 112 = .ok (.invokevirtual 114, 3) := by decide +kernel
theorem dX10_readsAll_115 : decode cX10_readsAll 115 = .ok (.goto (-30), 3) := by decide +kernel
theorem dX10_readsAll_118 : decode cX10_readsAll 118 = .ok (.iconst 1, 1) := by decide +kernel
theorem dX10_readsAll_119 : decode cX10_readsAll 119 = .ok (.ireturn, 1) := by decide +kernel
theorem dX10_duchy_0 : decode cX10_duchy 0 = .ok (.aload_n 0, 1) := by decide +kernel
theorem dX10_duchy_1 : decode cX10_duchy 1 = .ok (.invokevirtual 144, 3) := by decide +kernel
theorem dX10_duchy_4 : decode cX10_duchy 4 = .ok (.istore_n 1, 1) := by decide +kernel
theorem dX10_duchy_5 : decode cX10_duchy 5 = .ok (.aload_n 0, 1) := by decide +kernel
theorem dX10_duchy_6 : decode cX10_duchy 6 = .ok (.getfield 102, 3) := by decide +kernel
theorem dX10_duchy_9 : decode cX10_duchy 9 = .ok (.iconst (-1), 1) := by decide +kernel
theorem dX10_duchy_10 : decode cX10_duchy 10 = .ok (.if_icmp .ne 10, 3) := by decide +kernel
theorem dX10_duchy_13 : decode cX10_duchy 13 = .ok (.aload_n 0, 1) := by decide +kernel
theorem dX10_duchy_14 : decode cX10_duchy 14 = .ok (.getfield 89, 3) := by decide +kernel
theorem dX10_duchy_17 : decode cX10_duchy 17 = .ok (.goto 7, 3) := by decide +kernel
theorem dX10_duchy_20 : decode cX10_duchy 20 = .ok (.aload_n 0, 1) := by decide +kernel
theorem dX10_duchy_21 : decode cX10_duchy 21 = .ok (.getfield 96, 3) := by decide +kernel
theorem dX10_duchy_24 : decode cX10_duchy 24 = .ok (.istore_n 2, 1) := by decide +kernel
theorem dX10_duchy_25 : decode cX10_duchy 25 = .ok (.aload_n 0, 1) := by decide +kernel
theorem dX10_duchy_26 : decode cX10_duchy 26 = .ok (.iconst 0, 1) := by decide +kernel
theorem dX10_duchy_27 : decode cX10_duchy 27 = .ok (.putfield 89, 3) := by decide +kernel
theorem dX10_duchy_30 : decode cX10_duchy 30 = .ok (.iload_n 1, 1) := by decide +kernel
theorem dX10_duchy_31 : decode cX10_duchy 31 = .ok (.ifCond .ne 16, 3) := by decide +kernel
theorem dX10_duchy_34 : decode cX10_duchy 34 = .ok (.aload_n 0, 1) := by decide +kernel
theorem dX10_duchy_35 : decode cX10_duchy 35 = .ok (.aload_n 0, 1) := by decide +kernel
theorem dX10_duchy_36 : decode cX10_duchy 36 = .ok (.getfield 111, 3) := by decide +kernel
theorem dX10_duchy_39 : decode cX10_duchy 39 = .ok (.putfield 147, 3) := by decide +kernel
theorem dX10_duchy_42 : decode cX10_duchy 42 = .ok (.ldc 150, 2) := by decide +kernel
theorem dX10_duchy_44 : decode cX10_duchy 44 = .ok (.iload_n 2, 1) := by decide +kernel
theorem dX10_duchy_45 : decode cX10_duchy 45 = .ok (.isub, 1) := by decide +kernel
theorem dX10_duchy_46 : decode cX10_duchy 46 = .ok (.ireturn, 1) := by decide +kernel
theorem dX10_duchy_47 : decode cX10_duchy 47 = .ok (.aload_n 0, 1) := by decide +kernel
theorem dX10_duchy_48 : decode cX10_duchy 48 = .ok (.iconst 1, 1) := by decide +kernel
theorem dX10_duchy_49 : decode cX10_duchy 49 = .ok (.putfield 151, 3) := by decide +kernel
theorem dX10_duchy_52 : decode cX10_duchy 52 = .ok (.iconst 0, 1) := by decide +kernel
theorem dX10_duchy_53 : decode cX10_duchy 53 = .ok (.istore_n 3, 1) := by decide +kernel
theorem dX10_duchy_54 : decode cX10_duchy 54 = .ok (.iload_n 3, 1) := by decide +kernel
theorem dX10_duchy_55 : decode cX10_duchy 55 = .ok (.bipush 32, 2) := by decide +kernel
theorem dX10_duchy_57 : decode cX10_duchy 57 = .ok (.if_icmp .ge 21, 3) := by decide +kernel
theorem dX10_duchy_60 : decode cX10_duchy 60 = .ok (.aload_n 0, 1) := by decide +kernel
theorem dX10_duchy_61 : decode cX10_duchy 61 = .ok (.getfield 31, 3) := by decide +kernel
theorem dX10_duchy_64 : decode cX10_duchy 64 = .ok (.iload_n 3, 1) := by decide +kernel
theorem dX10_duchy_65 : decode cX10_duchy 65 = .ok (.aload_n 0, 1) := by decide +kernel
theorem dX10_duchy_66 : decode cX10_duchy 66 = .ok (.getfield 22, 3) := by decide +kernel
theorem dX10_duchy_69 : decode cX10_duchy 69 = .ok (.iload_n 3, 1) := by decide +kernel
theorem dX10_duchy_70 : decode cX10_duchy 70 = .ok (.iaload, 1) := by decide +kernel
theorem dX10_duchy_71 : decode cX10_duchy 71 = .ok (.iastore, 1) := by decide +kernel
theorem dX10_duchy_72 : decode cX10_duchy 72 = .ok (.iinc 3 1, 3) := by decide +kernel
theorem dX10_duchy_75 : decode cX10_duchy 75 = .ok (.goto (-21), 3) := by decide +kernel
theorem dX10_duchy_78 : decode cX10_duchy 78 = .ok (.iconst 0, 1) := by decide +kernel
theorem dX10_duchy_79 : decode cX10_duchy 79 = .ok (.istore_n 3, 1) := by decide +kernel
theorem dX10_duchy_80 : decode cX10_duchy 80 = .ok (.iload_n 3, 1) := by decide +kernel
theorem dX10_duchy_81 : decode cX10_duchy 81 = .ok (.bipush 21, 2) := by decide +kernel
theorem dX10_duchy_83 : decode cX10_duchy 83 = .ok (.if_icmp .ge 16, 3) := by decide +kernel
theorem dX10_duchy_86 : decode cX10_duchy 86 = .ok (.aload_n 0, 1) := by decide +kernel
theorem dX10_duchy_87 : decode cX10_duchy 87 = .ok (.getfield 34, 3) := by decide +kernel
theorem dX10_duchy_90 : decode cX10_duchy 90 = .ok (.iload_n 3, 1) := by decide +kernel
theorem dX10_duchy_91 : decode cX10_duchy 91 = .ok (.iconst 0, 1) := by decide +kernel
theorem dX10_duchy_92 : decode cX10_duchy 92 = .ok (.iastore, 1) := by decide +kernel
theorem dX10_duchy_93 : decode cX10_duchy 93 = .ok (.iinc 3 1, 3) := by decide +kernel
theorem dX10_duchy_96 : decode cX10_duchy 96 = .ok (.goto (-16), 3) := by decide +kernel
theorem dX10_duchy_99 : decode cX10_duchy 99 = .ok (.aload_n 0, 1) := by decide +kernel
theorem dX10_duchy_100 : decode cX10_duchy 100 = .ok (.getfield 34, 3) := by decide +kernel
theorem dX10_duchy_103 : decode cX10_duchy 103 = .ok (.iconst 1, 1) := by decide +kernel
theorem dX10_duchy_104 : decode cX10_duchy 104 = .ok (.aload_n 0, 1) := by decide +kernel
theorem dX10_duchy_105 : decode cX10_duchy 105 = .ok (.getfield 31, 3) := by decide +kernel
theorem dX10_duchy_108 : decode cX10_duchy 108 = .ok (.iconst 2, 1) := by decide +kernel
theorem dX10_duchy_109 : decode cX10_duchy 109 = .ok (.iaload, 1) := by decide +kernel
theorem dX10_duchy_110 : decode cX10_duchy 110 = .ok (.iastore, 1) := by decide +kernel
theorem dX10_duchy_111 : decode cX10_duchy 111 = .ok (.aload_n 0, 1) := by decide +kernel
theorem dX10_duchy_112 : decode cX10_duchy 112 = .ok (.getfield 34, 3) := by decide +kernel
theorem dX10_duchy_115 : decode cX10_duchy 115 = .ok (.iconst 3, 1) := by decide +kernel
theorem dX10_duchy_116 : decode cX10_duchy 116 = .ok (.aload_n 0, 1) := by decide +kernel
theorem dX10_duchy_117 : decode cX10_duchy 117 = .ok (.getfield 127, 3) := by decide +kernel
theorem dX10_duchy_120 : decode cX10_duchy 120 = .ok (.iastore, 1) := by decide +kernel
theorem dX10_duchy_121 : decode cX10_duchy 121 = .ok (.iconst 0, 1) := by decide +kernel
theorem dX10_duchy_122 : decode cX10_duchy 122 = .ok (.istore_n 3, 1) := by decide +kernel
theorem dX10_duchy_123 : decode cX10_duchy 123 = .ok (.iload_n 3, 1) := by decide +kernel
theorem dX10_duchy_124 : decode cX10_duchy 124 = .ok (.aload_n 0, 1) := by decide +kernel
theorem dX10_duchy_125 : decode cX10_duchy 125 = .ok (.getfield 31, 3) := by decide +kernel
theorem dX10_duchy_128 : decode cX10_duchy 128 = .ok (.iconst 0, 1) := by decide +kernel
theorem dX10_duchy_129 : decode cX10_duchy 129 = .ok (.iaload, 1) := by decide +kernel
theorem dX10_duchy_130 : decode cX10_duchy 130 = .ok (.if_icmp .ge 23, 3) := by decide +kernel
theorem dX10_duchy_133 : decode cX10_duchy 133 = .ok (.aload_n 0, 1) := by decide +kernel
theorem dX10_duchy_134 : decode cX10_duchy 134 = .ok (.getfield 34, 3) := by decide +kernel
theorem dX10_duchy_137 : decode cX10_duchy 137 = .ok (.iconst 5, 1) := by decide +kernel
theorem dX10_duchy_138 : decode cX10_duchy 138 = .ok (.iload_n 3, 1) := by decide +kernel
theorem dX10_duchy_139 : decode cX10_duchy 139 = .ok (.iadd, 1) := by decide +kernel
theorem dX10_duchy_140 : decode cX10_duchy 140 = .ok (.aload_n 0, 1) := by decide +kernel
theorem dX10_duchy_141 : decode cX10_duchy 141 = .ok (.getfield 25, 3) := by decide +kernel
theorem dX10_duchy_144 : decode cX10_duchy 144 = .ok (.iload_n 3, 1) := by decide +kernel
theorem dX10_duchy_145 : decode cX10_duchy 145 = .ok (.iaload, 1) := by decide +kernel
theorem dX10_duchy_146 : decode cX10_duchy 146 = .ok (.iastore, 1) := by decide +kernel
theorem dX10_duchy_147 : decode cX10_duchy 147 = .ok (.iinc 3 1, 3) := by decide +kernel
theorem dX10_duchy_150 : decode cX10_duchy 150 = .ok (.goto (-27), 3) := by decide +kernel
theorem dX10_duchy_153 : decode cX10_duchy 153 = .ok (.aload_n 0, 1) := by decide +kernel
theorem dX10_duchy_154 : decode cX10_duchy 154 = .ok (.iconst 0, 1) := by decide +kernel
theorem dX10_duchy_155 : decode cX10_duchy 155 = .ok (.putfield 155, 3) := by decide +kernel
theorem dX10_duchy_158 : decode cX10_duchy 158 = .ok (.aload_n 0, 1) := by decide +kernel
theorem dX10_duchy_159 : decode cX10_duchy 159 = .ok (.getfield 31, 3) := by decide +kernel
theorem dX10_duchy_162 : decode cX10_duchy 162 = .ok (.iconst 1, 1) := by decide +kernel
theorem dX10_duchy_163 : decode cX10_duchy 163 = .ok (.iaload, 1) := by decide +kernel
theorem dX10_duchy_164 : decode cX10_duchy 164 = .ok (.ireturn, 1) := by decide +kernel
theorem dX10_fault_0 : decode cX10_fault 0 = .ok (.aload_n 0, 1) := by decide +kernel
theorem dX10_fault_1 : decode cX10_fault 1 = .ok (.getfield 147, 3) := by decide +kernel
theorem dX10_fault_4 : decode cX10_fault 4 = .ok (.ireturn, 1) := by decide +kernel
theorem dX10_isPerson_0 : decode cX10_isPerson 0 = .ok (.iload_n 1, 1) := by decide +kernel
theorem dX10_isPerson_1 : decode cX10_isPerson 1 = .ok (.iconst 0, 1) := by decide +kernel
theorem dX10_isPerson_2 : decode cX10_isPerson 2 = .ok (.aload_n 0, 1) := by decide +kernel
theorem dX10_isPerson_3 : decode cX10_isPerson 3 = .ok (.getfield 31, 3) := by decide +kernel
theorem dX10_isPerson_6 : decode cX10_isPerson 6 = .ok (.iconst 0, 1) := by decide +kernel
theorem dX10_isPerson_7 : decode cX10_isPerson 7 = .ok (.iaload, 1) := by decide +kernel
theorem dX10_isPerson_8 : decode cX10_isPerson 8 = .ok (.iconst 1, 1) := by decide +kernel
theorem dX10_isPerson_9 : decode cX10_isPerson 9 = .ok (.isub, 1) := by decide +kernel
theorem dX10_isPerson_10 : decode cX10_isPerson 10 = .ok (.invokestatic 70, 3) := by decide +kernel
theorem dX10_isPerson_13 : decode cX10_isPerson 13 = .ok (.ireturn, 1) := by decide +kernel
theorem dX10_isSpeech_0 : decode cX10_isSpeech 0 = .ok (.iload_n 1, 1) := by decide +kernel
theorem dX10_isSpeech_1 : decode cX10_isSpeech 1 = .ok (.iconst 0, 1) := by decide +kernel
theorem dX10_isSpeech_2 : decode cX10_isSpeech 2 = .ok (.aload_n 0, 1) := by decide +kernel
theorem dX10_isSpeech_3 : decode cX10_isSpeech 3 = .ok (.getfield 31, 3) := by decide +kernel
theorem dX10_isSpeech_6 : decode cX10_isSpeech 6 = .ok (.iconst 1, 1) := by decide +kernel
theorem dX10_isSpeech_7 : decode cX10_isSpeech 7 = .ok (.iaload, 1) := by decide +kernel
theorem dX10_isSpeech_8 : decode cX10_isSpeech 8 = .ok (.iconst 1, 1) := by decide +kernel
theorem dX10_isSpeech_9 : decode cX10_isSpeech 9 = .ok (.isub, 1) := by decide +kernel
theorem dX10_isSpeech_10 : decode cX10_isSpeech 10 = .ok (.invokestatic 70, 3) := by decide +kernel
theorem dX10_isSpeech_13 : decode cX10_isSpeech 13 = .ok (.ireturn, 1) := by decide +kernel
theorem dX10_all_0 : decode cX10_all 0 = .ok (.iconst 1, 1) := by decide +kernel
theorem dX10_all_1 : decode cX10_all 1 = .ok (.aload_n 0, 1) := by decide +kernel
theorem dX10_all_2 : decode cX10_all 2 = .ok (.getfield 31, 3) := by decide +kernel
theorem dX10_all_5 : decode cX10_all 5 = .ok (.iconst 0, 1) := by decide +kernel
theorem dX10_all_6 : decode cX10_all 6 = .ok (.iaload, 1) := by decide +kernel
theorem dX10_all_7 : decode cX10_all 7 = .ok (.ishl, 1) := by decide +kernel
theorem dX10_all_8 : decode cX10_all 8 = .ok (.iconst 1, 1) := by decide +kernel
theorem dX10_all_9 : decode cX10_all 9 = .ok (.isub, 1) := by decide +kernel
theorem dX10_all_10 : decode cX10_all 10 = .ok (.ireturn, 1) := by decide +kernel
theorem dX10_words_0 : decode cX10_words 0 = .ok (.aload_n 0, 1) := by decide +kernel
theorem dX10_words_1 : decode cX10_words 1 = .ok (.getfield 31, 3) := by decide +kernel
theorem dX10_words_4 : decode cX10_words 4 = .ok (.bipush 20, 2) := by decide +kernel
theorem dX10_words_6 : decode cX10_words 6 = .ok (.iload_n 1, 1) := by decide +kernel
theorem dX10_words_7 : decode cX10_words 7 = .ok (.iadd, 1) := by decide +kernel
theorem dX10_words_8 : decode cX10_words 8 = .ok (.iaload, 1) := by decide +kernel
theorem dX10_words_9 : decode cX10_words 9 = .ok (.istore_n 2, 1) := by decide +kernel
theorem dX10_words_10 : decode cX10_words 10 = .ok (.aload_n 0, 1) := by decide +kernel
theorem dX10_words_11 : decode cX10_words 11 = .ok (.getfield 31, 3) := by decide +kernel
theorem dX10_words_14 : decode cX10_words 14 = .ok (.bipush 8, 2) := by decide +kernel
theorem dX10_words_16 : decode cX10_words 16 = .ok (.iload_n 1, 1) := by decide +kernel
theorem dX10_words_17 : decode cX10_words 17 = .ok (.iadd, 1) := by decide +kernel
theorem dX10_words_18 : decode cX10_words 18 = .ok (.iaload, 1) := by decide +kernel
theorem dX10_words_19 : decode cX10_words 19 = .ok (.tableswitch 37 1 3 #[25, 27, 33], 25) := by decide +kernel
theorem dX10_words_44 : decode cX10_words 44 = .ok (.iload_n 2, 1) := by decide +kernel
theorem dX10_words_45 : decode cX10_words 45 = .ok (.ireturn, 1) := by decide +kernel
theorem dX10_words_46 : decode cX10_words 46 = .ok (.iload_n 2, 1) := by decide +kernel
theorem dX10_words_47 : decode cX10_words 47 = .ok (.iconst 1, 1) := by decide +kernel
theorem dX10_words_48 : decode cX10_words 48 = .ok (.iadd, 1) := by decide +kernel
theorem dX10_words_49 : decode cX10_words 49 = .ok (.iconst 2, 1) := by decide +kernel
theorem dX10_words_50 : decode cX10_words 50 = .ok (.idiv, 1) := by decide +kernel
theorem dX10_words_51 : decode cX10_words 51 = .ok (.ireturn, 1) := by decide +kernel
theorem dX10_words_52 : decode cX10_words 52 = .ok (.iconst 2, 1) := by decide +kernel
theorem dX10_words_53 : decode cX10_words 53 = .ok (.iload_n 2, 1) := by decide +kernel
theorem dX10_words_54 : decode cX10_words 54 = .ok (.imul, 1) := by decide +kernel
theorem dX10_words_55 : decode cX10_words 55 = .ok (.ireturn, 1) := by decide +kernel
theorem dX10_words_56 : decode cX10_words 56 = .ok (.iconst 0, 1) := by decide +kernel
theorem dX10_words_57 : decode cX10_words 57 = .ok (.ireturn, 1) := by decide +kernel
theorem dX10_rest_0 : decode cX10_rest 0 = .ok (.aload_n 0, 1) := by decide +kernel
theorem dX10_rest_1 : decode cX10_rest 1 = .ok (.iload_n 2, 1) := by decide +kernel
theorem dX10_rest_2 : decode cX10_rest 2 = .ok (.invokevirtual 158, 3) := by decide +kernel
theorem dX10_rest_5 : decode cX10_rest 5 = .ok (.aload_n 1, 1) := by decide +kernel
theorem dX10_rest_6 : decode cX10_rest 6 = .ok (.bipush 10, 2) := by decide +kernel
theorem dX10_rest_8 : decode cX10_rest 8 = .ok (.aload_n 0, 1) := by decide +kernel
theorem dX10_rest_9 : decode cX10_rest 9 = .ok (.getfield 31, 3) := by decide +kernel
theorem dX10_rest_12 : decode cX10_rest 12 = .ok (.bipush 14, 2) := by decide +kernel
theorem dX10_rest_14 : decode cX10_rest 14 = .ok (.iload_n 2, 1) := by decide +kernel
theorem dX10_rest_15 : decode cX10_rest 15 = .ok (.iadd, 1) := by decide +kernel
theorem dX10_rest_16 : decode cX10_rest 16 = .ok (.iaload, 1) := by decide +kernel
theorem dX10_rest_17 : decode cX10_rest 17 = .ok (.iadd, 1) := by decide +kernel
theorem dX10_rest_18 : decode cX10_rest 18 = .ok (.iaload, 1) := by decide +kernel
theorem dX10_rest_19 : decode cX10_rest 19 = .ok (.isub, 1) := by decide +kernel
theorem dX10_rest_20 : decode cX10_rest 20 = .ok (.istore_n 3, 1) := by decide +kernel
theorem dX10_rest_21 : decode cX10_rest 21 = .ok (.iload_n 3, 1) := by decide +kernel
theorem dX10_rest_22 : decode cX10_rest 22 = .ok (.ifCond .ge 7, 3) := by decide +kernel
theorem dX10_rest_25 : decode cX10_rest 25 = .ok (.iconst 0, 1) := by decide +kernel
theorem dX10_rest_26 : decode cX10_rest 26 = .ok (.goto 4, 3) := by decide +kernel
theorem dX10_rest_29 : decode cX10_rest 29 = .ok (.iload_n 3, 1) := by decide +kernel
theorem dX10_rest_30 : decode cX10_rest 30 = .ok (.ireturn, 1) := by decide +kernel
theorem dX10_costs_0 : decode cX10_costs 0 = .ok (.aload_n 0, 1) := by decide +kernel
theorem dX10_costs_1 : decode cX10_costs 1 = .ok (.getfield 31, 3) := by decide +kernel
theorem dX10_costs_4 : decode cX10_costs 4 = .ok (.bipush 8, 2) := by decide +kernel
theorem dX10_costs_6 : decode cX10_costs 6 = .ok (.iload_n 2, 1) := by decide +kernel
theorem dX10_costs_7 : decode cX10_costs 7 = .ok (.iadd, 1) := by decide +kernel
theorem dX10_costs_8 : decode cX10_costs 8 = .ok (.iaload, 1) := by decide +kernel
theorem dX10_costs_9 : decode cX10_costs 9 = .ok (.iconst 4, 1) := by decide +kernel
theorem dX10_costs_10 : decode cX10_costs 10 = .ok (.if_icmp .ne 7, 3) := by decide +kernel
theorem dX10_costs_13 : decode cX10_costs 13 = .ok (.iconst 1, 1) := by decide +kernel
theorem dX10_costs_14 : decode cX10_costs 14 = .ok (.goto 31, 3) := by decide +kernel
theorem dX10_costs_17 : decode cX10_costs 17 = .ok (.aload_n 0, 1) := by decide +kernel
theorem dX10_costs_18 : decode cX10_costs 18 = .ok (.getfield 31, 3) := by decide +kernel
theorem dX10_costs_21 : decode cX10_costs 21 = .ok (.bipush 8, 2) := by decide +kernel
theorem dX10_costs_23 : decode cX10_costs 23 = .ok (.iload_n 2, 1) := by decide +kernel
theorem dX10_costs_24 : decode cX10_costs 24 = .ok (.iadd, 1) := by decide +kernel
theorem dX10_costs_25 : decode cX10_costs 25 = .ok (.iaload, 1) := by decide +kernel
theorem dX10_costs_26 : decode cX10_costs 26 = .ok (.iconst 5, 1) := by decide +kernel
theorem dX10_costs_27 : decode cX10_costs 27 = .ok (.if_icmp .ne 17, 3) := by decide +kernel
theorem dX10_costs_30 : decode cX10_costs 30 = .ok (.iconst 1, 1) := by decide +kernel
theorem dX10_costs_31 : decode cX10_costs 31 = .ok (.aload_n 0, 1) := by decide +kernel
theorem dX10_costs_32 : decode cX10_costs 32 = .ok (.getfield 31, 3) := by decide +kernel
theorem dX10_costs_35 : decode cX10_costs 35 = .ok (.bipush 20, 2) := by decide +kernel
theorem dX10_costs_37 : decode cX10_costs 37 = .ok (.iload_n 2, 1) := by decide +kernel
theorem dX10_costs_38 : decode cX10_costs 38 = .ok (.iadd, 1) := by decide +kernel
theorem dX10_costs_39 : decode cX10_costs 39 = .ok (.iaload, 1) := by decide +kernel
theorem dX10_costs_40 : decode cX10_costs 40 = .ok (.iadd, 1) := by decide +kernel
theorem dX10_costs_41 : decode cX10_costs 41 = .ok (.goto 4, 3) := by decide +kernel
theorem dX10_costs_44 : decode cX10_costs 44 = .ok (.iconst 0, 1) := by decide +kernel
theorem dX10_costs_45 : decode cX10_costs 45 = .ok (.istore_n 3, 1) := by decide +kernel
theorem dX10_costs_46 : decode cX10_costs 46 = .ok (.aload_n 0, 1) := by decide +kernel
theorem dX10_costs_47 : decode cX10_costs 47 = .ok (.aload_n 1, 1) := by decide +kernel
theorem dX10_costs_48 : decode cX10_costs 48 = .ok (.iload_n 2, 1) := by decide +kernel
theorem dX10_costs_49 : decode cX10_costs 49 = .ok (.invokevirtual 161, 3) := by decide +kernel
theorem dX10_costs_52 : decode cX10_costs 52 = .ok (.aload_n 1, 1) := by decide +kernel
theorem dX10_costs_53 : decode cX10_costs 53 = .ok (.iconst 3, 1) := by decide +kernel
theorem dX10_costs_54 : decode cX10_costs 54 = .ok (.iaload, 1) := by decide +kernel
theorem dX10_costs_55 : decode cX10_costs 55 = .ok (.imul, 1) := by decide +kernel
theorem dX10_costs_56 : decode cX10_costs 56 = .ok (.iload_n 3, 1) := by decide +kernel
theorem dX10_costs_57 : decode cX10_costs 57 = .ok (.iadd, 1) := by decide +kernel
theorem dX10_costs_58 : decode cX10_costs 58 = .ok (.ireturn, 1) := by decide +kernel
theorem dX10_can_0 : decode cX10_can 0 = .ok (.aload_n 1, 1) := by decide +kernel
theorem dX10_can_1 : decode cX10_can 1 = .ok (.iconst 4, 1) := by decide +kernel
theorem dX10_can_2 : decode cX10_can 2 = .ok (.iaload, 1) := by decide +kernel
theorem dX10_can_3 : decode cX10_can 3 = .ok (.iload_n 2, 1) := by decide +kernel
theorem dX10_can_4 : decode cX10_can 4 = .ok (.invokestatic 165, 3) := by decide +kernel
theorem dX10_can_7 : decode cX10_can 7 = .ok (.ifCond .ne 41, 3) := by decide +kernel
theorem dX10_can_10 : decode cX10_can 10 = .ok (.aload_n 0, 1) := by decide +kernel
theorem dX10_can_11 : decode cX10_can 11 = .ok (.aload_n 1, 1) := by decide +kernel
theorem dX10_can_12 : decode cX10_can 12 = .ok (.iload_n 2, 1) := by decide +kernel
theorem dX10_can_13 : decode cX10_can 13 = .ok (.invokevirtual 161, 3) := by decide +kernel
theorem dX10_can_16 : decode cX10_can 16 = .ok (.aload_n 1, 1) := by decide +kernel
theorem dX10_can_17 : decode cX10_can 17 = .ok (.iconst 1, 1) := by decide +kernel
theorem dX10_can_18 : decode cX10_can 18 = .ok (.iaload, 1) := by decide +kernel
theorem dX10_can_19 : decode cX10_can 19 = .ok (.if_icmp .gt 29, 3) := by decide +kernel
theorem dX10_can_22 : decode cX10_can 22 = .ok (.aload_n 0, 1) := by decide +kernel
theorem dX10_can_23 : decode cX10_can 23 = .ok (.aload_n 1, 1) := by decide +kernel
theorem dX10_can_24 : decode cX10_can 24 = .ok (.iload_n 2, 1) := by decide +kernel
theorem dX10_can_25 : decode cX10_can 25 = .ok (.invokevirtual 169, 3) := by decide +kernel
theorem dX10_can_28 : decode cX10_can 28 = .ok (.aload_n 1, 1) := by decide +kernel
theorem dX10_can_29 : decode cX10_can 29 = .ok (.iconst 5, 1) := by decide +kernel
theorem dX10_can_30 : decode cX10_can 30 = .ok (.aload_n 0, 1) := by decide +kernel
theorem dX10_can_31 : decode cX10_can 31 = .ok (.getfield 31, 3) := by decide +kernel
theorem dX10_can_34 : decode cX10_can 34 = .ok (.bipush 14, 2) := by decide +kernel
theorem dX10_can_36 : decode cX10_can 36 = .ok (.iload_n 2, 1) := by decide +kernel
theorem dX10_can_37 : decode cX10_can 37 = .ok (.iadd, 1) := by decide +kernel
theorem dX10_can_38 : decode cX10_can 38 = .ok (.iaload, 1) := by decide +kernel
theorem dX10_can_39 : decode cX10_can 39 = .ok (.iadd, 1) := by decide +kernel
theorem dX10_can_40 : decode cX10_can 40 = .ok (.iaload, 1) := by decide +kernel
theorem dX10_can_41 : decode cX10_can 41 = .ok (.if_icmp .gt 7, 3) := by decide +kernel
theorem dX10_can_44 : decode cX10_can 44 = .ok (.iconst 1, 1) := by decide +kernel
theorem dX10_can_45 : decode cX10_can 45 = .ok (.goto 4, 3) := by decide +kernel
theorem dX10_can_48 : decode cX10_can 48 = .ok (.iconst 0, 1) := by decide +kernel
theorem dX10_can_49 : decode cX10_can 49 = .ok (.ireturn, 1) := by decide +kernel
theorem dX10_beside_0 : decode cX10_beside 0 = .ok (.aload_n 0, 1) := by decide +kernel
theorem dX10_beside_1 : decode cX10_beside 1 = .ok (.getfield 31, 3) := by decide +kernel
theorem dX10_beside_4 : decode cX10_beside 4 = .ok (.iconst 0, 1) := by decide +kernel
theorem dX10_beside_5 : decode cX10_beside 5 = .ok (.iaload, 1) := by decide +kernel
theorem dX10_beside_6 : decode cX10_beside 6 = .ok (.istore_n 3, 1) := by decide +kernel
theorem dX10_beside_7 : decode cX10_beside 7 = .ok (.iload_n 1, 1) := by decide +kernel
theorem dX10_beside_8 : decode cX10_beside 8 = .ok (.istore 4, 2) := by decide +kernel
theorem dX10_beside_10 : decode cX10_beside 10 = .ok (.iconst 0, 1) := by decide +kernel
theorem dX10_beside_11 : decode cX10_beside 11 = .ok (.istore 5, 2) := by decide +kernel
theorem dX10_beside_13 : decode cX10_beside 13 = .ok (.iload 5, 2) := by decide +kernel
theorem dX10_beside_15 : decode cX10_beside 15 = .ok (.iload_n 3, 1) := by decide +kernel
theorem dX10_beside_16 : decode cX10_beside 16 = .ok (.if_icmp .ge 46, 3) := by decide +kernel
theorem dX10_beside_19 : decode cX10_beside 19 = .ok (.iload 4, 2) := by decide +kernel
theorem dX10_beside_21 : decode cX10_beside 21 = .ok (.iload_n 1, 1) := by decide +kernel
theorem dX10_beside_22 : decode cX10_beside 22 = .ok (.iload 5, 2) := by decide +kernel
theorem dX10_beside_24 : decode cX10_beside 24 = .ok (.invokestatic 165, 3) := by decide +kernel
theorem dX10_beside_27 : decode cX10_beside 27 = .ok (.ifCond .eq 25, 3) := by decide +kernel
theorem dX10_beside_30 : decode cX10_beside 30 = .ok (.iconst 1, 1) := by decide +kernel
theorem dX10_beside_31 : decode cX10_beside 31 = .ok (.iload 5, 2) := by decide +kernel
theorem dX10_beside_33 : decode cX10_beside 33 = .ok (.iconst 1, 1) := by decide +kernel
theorem dX10_beside_34 : decode cX10_beside 34 = .ok (.iadd, 1) := by decide +kernel
theorem dX10_beside_35 : decode cX10_beside 35 = .ok (.iload_n 3, 1) := by decide +kernel
theorem dX10_beside_36 : decode cX10_beside 36 = .ok (.irem, 1) := by decide +kernel
theorem dX10_beside_37 : decode cX10_beside 37 = .ok (.ishl, 1) := by decide +kernel
theorem dX10_beside_38 : decode cX10_beside 38 = .ok (.iconst 1, 1) := by decide +kernel
theorem dX10_beside_39 : decode cX10_beside 39 = .ok (.iload 5, 2) := by decide +kernel
theorem dX10_beside_41 : decode cX10_beside 41 = .ok (.iload_n 3, 1) := by decide +kernel
theorem dX10_beside_42 : decode cX10_beside 42 = .ok (.iadd, 1) := by decide +kernel
theorem dX10_beside_43 : decode cX10_beside 43 = .ok (.iconst 1, 1) := by decide +kernel
theorem dX10_beside_44 : decode cX10_beside 44 = .ok (.isub, 1) := by decide +kernel
theorem dX10_beside_45 : decode cX10_beside 45 = .ok (.iload_n 3, 1) := by decide +kernel
theorem dX10_beside_46 : decode cX10_beside 46 = .ok (.irem, 1) := by decide +kernel
theorem dX10_beside_47 : decode cX10_beside 47 = .ok (.ishl, 1) := by decide +kernel
theorem dX10_beside_48 : decode cX10_beside 48 = .ok (.ior, 1) := by decide +kernel
theorem dX10_beside_49 : decode cX10_beside 49 = .ok (.goto 4, 3) := by decide +kernel
theorem dX10_beside_52 : decode cX10_beside 52 = .ok (.iconst 0, 1) := by decide +kernel
theorem dX10_beside_53 : decode cX10_beside 53 = .ok (.ior, 1) := by decide +kernel
theorem dX10_beside_54 : decode cX10_beside 54 = .ok (.istore 4, 2) := by decide +kernel
theorem dX10_beside_56 : decode cX10_beside 56 = .ok (.iinc 5 1, 3) := by decide +kernel
theorem dX10_beside_59 : decode cX10_beside 59 = .ok (.goto (-46), 3) := by decide +kernel
theorem dX10_beside_62 : decode cX10_beside 62 = .ok (.iload_n 1, 1) := by decide +kernel
theorem dX10_beside_63 : decode cX10_beside 63 = .ok (.iload 4, 2) := by decide +kernel
theorem dX10_beside_65 : decode cX10_beside 65 = .ok (.iload_n 2, 1) := by decide +kernel
theorem dX10_beside_66 : decode cX10_beside 66 = .ok (.iconst (-1), 1) := by decide +kernel
theorem dX10_beside_67 : decode cX10_beside 67 = .ok (.ixor, 1) := by decide +kernel
theorem dX10_beside_68 : decode cX10_beside 68 = .ok (.iand, 1) := by decide +kernel
theorem dX10_beside_69 : decode cX10_beside 69 = .ok (.ior, 1) := by decide +kernel
theorem dX10_beside_70 : decode cX10_beside 70 = .ok (.ireturn, 1) := by decide +kernel
theorem dX10_firstTo_0 : decode cX10_firstTo 0 = .ok (.iload_n 1, 1) := by decide +kernel
theorem dX10_firstTo_1 : decode cX10_firstTo 1 = .ok (.iconst 4, 1) := by decide +kernel
theorem dX10_firstTo_2 : decode cX10_firstTo 2 = .ok (.if_icmp .eq 8, 3) := by decide +kernel
theorem dX10_firstTo_5 : decode cX10_firstTo 5 = .ok (.iload_n 1, 1) := by decide +kernel
theorem dX10_firstTo_6 : decode cX10_firstTo 6 = .ok (.iconst 5, 1) := by decide +kernel
theorem dX10_firstTo_7 : decode cX10_firstTo 7 = .ok (.if_icmp .ne 14, 3) := by decide +kernel
theorem dX10_firstTo_10 : decode cX10_firstTo 10 = .ok (.aload_n 0, 1) := by decide +kernel
theorem dX10_firstTo_11 : decode cX10_firstTo 11 = .ok (.iconst 1, 1) := by decide +kernel
theorem dX10_firstTo_12 : decode cX10_firstTo 12 = .ok (.iload_n 2, 1) := by decide +kernel
theorem dX10_firstTo_13 : decode cX10_firstTo 13 = .ok (.ishl, 1) := by decide +kernel
theorem dX10_firstTo_14 : decode cX10_firstTo 14 = .ok (.iload_n 3, 1) := by decide +kernel
theorem dX10_firstTo_15 : decode cX10_firstTo 15 = .ok (.invokevirtual 172, 3) := by decide +kernel
theorem dX10_firstTo_18 : decode cX10_firstTo 18 = .ok (.goto 7, 3) := by decide +kernel
theorem dX10_firstTo_21 : decode cX10_firstTo 21 = .ok (.aload_n 0, 1) := by decide +kernel
theorem dX10_firstTo_22 : decode cX10_firstTo 22 = .ok (.invokevirtual 176, 3) := by decide +kernel
theorem dX10_firstTo_25 : decode cX10_firstTo 25 = .ok (.ireturn, 1) := by decide +kernel
theorem dX10_onward_0 : decode cX10_onward 0 = .ok (.iload_n 1, 1) := by decide +kernel
theorem dX10_onward_1 : decode cX10_onward 1 = .ok (.iconst 4, 1) := by decide +kernel
theorem dX10_onward_2 : decode cX10_onward 2 = .ok (.if_icmp .eq 8, 3) := by decide +kernel
theorem dX10_onward_5 : decode cX10_onward 5 = .ok (.iload_n 1, 1) := by decide +kernel
theorem dX10_onward_6 : decode cX10_onward 6 = .ok (.iconst 5, 1) := by decide +kernel
theorem dX10_onward_7 : decode cX10_onward 7 = .ok (.if_icmp .ne 12, 3) := by decide +kernel
theorem dX10_onward_10 : decode cX10_onward 10 = .ok (.aload_n 0, 1) := by decide +kernel
theorem dX10_onward_11 : decode cX10_onward 11 = .ok (.iload_n 2, 1) := by decide +kernel
theorem dX10_onward_12 : decode cX10_onward 12 = .ok (.iload_n 3, 1) := by decide +kernel
theorem dX10_onward_13 : decode cX10_onward 13 = .ok (.invokevirtual 172, 3) := by decide +kernel
theorem dX10_onward_16 : decode cX10_onward 16 = .ok (.goto 4, 3) := by decide +kernel
theorem dX10_onward_19 : decode cX10_onward 19 = .ok (.iload_n 2, 1) := by decide +kernel
theorem dX10_onward_20 : decode cX10_onward 20 = .ok (.istore 4, 2) := by decide +kernel
theorem dX10_onward_22 : decode cX10_onward 22 = .ok (.iload_n 1, 1) := by decide +kernel
theorem dX10_onward_23 : decode cX10_onward 23 = .ok (.iconst 5, 1) := by decide +kernel
theorem dX10_onward_24 : decode cX10_onward 24 = .ok (.if_icmp .ne 13, 3) := by decide +kernel
theorem dX10_onward_27 : decode cX10_onward 27 = .ok (.aload_n 0, 1) := by decide +kernel
theorem dX10_onward_28 : decode cX10_onward 28 = .ok (.iload 4, 2) := by decide +kernel
theorem dX10_onward_30 : decode cX10_onward 30 = .ok (.iload_n 3, 1) := by decide +kernel
theorem dX10_onward_31 : decode cX10_onward 31 = .ok (.invokevirtual 172, 3) := by decide +kernel
theorem dX10_onward_34 : decode cX10_onward 34 = .ok (.goto 5, 3) := by decide +kernel
theorem dX10_onward_37 : decode cX10_onward 37 = .ok (.iload 4, 2) := by decide +kernel
theorem dX10_onward_39 : decode cX10_onward 39 = .ok (.ireturn, 1) := by decide +kernel
theorem dX10_says_0 : decode cX10_says 0 = .ok (.aload_n 0, 1) := by decide +kernel
theorem dX10_says_1 : decode cX10_says 1 = .ok (.getfield 31, 3) := by decide +kernel
theorem dX10_says_4 : decode cX10_says 4 = .ok (.bipush 14, 2) := by decide +kernel
theorem dX10_says_6 : decode cX10_says 6 = .ok (.iload_n 2, 1) := by decide +kernel
theorem dX10_says_7 : decode cX10_says 7 = .ok (.iadd, 1) := by decide +kernel
theorem dX10_says_8 : decode cX10_says 8 = .ok (.iaload, 1) := by decide +kernel
theorem dX10_says_9 : decode cX10_says 9 = .ok (.istore_n 3, 1) := by decide +kernel
theorem dX10_says_10 : decode cX10_says 10 = .ok (.aload_n 0, 1) := by decide +kernel
theorem dX10_says_11 : decode cX10_says 11 = .ok (.aload_n 1, 1) := by decide +kernel
theorem dX10_says_12 : decode cX10_says 12 = .ok (.iload_n 2, 1) := by decide +kernel
theorem dX10_says_13 : decode cX10_says 13 = .ok (.invokevirtual 161, 3) := by decide +kernel
theorem dX10_says_16 : decode cX10_says 16 = .ok (.istore 4, 2) := by decide +kernel
theorem dX10_says_18 : decode cX10_says 18 = .ok (.aload_n 1, 1) := by decide +kernel
theorem dX10_says_19 : decode cX10_says 19 = .ok (.iconst 5, 1) := by decide +kernel
theorem dX10_says_20 : decode cX10_says 20 = .ok (.iload_n 3, 1) := by decide +kernel
theorem dX10_says_21 : decode cX10_says 21 = .ok (.iadd, 1) := by decide +kernel
theorem dX10_says_22 : decode cX10_says 22 = .ok (.dup2, 1) := by decide +kernel
theorem dX10_says_23 : decode cX10_says 23 = .ok (.iaload, 1) := by decide +kernel
theorem dX10_says_24 : decode cX10_says 24 = .ok (.aload_n 0, 1) := by decide +kernel
theorem dX10_says_25 : decode cX10_says 25 = .ok (.aload_n 1, 1) := by decide +kernel
theorem dX10_says_26 : decode cX10_says 26 = .ok (.iload_n 2, 1) := by decide +kernel
theorem dX10_says_27 : decode cX10_says 27 = .ok (.invokevirtual 169, 3) := by decide +kernel
theorem dX10_says_30 : decode cX10_says 30 = .ok (.isub, 1) := by decide +kernel
theorem dX10_says_31 : decode cX10_says 31 = .ok (.iastore, 1) := by decide +kernel
theorem dX10_says_32 : decode cX10_says 32 = .ok (.aload_n 1, 1) := by decide +kernel
theorem dX10_says_33 : decode cX10_says 33 = .ok (.bipush 10, 2) := by decide +kernel
theorem dX10_says_35 : decode cX10_says 35 = .ok (.iload_n 3, 1) := by decide +kernel
theorem dX10_says_36 : decode cX10_says 36 = .ok (.iadd, 1) := by decide +kernel
theorem dX10_says_37 : decode cX10_says 37 = .ok (.dup2, 1) := by decide +kernel
theorem dX10_says_38 : decode cX10_says 38 = .ok (.iaload, 1) := by decide +kernel
theorem dX10_says_39 : decode cX10_says 39 = .ok (.aload_n 0, 1) := by decide +kernel
theorem dX10_says_40 : decode cX10_says 40 = .ok (.iload_n 2, 1) := by decide +kernel
theorem dX10_says_41 : decode cX10_says 41 = .ok (.invokevirtual 158, 3) := by decide +kernel
theorem dX10_says_44 : decode cX10_says 44 = .ok (.iload 4, 2) := by decide +kernel
theorem dX10_says_46 : decode cX10_says 46 = .ok (.isub, 1) := by decide +kernel
theorem dX10_says_47 : decode cX10_says 47 = .ok (.isub, 1) := by decide +kernel
theorem dX10_says_48 : decode cX10_says 48 = .ok (.iastore, 1) := by decide +kernel
theorem dX10_says_49 : decode cX10_says 49 = .ok (.aload_n 1, 1) := by decide +kernel
theorem dX10_says_50 : decode cX10_says 50 = .ok (.iconst 1, 1) := by decide +kernel
theorem dX10_says_51 : decode cX10_says 51 = .ok (.dup2, 1) := by decide +kernel
theorem dX10_says_52 : decode cX10_says 52 = .ok (.iaload, 1) := by decide +kernel
theorem dX10_says_53 : decode cX10_says 53 = .ok (.iload 4, 2) := by decide +kernel
theorem dX10_says_55 : decode cX10_says 55 = .ok (.isub, 1) := by decide +kernel
theorem dX10_says_56 : decode cX10_says 56 = .ok (.iastore, 1) := by decide +kernel
theorem dX10_says_57 : decode cX10_says 57 = .ok (.aload_n 1, 1) := by decide +kernel
theorem dX10_says_58 : decode cX10_says 58 = .ok (.iconst 4, 1) := by decide +kernel
theorem dX10_says_59 : decode cX10_says 59 = .ok (.dup2, 1) := by decide +kernel
theorem dX10_says_60 : decode cX10_says 60 = .ok (.iaload, 1) := by decide +kernel
theorem dX10_says_61 : decode cX10_says 61 = .ok (.iconst 1, 1) := by decide +kernel
theorem dX10_says_62 : decode cX10_says 62 = .ok (.iload_n 2, 1) := by decide +kernel
theorem dX10_says_63 : decode cX10_says 63 = .ok (.ishl, 1) := by decide +kernel
theorem dX10_says_64 : decode cX10_says 64 = .ok (.ior, 1) := by decide +kernel
theorem dX10_says_65 : decode cX10_says 65 = .ok (.iastore, 1) := by decide +kernel
theorem dX10_says_66 : decode cX10_says 66 = .ok (.aload_n 1, 1) := by decide +kernel
theorem dX10_says_67 : decode cX10_says 67 = .ok (.bipush 15, 2) := by decide +kernel
theorem dX10_says_69 : decode cX10_says 69 = .ok (.iload_n 2, 1) := by decide +kernel
theorem dX10_says_70 : decode cX10_says 70 = .ok (.iadd, 1) := by decide +kernel
theorem dX10_says_71 : decode cX10_says 71 = .ok (.aload_n 0, 1) := by decide +kernel
theorem dX10_says_72 : decode cX10_says 72 = .ok (.aload_n 0, 1) := by decide +kernel
theorem dX10_says_73 : decode cX10_says 73 = .ok (.getfield 31, 3) := by decide +kernel
theorem dX10_says_76 : decode cX10_says 76 = .ok (.bipush 8, 2) := by decide +kernel
theorem dX10_says_78 : decode cX10_says 78 = .ok (.iload_n 2, 1) := by decide +kernel
theorem dX10_says_79 : decode cX10_says 79 = .ok (.iadd, 1) := by decide +kernel
theorem dX10_says_80 : decode cX10_says 80 = .ok (.iaload, 1) := by decide +kernel
theorem dX10_says_81 : decode cX10_says 81 = .ok (.iload_n 3, 1) := by decide +kernel
theorem dX10_says_82 : decode cX10_says 82 = .ok (.iconst 0, 1) := by decide +kernel
theorem dX10_says_83 : decode cX10_says 83 = .ok (.invokevirtual 180, 3) := by decide +kernel
theorem dX10_says_86 : decode cX10_says 86 = .ok (.iastore, 1) := by decide +kernel
theorem dX10_says_87 : decode cX10_says 87 = .ok (.iload 4, 2) := by decide +kernel
theorem dX10_says_89 : decode cX10_says 89 = .ok (.ireturn, 1) := by decide +kernel
theorem dX10_capped_0 : decode cX10_capped 0 = .ok (.iload_n 0, 1) := by decide +kernel
theorem dX10_capped_1 : decode cX10_capped 1 = .ok (.iload_n 1, 1) := by decide +kernel
theorem dX10_capped_2 : decode cX10_capped 2 = .ok (.if_icmp .le 7, 3) := by decide +kernel
theorem dX10_capped_5 : decode cX10_capped 5 = .ok (.iload_n 1, 1) := by decide +kernel
theorem dX10_capped_6 : decode cX10_capped 6 = .ok (.goto 4, 3) := by decide +kernel
theorem dX10_capped_9 : decode cX10_capped 9 = .ok (.iload_n 0, 1) := by decide +kernel
theorem dX10_capped_10 : decode cX10_capped 10 = .ok (.ireturn, 1) := by decide +kernel
theorem dX10_passes_0 : decode cX10_passes 0 = .ok (.iconst 0, 1) := by decide +kernel
theorem dX10_passes_1 : decode cX10_passes 1 = .ok (.istore_n 2, 1) := by decide +kernel
theorem dX10_passes_2 : decode cX10_passes 2 = .ok (.iload_n 2, 1) := by decide +kernel
theorem dX10_passes_3 : decode cX10_passes 3 = .ok (.aload_n 0, 1) := by decide +kernel
theorem dX10_passes_4 : decode cX10_passes 4 = .ok (.getfield 31, 3) := by decide +kernel
theorem dX10_passes_7 : decode cX10_passes 7 = .ok (.iconst 1, 1) := by decide +kernel
theorem dX10_passes_8 : decode cX10_passes 8 = .ok (.iaload, 1) := by decide +kernel
theorem dX10_passes_9 : decode cX10_passes 9 = .ok (.if_icmp .ge 54, 3) := by decide +kernel
theorem dX10_passes_12 : decode cX10_passes 12 = .ok (.aload_n 1, 1) := by decide +kernel
theorem dX10_passes_13 : decode cX10_passes 13 = .ok (.bipush 15, 2) := by decide +kernel
theorem dX10_passes_15 : decode cX10_passes 15 = .ok (.iload_n 2, 1) := by decide +kernel
theorem dX10_passes_16 : decode cX10_passes 16 = .ok (.iadd, 1) := by decide +kernel
theorem dX10_passes_17 : decode cX10_passes 17 = .ok (.aload_n 1, 1) := by decide +kernel
theorem dX10_passes_18 : decode cX10_passes 18 = .ok (.iconst 4, 1) := by decide +kernel
theorem dX10_passes_19 : decode cX10_passes 19 = .ok (.iaload, 1) := by decide +kernel
theorem dX10_passes_20 : decode cX10_passes 20 = .ok (.iload_n 2, 1) := by decide +kernel
theorem dX10_passes_21 : decode cX10_passes 21 = .ok (.invokestatic 165, 3) := by decide +kernel
theorem dX10_passes_24 : decode cX10_passes 24 = .ok (.ifCond .eq 26, 3) := by decide +kernel
theorem dX10_passes_27 : decode cX10_passes 27 = .ok (.aload_n 0, 1) := by decide +kernel
theorem dX10_passes_28 : decode cX10_passes 28 = .ok (.aload_n 0, 1) := by decide +kernel
theorem dX10_passes_29 : decode cX10_passes 29 = .ok (.getfield 31, 3) := by decide +kernel
theorem dX10_passes_32 : decode cX10_passes 32 = .ok (.bipush 8, 2) := by decide +kernel
theorem dX10_passes_34 : decode cX10_passes 34 = .ok (.iload_n 2, 1) := by decide +kernel
theorem dX10_passes_35 : decode cX10_passes 35 = .ok (.iadd, 1) := by decide +kernel
theorem dX10_passes_36 : decode cX10_passes 36 = .ok (.iaload, 1) := by decide +kernel
theorem dX10_passes_37 : decode cX10_passes 37 = .ok (.aload_n 1, 1) := by decide +kernel
theorem dX10_passes_38 : decode cX10_passes 38 = .ok (.bipush 15, 2) := by decide +kernel
theorem dX10_passes_40 : decode cX10_passes 40 = .ok (.iload_n 2, 1) := by decide +kernel
theorem dX10_passes_41 : decode cX10_passes 41 = .ok (.iadd, 1) := by decide +kernel
theorem dX10_passes_42 : decode cX10_passes 42 = .ok (.iaload, 1) := by decide +kernel
theorem dX10_passes_43 : decode cX10_passes 43 = .ok (.iconst 0, 1) := by decide +kernel
theorem dX10_passes_44 : decode cX10_passes 44 = .ok (.invokevirtual 184, 3) := by decide +kernel
theorem dX10_passes_47 : decode cX10_passes 47 = .ok (.goto 9, 3) := by decide +kernel
theorem dX10_passes_50 : decode cX10_passes 50 = .ok (.aload_n 1, 1) := by decide +kernel
theorem dX10_passes_51 : decode cX10_passes 51 = .ok (.bipush 15, 2) := by decide +kernel
theorem dX10_passes_53 : decode cX10_passes 53 = .ok (.iload_n 2, 1) := by decide +kernel
theorem dX10_passes_54 : decode cX10_passes 54 = .ok (.iadd, 1) := by decide +kernel
theorem dX10_passes_55 : decode cX10_passes 55 = .ok (.iaload, 1) := by decide +kernel
theorem dX10_passes_56 : decode cX10_passes 56 = .ok (.iastore, 1) := by decide +kernel
theorem dX10_passes_57 : decode cX10_passes 57 = .ok (.iinc 2 1, 3) := by decide +kernel
theorem dX10_passes_60 : decode cX10_passes 60 = .ok (.goto (-58), 3) := by decide +kernel
theorem dX10_passes_63 : decode cX10_passes 63 = .ok (.aload_n 1, 1) := by decide +kernel
theorem dX10_passes_64 : decode cX10_passes 64 = .ok (.iconst 2, 1) := by decide +kernel
theorem dX10_passes_65 : decode cX10_passes 65 = .ok (.aload_n 1, 1) := by decide +kernel
theorem dX10_passes_66 : decode cX10_passes 66 = .ok (.iconst 2, 1) := by decide +kernel
theorem dX10_passes_67 : decode cX10_passes 67 = .ok (.iaload, 1) := by decide +kernel
theorem dX10_passes_68 : decode cX10_passes 68 = .ok (.aload_n 1, 1) := by decide +kernel
theorem dX10_passes_69 : decode cX10_passes 69 = .ok (.iconst 1, 1) := by decide +kernel
theorem dX10_passes_70 : decode cX10_passes 70 = .ok (.iaload, 1) := by decide +kernel
theorem dX10_passes_71 : decode cX10_passes 71 = .ok (.iadd, 1) := by decide +kernel
theorem dX10_passes_72 : decode cX10_passes 72 = .ok (.sipush 999, 3) := by decide +kernel
theorem dX10_passes_75 : decode cX10_passes 75 = .ok (.invokestatic 187, 3) := by decide +kernel
theorem dX10_passes_78 : decode cX10_passes 78 = .ok (.iastore, 1) := by decide +kernel
theorem dX10_passes_79 : decode cX10_passes 79 = .ok (.aload_n 1, 1) := by decide +kernel
theorem dX10_passes_80 : decode cX10_passes 80 = .ok (.iconst 1, 1) := by decide +kernel
theorem dX10_passes_81 : decode cX10_passes 81 = .ok (.aload_n 0, 1) := by decide +kernel
theorem dX10_passes_82 : decode cX10_passes 82 = .ok (.getfield 31, 3) := by decide +kernel
theorem dX10_passes_85 : decode cX10_passes 85 = .ok (.iconst 2, 1) := by decide +kernel
theorem dX10_passes_86 : decode cX10_passes 86 = .ok (.iaload, 1) := by decide +kernel
theorem dX10_passes_87 : decode cX10_passes 87 = .ok (.iastore, 1) := by decide +kernel
theorem dX10_passes_88 : decode cX10_passes 88 = .ok (.iconst 0, 1) := by decide +kernel
theorem dX10_passes_89 : decode cX10_passes 89 = .ok (.istore_n 2, 1) := by decide +kernel
theorem dX10_passes_90 : decode cX10_passes 90 = .ok (.iload_n 2, 1) := by decide +kernel
theorem dX10_passes_91 : decode cX10_passes 91 = .ok (.aload_n 0, 1) := by decide +kernel
theorem dX10_passes_92 : decode cX10_passes 92 = .ok (.getfield 31, 3) := by decide +kernel
theorem dX10_passes_95 : decode cX10_passes 95 = .ok (.iconst 0, 1) := by decide +kernel
theorem dX10_passes_96 : decode cX10_passes 96 = .ok (.iaload, 1) := by decide +kernel
theorem dX10_passes_97 : decode cX10_passes 97 = .ok (.if_icmp .ge 33, 3) := by decide +kernel
theorem dX10_passes_100 : decode cX10_passes 100 = .ok (.aload_n 1, 1) := by decide +kernel
theorem dX10_passes_101 : decode cX10_passes 101 = .ok (.iconst 5, 1) := by decide +kernel
theorem dX10_passes_102 : decode cX10_passes 102 = .ok (.iload_n 2, 1) := by decide +kernel
theorem dX10_passes_103 : decode cX10_passes 103 = .ok (.iadd, 1) := by decide +kernel
theorem dX10_passes_104 : decode cX10_passes 104 = .ok (.aload_n 1, 1) := by decide +kernel
theorem dX10_passes_105 : decode cX10_passes 105 = .ok (.iconst 5, 1) := by decide +kernel
theorem dX10_passes_106 : decode cX10_passes 106 = .ok (.iload_n 2, 1) := by decide +kernel
theorem dX10_passes_107 : decode cX10_passes 107 = .ok (.iadd, 1) := by decide +kernel
theorem dX10_passes_108 : decode cX10_passes 108 = .ok (.iaload, 1) := by decide +kernel
theorem dX10_passes_109 : decode cX10_passes 109 = .ok (.aload_n 0, 1) := by decide +kernel
theorem dX10_passes_110 : decode cX10_passes 110 = .ok (.getfield 31, 3) := by decide +kernel
theorem dX10_passes_113 : decode cX10_passes 113 = .ok (.iconst 3, 1) := by decide +kernel
theorem dX10_passes_114 : decode cX10_passes 114 = .ok (.iload_n 2, 1) := by decide +kernel
theorem dX10_passes_115 : decode cX10_passes 115 = .ok (.iadd, 1) := by decide +kernel
theorem dX10_passes_116 : decode cX10_passes 116 = .ok (.iaload, 1) := by decide +kernel
theorem dX10_passes_117 : decode cX10_passes 117 = .ok (.iadd, 1) := by decide +kernel
theorem dX10_passes_118 : decode cX10_passes 118 = .ok (.bipush 99, 2) := by decide +kernel
theorem dX10_passes_120 : decode cX10_passes 120 = .ok (.invokestatic 187, 3) := by decide +kernel
theorem dX10_passes_123 : decode cX10_passes 123 = .ok (.iastore, 1) := by decide +kernel
theorem dX10_passes_124 : decode cX10_passes 124 = .ok (.iinc 2 1, 3) := by decide +kernel
theorem dX10_passes_127 : decode cX10_passes 127 = .ok (.goto (-37), 3) := by decide +kernel
theorem dX10_passes_130 : decode cX10_passes 130 = .ok (.aload_n 1, 1) := by decide +kernel
theorem dX10_passes_131 : decode cX10_passes 131 = .ok (.iconst 0, 1) := by decide +kernel
theorem dX10_passes_132 : decode cX10_passes 132 = .ok (.dup2, 1) := by decide +kernel
theorem dX10_passes_133 : decode cX10_passes 133 = .ok (.iaload, 1) := by decide +kernel
theorem dX10_passes_134 : decode cX10_passes 134 = .ok (.iconst 1, 1) := by decide +kernel
theorem dX10_passes_135 : decode cX10_passes 135 = .ok (.iadd, 1) := by decide +kernel
theorem dX10_passes_136 : decode cX10_passes 136 = .ok (.iastore, 1) := by decide +kernel
theorem dX10_passes_137 : decode cX10_passes 137 = .ok (.return_, 1) := by decide +kernel
theorem dX10_remember_0 : decode cX10_remember 0 = .ok (.iconst 0, 1) := by decide +kernel
theorem dX10_remember_1 : decode cX10_remember 1 = .ok (.istore_n 1, 1) := by decide +kernel
theorem dX10_remember_2 : decode cX10_remember 2 = .ok (.iload_n 1, 1) := by decide +kernel
theorem dX10_remember_3 : decode cX10_remember 3 = .ok (.bipush 21, 2) := by decide +kernel
theorem dX10_remember_5 : decode cX10_remember 5 = .ok (.if_icmp .ge 29, 3) := by decide +kernel
theorem dX10_remember_8 : decode cX10_remember 8 = .ok (.aload_n 0, 1) := by decide +kernel
theorem dX10_remember_9 : decode cX10_remember 9 = .ok (.getfield 40, 3) := by decide +kernel
theorem dX10_remember_12 : decode cX10_remember 12 = .ok (.bipush 21, 2) := by decide +kernel
theorem dX10_remember_14 : decode cX10_remember 14 = .ok (.aload_n 0, 1) := by decide +kernel
theorem dX10_remember_15 : decode cX10_remember 15 = .ok (.getfield 190, 3) := by decide +kernel
theorem dX10_remember_18 : decode cX10_remember 18 = .ok (.imul, 1) := by decide +kernel
theorem dX10_remember_19 : decode cX10_remember 19 = .ok (.iload_n 1, 1) := by decide +kernel
theorem dX10_remember_20 : decode cX10_remember 20 = .ok (.iadd, 1) := by decide +kernel
theorem dX10_remember_21 : decode cX10_remember 21 = .ok (.aload_n 0, 1) := by decide +kernel
theorem dX10_remember_22 : decode cX10_remember 22 = .ok (.getfield 34, 3) := by decide +kernel
theorem dX10_remember_25 : decode cX10_remember 25 = .ok (.iload_n 1, 1) := by decide +kernel
theorem dX10_remember_26 : decode cX10_remember 26 = .ok (.iaload, 1) := by decide +kernel
theorem dX10_remember_27 : decode cX10_remember 27 = .ok (.iastore, 1) := by decide +kernel
theorem dX10_remember_28 : decode cX10_remember 28 = .ok (.iinc 1 1, 3) := by decide +kernel
theorem dX10_remember_31 : decode cX10_remember 31 = .ok (.goto (-29), 3) := by decide +kernel
theorem dX10_remember_34 : decode cX10_remember 34 = .ok (.aload_n 0, 1) := by decide +kernel
theorem dX10_remember_35 : decode cX10_remember 35 = .ok (.aload_n 0, 1) := by decide +kernel
theorem dX10_remember_36 : decode cX10_remember 36 = .ok (.getfield 190, 3) := by decide +kernel
theorem dX10_remember_39 : decode cX10_remember 39 = .ok (.iconst 1, 1) := by decide +kernel
theorem dX10_remember_40 : decode cX10_remember 40 = .ok (.iadd, 1) := by decide +kernel
theorem dX10_remember_41 : decode cX10_remember 41 = .ok (.bipush 24, 2) := by decide +kernel
theorem dX10_remember_43 : decode cX10_remember 43 = .ok (.irem, 1) := by decide +kernel
theorem dX10_remember_44 : decode cX10_remember 44 = .ok (.putfield 190, 3) := by decide +kernel
theorem dX10_remember_47 : decode cX10_remember 47 = .ok (.aload_n 0, 1) := by decide +kernel
theorem dX10_remember_48 : decode cX10_remember 48 = .ok (.dup, 1) := by decide +kernel
theorem dX10_remember_49 : decode cX10_remember 49 = .ok (.getfield 155, 3) := by decide +kernel
theorem dX10_remember_52 : decode cX10_remember 52 = .ok (.aload_n 0, 1) := by decide +kernel
theorem dX10_remember_53 : decode cX10_remember 53 = .ok (.getfield 155, 3) := by decide +kernel
theorem dX10_remember_56 : decode cX10_remember 56 = .ok (.bipush 24, 2) := by decide +kernel
theorem dX10_remember_58 : decode cX10_remember 58 = .ok (.if_icmp .ge 7, 3) := by decide +kernel
theorem dX10_remember_61 : decode cX10_remember 61 = .ok (.iconst 1, 1) := by decide +kernel
theorem dX10_remember_62 : decode cX10_remember 62 = .ok (.goto 4, 3) := by decide +kernel
theorem dX10_remember_65 : decode cX10_remember 65 = .ok (.iconst 0, 1) := by decide +kernel
theorem dX10_remember_66 : decode cX10_remember 66 = .ok (.iadd, 1) := by decide +kernel
theorem dX10_remember_67 : decode cX10_remember 67 = .ok (.putfield 155, 3) := by decide +kernel
theorem dX10_remember_70 : decode cX10_remember 70 = .ok (.return_, 1) := by decide +kernel
theorem dX10_undo_0 : decode cX10_undo 0 = .ok (.aload_n 0, 1) := by decide +kernel
theorem dX10_undo_1 : decode cX10_undo 1 = .ok (.getfield 155, 3) := by decide +kernel
theorem dX10_undo_4 : decode cX10_undo 4 = .ok (.ifCond .ne 6, 3) := by decide +kernel
theorem dX10_undo_7 : decode cX10_undo 7 = .ok (.ldc 193, 2) := by decide +kernel
theorem dX10_undo_9 : decode cX10_undo 9 = .ok (.ireturn, 1) := by decide +kernel
theorem dX10_undo_10 : decode cX10_undo 10 = .ok (.aload_n 0, 1) := by decide +kernel
theorem dX10_undo_11 : decode cX10_undo 11 = .ok (.aload_n 0, 1) := by decide +kernel
theorem dX10_undo_12 : decode cX10_undo 12 = .ok (.getfield 190, 3) := by decide +kernel
theorem dX10_undo_15 : decode cX10_undo 15 = .ok (.bipush 24, 2) := by decide +kernel
theorem dX10_undo_17 : decode cX10_undo 17 = .ok (.iadd, 1) := by decide +kernel
theorem dX10_undo_18 : decode cX10_undo 18 = .ok (.iconst 1, 1) := by decide +kernel
theorem dX10_undo_19 : decode cX10_undo 19 = .ok (.isub, 1) := by decide +kernel
theorem dX10_undo_20 : decode cX10_undo 20 = .ok (.bipush 24, 2) := by decide +kernel
theorem dX10_undo_22 : decode cX10_undo 22 = .ok (.irem, 1) := by decide +kernel
theorem dX10_undo_23 : decode cX10_undo 23 = .ok (.putfield 190, 3) := by decide +kernel
theorem dX10_undo_26 : decode cX10_undo 26 = .ok (.aload_n 0, 1) := by decide +kernel
theorem dX10_undo_27 : decode cX10_undo 27 = .ok (.dup, 1) := by decide +kernel
theorem dX10_undo_28 : decode cX10_undo 28 = .ok (.getfield 155, 3) := by decide +kernel
theorem dX10_undo_31 : decode cX10_undo 31 = .ok (.iconst 1, 1) := by decide +kernel
theorem dX10_undo_32 : decode cX10_undo 32 = .ok (.isub, 1) := by decide +kernel
theorem dX10_undo_33 : decode cX10_undo 33 = .ok (.putfield 155, 3) := by decide +kernel
theorem dX10_undo_36 : decode cX10_undo 36 = .ok (.iconst 0, 1) := by decide +kernel
theorem dX10_undo_37 : decode cX10_undo 37 = .ok (.istore_n 1, 1) := by decide +kernel
theorem dX10_undo_38 : decode cX10_undo 38 = .ok (.iload_n 1, 1) := by decide +kernel
theorem dX10_undo_39 : decode cX10_undo 39 = .ok (.bipush 21, 2) := by decide +kernel
theorem dX10_undo_41 : decode cX10_undo 41 = .ok (.if_icmp .ge 29, 3) := by decide +kernel
theorem dX10_undo_44 : decode cX10_undo 44 = .ok (.aload_n 0, 1) := by decide +kernel
theorem dX10_undo_45 : decode cX10_undo 45 = .ok (.getfield 34, 3) := by decide +kernel
theorem dX10_undo_48 : decode cX10_undo 48 = .ok (.iload_n 1, 1) := by decide +kernel
theorem dX10_undo_49 : decode cX10_undo 49 = .ok (.aload_n 0, 1) := by decide +kernel
theorem dX10_undo_50 : decode cX10_undo 50 = .ok (.getfield 40, 3) := by decide +kernel
theorem dX10_undo_53 : decode cX10_undo 53 = .ok (.bipush 21, 2) := by decide +kernel
theorem dX10_undo_55 : decode cX10_undo 55 = .ok (.aload_n 0, 1) := by decide +kernel
theorem dX10_undo_56 : decode cX10_undo 56 = .ok (.getfield 190, 3) := by decide +kernel
theorem dX10_undo_59 : decode cX10_undo 59 = .ok (.imul, 1) := by decide +kernel
theorem dX10_undo_60 : decode cX10_undo 60 = .ok (.iload_n 1, 1) := by decide +kernel
theorem dX10_undo_61 : decode cX10_undo 61 = .ok (.iadd, 1) := by decide +kernel
theorem dX10_undo_62 : decode cX10_undo 62 = .ok (.iaload, 1) := by decide +kernel
theorem dX10_undo_63 : decode cX10_undo 63 = .ok (.iastore, 1) := by decide +kernel
theorem dX10_undo_64 : decode cX10_undo 64 = .ok (.iinc 1 1, 3) := by decide +kernel
theorem dX10_undo_67 : decode cX10_undo 67 = .ok (.goto (-29), 3) := by decide +kernel
theorem dX10_undo_70 : decode cX10_undo 70 = .ok (.aload_n 0, 1) := by decide +kernel
theorem dX10_undo_71 : decode cX10_undo 71 = .ok (.getfield 155, 3) := by decide +kernel
theorem dX10_undo_74 : decode cX10_undo 74 = .ok (.ireturn, 1) := by decide +kernel
theorem dX10_need_0 : decode cX10_need 0 = .ok (.aload_n 0, 1) := by decide +kernel
theorem dX10_need_1 : decode cX10_need 1 = .ok (.getfield 151, 3) := by decide +kernel
theorem dX10_need_4 : decode cX10_need 4 = .ok (.ifCond .ne 8, 3) := by decide +kernel
theorem dX10_need_7 : decode cX10_need 7 = .ok (.ldc 193, 2) := by decide +kernel
theorem dX10_need_9 : decode cX10_need 9 = .ok (.goto 13, 3) := by decide +kernel
theorem dX10_need_12 : decode cX10_need 12 = .ok (.iload_n 1, 1) := by decide +kernel
theorem dX10_need_13 : decode cX10_need 13 = .ok (.ifCond .eq 7, 3) := by decide +kernel
theorem dX10_need_16 : decode cX10_need 16 = .ok (.iconst 0, 1) := by decide +kernel
theorem dX10_need_17 : decode cX10_need 17 = .ok (.goto 5, 3) := by decide +kernel
theorem dX10_need_20 : decode cX10_need 20 = .ok (.ldc 78, 2) := by decide +kernel
theorem dX10_need_22 : decode cX10_need 22 = .ok (.ireturn, 1) := by decide +kernel
theorem dX10_weeks_0 : decode cX10_weeks 0 = .ok (.aload_n 0, 1) := by decide +kernel
theorem dX10_weeks_1 : decode cX10_weeks 1 = .ok (.iload_n 1, 1) := by decide +kernel
theorem dX10_weeks_2 : decode cX10_weeks 2 = .ok (.iconst 1, 1) := by decide +kernel
theorem dX10_weeks_3 : decode cX10_weeks 3 = .ok (.bipush 24, 2) := by decide +kernel
theorem dX10_weeks_5 : decode cX10_weeks 5 = .ok (.invokestatic 70, 3) := by decide +kernel
theorem dX10_weeks_8 : decode cX10_weeks 8 = .ok (.invokevirtual 194, 3) := by decide +kernel
theorem dX10_weeks_11 : decode cX10_weeks 11 = .ok (.istore_n 2, 1) := by decide +kernel
theorem dX10_weeks_12 : decode cX10_weeks 12 = .ok (.iload_n 2, 1) := by decide +kernel
theorem dX10_weeks_13 : decode cX10_weeks 13 = .ok (.ifCond .ge 5, 3) := by decide +kernel
theorem dX10_weeks_16 : decode cX10_weeks 16 = .ok (.iload_n 2, 1) := by decide +kernel
theorem dX10_weeks_17 : decode cX10_weeks 17 = .ok (.ireturn, 1) := by decide +kernel
theorem dX10_weeks_18 : decode cX10_weeks 18 = .ok (.aload_n 0, 1) := by decide +kernel
theorem dX10_weeks_19 : decode cX10_weeks 19 = .ok (.getfield 34, 3) := by decide +kernel
theorem dX10_weeks_22 : decode cX10_weeks 22 = .ok (.iconst 0, 1) := by decide +kernel
theorem dX10_weeks_23 : decode cX10_weeks 23 = .ok (.iaload, 1) := by decide +kernel
theorem dX10_weeks_24 : decode cX10_weeks 24 = .ok (.iload_n 1, 1) := by decide +kernel
theorem dX10_weeks_25 : decode cX10_weeks 25 = .ok (.iadd, 1) := by decide +kernel
theorem dX10_weeks_26 : decode cX10_weeks 26 = .ok (.sipush 999, 3) := by decide +kernel
theorem dX10_weeks_29 : decode cX10_weeks 29 = .ok (.if_icmp .le 6, 3) := by decide +kernel
theorem dX10_weeks_32 : decode cX10_weeks 32 = .ok (.ldc 92, 2) := by decide +kernel
theorem dX10_weeks_34 : decode cX10_weeks 34 = .ok (.ireturn, 1) := by decide +kernel
theorem dX10_weeks_35 : decode cX10_weeks 35 = .ok (.iconst 0, 1) := by decide +kernel
theorem dX10_weeks_36 : decode cX10_weeks 36 = .ok (.istore_n 3, 1) := by decide +kernel
theorem dX10_weeks_37 : decode cX10_weeks 37 = .ok (.iload_n 3, 1) := by decide +kernel
theorem dX10_weeks_38 : decode cX10_weeks 38 = .ok (.iload_n 1, 1) := by decide +kernel
theorem dX10_weeks_39 : decode cX10_weeks 39 = .ok (.if_icmp .ge 21, 3) := by decide +kernel
theorem dX10_weeks_42 : decode cX10_weeks 42 = .ok (.aload_n 0, 1) := by decide +kernel
theorem dX10_weeks_43 : decode cX10_weeks 43 = .ok (.invokevirtual 198, 3) := by decide +kernel
theorem dX10_weeks_46 : decode cX10_weeks 46 = .ok (.aload_n 0, 1) := by decide +kernel
theorem dX10_weeks_47 : decode cX10_weeks 47 = .ok (.aload_n 0, 1) := by decide +kernel
theorem dX10_weeks_48 : decode cX10_weeks 48 = .ok (.getfield 34, 3) := by decide +kernel
theorem dX10_weeks_51 : decode cX10_weeks 51 = .ok (.invokevirtual 201, 3) := by decide +kernel
theorem dX10_weeks_54 : decode cX10_weeks 54 = .ok (.iinc 3 1, 3) := by decide +kernel
theorem dX10_weeks_57 : decode cX10_weeks 57 = .ok (.goto (-20), 3) := by decide +kernel
theorem dX10_weeks_60 : decode cX10_weeks 60 = .ok (.aload_n 0, 1) := by decide +kernel
theorem dX10_weeks_61 : decode cX10_weeks 61 = .ok (.getfield 34, 3) := by decide +kernel
theorem dX10_weeks_64 : decode cX10_weeks 64 = .ok (.iconst 2, 1) := by decide +kernel
theorem dX10_weeks_65 : decode cX10_weeks 65 = .ok (.iaload, 1) := by decide +kernel
theorem dX10_weeks_66 : decode cX10_weeks 66 = .ok (.ireturn, 1) := by decide +kernel
theorem dX10_say_0 : decode cX10_say 0 = .ok (.aload_n 0, 1) := by decide +kernel
theorem dX10_say_1 : decode cX10_say 1 = .ok (.iload_n 1, 1) := by decide +kernel
theorem dX10_say_2 : decode cX10_say 2 = .ok (.invokevirtual 205, 3) := by decide +kernel
theorem dX10_say_5 : decode cX10_say 5 = .ok (.ifCond .ne 6, 3) := by decide +kernel
theorem dX10_say_8 : decode cX10_say 8 = .ok (.ldc 78, 2) := by decide +kernel
theorem dX10_say_10 : decode cX10_say 10 = .ok (.ireturn, 1) := by decide +kernel
theorem dX10_say_11 : decode cX10_say 11 = .ok (.aload_n 0, 1) := by decide +kernel
theorem dX10_say_12 : decode cX10_say 12 = .ok (.aload_n 0, 1) := by decide +kernel
theorem dX10_say_13 : decode cX10_say 13 = .ok (.getfield 34, 3) := by decide +kernel
theorem dX10_say_16 : decode cX10_say 16 = .ok (.iload_n 1, 1) := by decide +kernel
theorem dX10_say_17 : decode cX10_say 17 = .ok (.invokevirtual 208, 3) := by decide +kernel
theorem dX10_say_20 : decode cX10_say 20 = .ok (.ifCond .ne 6, 3) := by decide +kernel
theorem dX10_say_23 : decode cX10_say 23 = .ok (.ldc 193, 2) := by decide +kernel
theorem dX10_say_25 : decode cX10_say 25 = .ok (.ireturn, 1) := by decide +kernel
theorem dX10_say_26 : decode cX10_say 26 = .ok (.aload_n 0, 1) := by decide +kernel
theorem dX10_say_27 : decode cX10_say 27 = .ok (.invokevirtual 198, 3) := by decide +kernel
theorem dX10_say_30 : decode cX10_say 30 = .ok (.aload_n 0, 1) := by decide +kernel
theorem dX10_say_31 : decode cX10_say 31 = .ok (.aload_n 0, 1) := by decide +kernel
theorem dX10_say_32 : decode cX10_say 32 = .ok (.getfield 34, 3) := by decide +kernel
theorem dX10_say_35 : decode cX10_say 35 = .ok (.iload_n 1, 1) := by decide +kernel
theorem dX10_say_36 : decode cX10_say 36 = .ok (.invokevirtual 212, 3) := by decide +kernel
theorem dX10_say_39 : decode cX10_say 39 = .ok (.ireturn, 1) := by decide +kernel
theorem dX10_buy_0 : decode cX10_buy 0 = .ok (.aload_n 0, 1) := by decide +kernel
theorem dX10_buy_1 : decode cX10_buy 1 = .ok (.iload_n 1, 1) := by decide +kernel
theorem dX10_buy_2 : decode cX10_buy 2 = .ok (.invokevirtual 215, 3) := by decide +kernel
theorem dX10_buy_5 : decode cX10_buy 5 = .ok (.ifCond .eq 13, 3) := by decide +kernel
theorem dX10_buy_8 : decode cX10_buy 8 = .ok (.iload_n 2, 1) := by decide +kernel
theorem dX10_buy_9 : decode cX10_buy 9 = .ok (.iconst 1, 1) := by decide +kernel
theorem dX10_buy_10 : decode cX10_buy 10 = .ok (.bipush 60, 2) := by decide +kernel
theorem dX10_buy_12 : decode cX10_buy 12 = .ok (.invokestatic 70, 3) := by decide +kernel
theorem dX10_buy_15 : decode cX10_buy 15 = .ok (.ifCond .ne 6, 3) := by decide +kernel
theorem dX10_buy_18 : decode cX10_buy 18 = .ok (.ldc 78, 2) := by decide +kernel
theorem dX10_buy_20 : decode cX10_buy 20 = .ok (.ireturn, 1) := by decide +kernel
theorem dX10_buy_21 : decode cX10_buy 21 = .ok (.iload_n 2, 1) := by decide +kernel
theorem dX10_buy_22 : decode cX10_buy 22 = .ok (.aload_n 0, 1) := by decide +kernel
theorem dX10_buy_23 : decode cX10_buy 23 = .ok (.getfield 34, 3) := by decide +kernel
theorem dX10_buy_26 : decode cX10_buy 26 = .ok (.iconst 1, 1) := by decide +kernel
theorem dX10_buy_27 : decode cX10_buy 27 = .ok (.iaload, 1) := by decide +kernel
theorem dX10_buy_28 : decode cX10_buy 28 = .ok (.if_icmp .gt 38, 3) := by decide +kernel
theorem dX10_buy_31 : decode cX10_buy 31 = .ok (.iload_n 2, 1) := by decide +kernel
theorem dX10_buy_32 : decode cX10_buy 32 = .ok (.aload_n 0, 1) := by decide +kernel
theorem dX10_buy_33 : decode cX10_buy 33 = .ok (.getfield 34, 3) := by decide +kernel
theorem dX10_buy_36 : decode cX10_buy 36 = .ok (.iconst 3, 1) := by decide +kernel
theorem dX10_buy_37 : decode cX10_buy 37 = .ok (.iaload, 1) := by decide +kernel
theorem dX10_buy_38 : decode cX10_buy 38 = .ok (.imul, 1) := by decide +kernel
theorem dX10_buy_39 : decode cX10_buy 39 = .ok (.aload_n 0, 1) := by decide +kernel
theorem dX10_buy_40 : decode cX10_buy 40 = .ok (.getfield 34, 3) := by decide +kernel
theorem dX10_buy_43 : decode cX10_buy 43 = .ok (.iconst 5, 1) := by decide +kernel
theorem dX10_buy_44 : decode cX10_buy 44 = .ok (.iload_n 1, 1) := by decide +kernel
theorem dX10_buy_45 : decode cX10_buy 45 = .ok (.iadd, 1) := by decide +kernel
theorem dX10_buy_46 : decode cX10_buy 46 = .ok (.iaload, 1) := by decide +kernel
theorem dX10_buy_47 : decode cX10_buy 47 = .ok (.if_icmp .gt 19, 3) := by decide +kernel
theorem dX10_buy_50 : decode cX10_buy 50 = .ok (.aload_n 0, 1) := by decide +kernel
theorem dX10_buy_51 : decode cX10_buy 51 = .ok (.getfield 34, 3) := by decide +kernel
theorem dX10_buy_54 : decode cX10_buy 54 = .ok (.bipush 10, 2) := by decide +kernel
theorem dX10_buy_56 : decode cX10_buy 56 = .ok (.iload_n 1, 1) := by decide +kernel
theorem dX10_buy_57 : decode cX10_buy 57 = .ok (.iadd, 1) := by decide +kernel
theorem dX10_buy_58 : decode cX10_buy 58 = .ok (.iaload, 1) := by decide +kernel
theorem dX10_buy_59 : decode cX10_buy 59 = .ok (.iload_n 2, 1) := by decide +kernel
theorem dX10_buy_60 : decode cX10_buy 60 = .ok (.iadd, 1) := by decide +kernel
theorem dX10_buy_61 : decode cX10_buy 61 = .ok (.bipush 99, 2) := by decide +kernel
theorem dX10_buy_63 : decode cX10_buy 63 = .ok (.if_icmp .le 6, 3) := by decide +kernel
theorem dX10_buy_66 : decode cX10_buy 66 = .ok (.ldc 193, 2) := by decide +kernel
theorem dX10_buy_68 : decode cX10_buy 68 = .ok (.ireturn, 1) := by decide +kernel
theorem dX10_buy_69 : decode cX10_buy 69 = .ok (.aload_n 0, 1) := by decide +kernel
theorem dX10_buy_70 : decode cX10_buy 70 = .ok (.invokevirtual 198, 3) := by decide +kernel
theorem dX10_buy_73 : decode cX10_buy 73 = .ok (.aload_n 0, 1) := by decide +kernel
theorem dX10_buy_74 : decode cX10_buy 74 = .ok (.getfield 34, 3) := by decide +kernel
theorem dX10_buy_77 : decode cX10_buy 77 = .ok (.iconst 1, 1) := by decide +kernel
theorem dX10_buy_78 : decode cX10_buy 78 = .ok (.dup2, 1) := by decide +kernel
theorem dX10_buy_79 : decode cX10_buy 79 = .ok (.iaload, 1) := by decide +kernel
theorem dX10_buy_80 : decode cX10_buy 80 = .ok (.iload_n 2, 1) := by decide +kernel
theorem dX10_buy_81 : decode cX10_buy 81 = .ok (.isub, 1) := by decide +kernel
theorem dX10_buy_82 : decode cX10_buy 82 = .ok (.iastore, 1) := by decide +kernel
theorem dX10_buy_83 : decode cX10_buy 83 = .ok (.aload_n 0, 1) := by decide +kernel
theorem dX10_buy_84 : decode cX10_buy 84 = .ok (.getfield 34, 3) := by decide +kernel
theorem dX10_buy_87 : decode cX10_buy 87 = .ok (.iconst 5, 1) := by decide +kernel
theorem dX10_buy_88 : decode cX10_buy 88 = .ok (.iload_n 1, 1) := by decide +kernel
theorem dX10_buy_89 : decode cX10_buy 89 = .ok (.iadd, 1) := by decide +kernel
theorem dX10_buy_90 : decode cX10_buy 90 = .ok (.dup2, 1) := by decide +kernel
theorem dX10_buy_91 : decode cX10_buy 91 = .ok (.iaload, 1) := by decide +kernel
theorem dX10_buy_92 : decode cX10_buy 92 = .ok (.iload_n 2, 1) := by decide +kernel
theorem dX10_buy_93 : decode cX10_buy 93 = .ok (.aload_n 0, 1) := by decide +kernel
theorem dX10_buy_94 : decode cX10_buy 94 = .ok (.getfield 34, 3) := by decide +kernel
theorem dX10_buy_97 : decode cX10_buy 97 = .ok (.iconst 3, 1) := by decide +kernel
theorem dX10_buy_98 : decode cX10_buy 98 = .ok (.iaload, 1) := by decide +kernel
theorem dX10_buy_99 : decode cX10_buy 99 = .ok (.imul, 1) := by decide +kernel
theorem dX10_buy_100 : decode cX10_buy 100 = .ok (.isub, 1) := by decide +kernel
theorem dX10_buy_101 : decode cX10_buy 101 = .ok (.iastore, 1) := by decide +kernel
theorem dX10_buy_102 : decode cX10_buy 102 = .ok (.aload_n 0, 1) := by decide +kernel
theorem dX10_buy_103 : decode cX10_buy 103 = .ok (.getfield 34, 3) := by decide +kernel
theorem dX10_buy_106 : decode cX10_buy 106 = .ok (.bipush 10, 2) := by decide +kernel
theorem dX10_buy_108 : decode cX10_buy 108 = .ok (.iload_n 1, 1) := by decide +kernel
theorem dX10_buy_109 : decode cX10_buy 109 = .ok (.iadd, 1) := by decide +kernel
theorem dX10_buy_110 : decode cX10_buy 110 = .ok (.dup2, 1) := by decide +kernel
theorem dX10_buy_111 : decode cX10_buy 111 = .ok (.iaload, 1) := by decide +kernel
theorem dX10_buy_112 : decode cX10_buy 112 = .ok (.iload_n 2, 1) := by decide +kernel
theorem dX10_buy_113 : decode cX10_buy 113 = .ok (.iadd, 1) := by decide +kernel
theorem dX10_buy_114 : decode cX10_buy 114 = .ok (.iastore, 1) := by decide +kernel
theorem dX10_buy_115 : decode cX10_buy 115 = .ok (.aload_n 0, 1) := by decide +kernel
theorem dX10_buy_116 : decode cX10_buy 116 = .ok (.getfield 34, 3) := by decide +kernel
theorem dX10_buy_119 : decode cX10_buy 119 = .ok (.bipush 10, 2) := by decide +kernel
theorem dX10_buy_121 : decode cX10_buy 121 = .ok (.iload_n 1, 1) := by decide +kernel
theorem dX10_buy_122 : decode cX10_buy 122 = .ok (.iadd, 1) := by decide +kernel
theorem dX10_buy_123 : decode cX10_buy 123 = .ok (.iaload, 1) := by decide +kernel
theorem dX10_buy_124 : decode cX10_buy 124 = .ok (.ireturn, 1) := by decide +kernel
theorem dX10_letOut_0 : decode cX10_letOut 0 = .ok (.aload_n 0, 1) := by decide +kernel
theorem dX10_letOut_1 : decode cX10_letOut 1 = .ok (.iload_n 1, 1) := by decide +kernel
theorem dX10_letOut_2 : decode cX10_letOut 2 = .ok (.iconst 1, 1) := by decide +kernel
theorem dX10_letOut_3 : decode cX10_letOut 3 = .ok (.bipush 99, 2) := by decide +kernel
theorem dX10_letOut_5 : decode cX10_letOut 5 = .ok (.invokestatic 70, 3) := by decide +kernel
theorem dX10_letOut_8 : decode cX10_letOut 8 = .ok (.invokevirtual 194, 3) := by decide +kernel
theorem dX10_letOut_11 : decode cX10_letOut 11 = .ok (.istore_n 2, 1) := by decide +kernel
theorem dX10_letOut_12 : decode cX10_letOut 12 = .ok (.iload_n 2, 1) := by decide +kernel
theorem dX10_letOut_13 : decode cX10_letOut 13 = .ok (.ifCond .ge 5, 3) := by decide +kernel
theorem dX10_letOut_16 : decode cX10_letOut 16 = .ok (.iload_n 2, 1) := by decide +kernel
theorem dX10_letOut_17 : decode cX10_letOut 17 = .ok (.ireturn, 1) := by decide +kernel
theorem dX10_letOut_18 : decode cX10_letOut 18 = .ok (.iload_n 1, 1) := by decide +kernel
theorem dX10_letOut_19 : decode cX10_letOut 19 = .ok (.aload_n 0, 1) := by decide +kernel
theorem dX10_letOut_20 : decode cX10_letOut 20 = .ok (.getfield 34, 3) := by decide +kernel
theorem dX10_letOut_23 : decode cX10_letOut 23 = .ok (.iconst 2, 1) := by decide +kernel
theorem dX10_letOut_24 : decode cX10_letOut 24 = .ok (.iaload, 1) := by decide +kernel
theorem dX10_letOut_25 : decode cX10_letOut 25 = .ok (.if_icmp .gt 16, 3) := by decide +kernel
theorem dX10_letOut_28 : decode cX10_letOut 28 = .ok (.aload_n 0, 1) := by decide +kernel
theorem dX10_letOut_29 : decode cX10_letOut 29 = .ok (.getfield 34, 3) := by decide +kernel
theorem dX10_letOut_32 : decode cX10_letOut 32 = .ok (.iconst 1, 1) := by decide +kernel
theorem dX10_letOut_33 : decode cX10_letOut 33 = .ok (.iaload, 1) := by decide +kernel
theorem dX10_letOut_34 : decode cX10_letOut 34 = .ok (.iload_n 1, 1) := by decide +kernel
theorem dX10_letOut_35 : decode cX10_letOut 35 = .ok (.iadd, 1) := by decide +kernel
theorem dX10_letOut_36 : decode cX10_letOut 36 = .ok (.bipush 99, 2) := by decide +kernel
theorem dX10_letOut_38 : decode cX10_letOut 38 = .ok (.if_icmp .le 6, 3) := by decide +kernel
theorem dX10_letOut_41 : decode cX10_letOut 41 = .ok (.ldc 193, 2) := by decide +kernel
theorem dX10_letOut_43 : decode cX10_letOut 43 = .ok (.ireturn, 1) := by decide +kernel
theorem dX10_letOut_44 : decode cX10_letOut 44 = .ok (.aload_n 0, 1) := by decide +kernel
theorem dX10_letOut_45 : decode cX10_letOut 45 = .ok (.invokevirtual 198, 3) := by decide +kernel
theorem dX10_letOut_48 : decode cX10_letOut 48 = .ok (.aload_n 0, 1) := by decide +kernel
theorem dX10_letOut_49 : decode cX10_letOut 49 = .ok (.getfield 34, 3) := by decide +kernel
theorem dX10_letOut_52 : decode cX10_letOut 52 = .ok (.iconst 2, 1) := by decide +kernel
theorem dX10_letOut_53 : decode cX10_letOut 53 = .ok (.dup2, 1) := by decide +kernel
theorem dX10_letOut_54 : decode cX10_letOut 54 = .ok (.iaload, 1) := by decide +kernel
theorem dX10_letOut_55 : decode cX10_letOut 55 = .ok (.iload_n 1, 1) := by decide +kernel
theorem dX10_letOut_56 : decode cX10_letOut 56 = .ok (.isub, 1) := by decide +kernel
theorem dX10_letOut_57 : decode cX10_letOut 57 = .ok (.iastore, 1) := by decide +kernel
theorem dX10_letOut_58 : decode cX10_letOut 58 = .ok (.aload_n 0, 1) := by decide +kernel
theorem dX10_letOut_59 : decode cX10_letOut 59 = .ok (.getfield 34, 3) := by decide +kernel
theorem dX10_letOut_62 : decode cX10_letOut 62 = .ok (.iconst 1, 1) := by decide +kernel
theorem dX10_letOut_63 : decode cX10_letOut 63 = .ok (.dup2, 1) := by decide +kernel
theorem dX10_letOut_64 : decode cX10_letOut 64 = .ok (.iaload, 1) := by decide +kernel
theorem dX10_letOut_65 : decode cX10_letOut 65 = .ok (.iload_n 1, 1) := by decide +kernel
theorem dX10_letOut_66 : decode cX10_letOut 66 = .ok (.iadd, 1) := by decide +kernel
theorem dX10_letOut_67 : decode cX10_letOut 67 = .ok (.iastore, 1) := by decide +kernel
theorem dX10_letOut_68 : decode cX10_letOut 68 = .ok (.aload_n 0, 1) := by decide +kernel
theorem dX10_letOut_69 : decode cX10_letOut 69 = .ok (.getfield 34, 3) := by decide +kernel
theorem dX10_letOut_72 : decode cX10_letOut 72 = .ok (.iconst 1, 1) := by decide +kernel
theorem dX10_letOut_73 : decode cX10_letOut 73 = .ok (.iaload, 1) := by decide +kernel
theorem dX10_letOut_74 : decode cX10_letOut 74 = .ok (.ireturn, 1) := by decide +kernel
theorem dX10_price_0 : decode cX10_price 0 = .ok (.aload_n 0, 1) := by decide +kernel
theorem dX10_price_1 : decode cX10_price 1 = .ok (.iload_n 1, 1) := by decide +kernel
theorem dX10_price_2 : decode cX10_price 2 = .ok (.iconst 1, 1) := by decide +kernel
theorem dX10_price_3 : decode cX10_price 3 = .ok (.bipush 9, 2) := by decide +kernel
theorem dX10_price_5 : decode cX10_price 5 = .ok (.invokestatic 70, 3) := by decide +kernel
theorem dX10_price_8 : decode cX10_price 8 = .ok (.invokevirtual 194, 3) := by decide +kernel
theorem dX10_price_11 : decode cX10_price 11 = .ok (.istore_n 2, 1) := by decide +kernel
theorem dX10_price_12 : decode cX10_price 12 = .ok (.iload_n 2, 1) := by decide +kernel
theorem dX10_price_13 : decode cX10_price 13 = .ok (.ifCond .ge 5, 3) := by decide +kernel
theorem dX10_price_16 : decode cX10_price 16 = .ok (.iload_n 2, 1) := by decide +kernel
theorem dX10_price_17 : decode cX10_price 17 = .ok (.ireturn, 1) := by decide +kernel
theorem dX10_price_18 : decode cX10_price 18 = .ok (.aload_n 0, 1) := by decide +kernel
theorem dX10_price_19 : decode cX10_price 19 = .ok (.invokevirtual 198, 3) := by decide +kernel
theorem dX10_price_22 : decode cX10_price 22 = .ok (.aload_n 0, 1) := by decide +kernel
theorem dX10_price_23 : decode cX10_price 23 = .ok (.getfield 34, 3) := by decide +kernel
theorem dX10_price_26 : decode cX10_price 26 = .ok (.iconst 3, 1) := by decide +kernel
theorem dX10_price_27 : decode cX10_price 27 = .ok (.iaload, 1) := by decide +kernel
theorem dX10_price_28 : decode cX10_price 28 = .ok (.istore_n 3, 1) := by decide +kernel
theorem dX10_price_29 : decode cX10_price 29 = .ok (.aload_n 0, 1) := by decide +kernel
theorem dX10_price_30 : decode cX10_price 30 = .ok (.getfield 34, 3) := by decide +kernel
theorem dX10_price_33 : decode cX10_price 33 = .ok (.iconst 3, 1) := by decide +kernel
theorem dX10_price_34 : decode cX10_price 34 = .ok (.iload_n 1, 1) := by decide +kernel
theorem dX10_price_35 : decode cX10_price 35 = .ok (.iastore, 1) := by decide +kernel
theorem dX10_price_36 : decode cX10_price 36 = .ok (.iload_n 3, 1) := by decide +kernel
theorem dX10_price_37 : decode cX10_price 37 = .ok (.ireturn, 1) := by decide +kernel
theorem dX10_clearTo_0 : decode cX10_clearTo 0 = .ok (.aload_n 0, 1) := by decide +kernel
theorem dX10_clearTo_1 : decode cX10_clearTo 1 = .ok (.getfield 31, 3) := by decide +kernel
theorem dX10_clearTo_4 : decode cX10_clearTo 4 = .ok (.bipush 26, 2) := by decide +kernel
theorem dX10_clearTo_6 : decode cX10_clearTo 6 = .ok (.iload_n 2, 1) := by decide +kernel
theorem dX10_clearTo_7 : decode cX10_clearTo 7 = .ok (.iadd, 1) := by decide +kernel
theorem dX10_clearTo_8 : decode cX10_clearTo 8 = .ok (.iaload, 1) := by decide +kernel
theorem dX10_clearTo_9 : decode cX10_clearTo 9 = .ok (.istore_n 3, 1) := by decide +kernel
theorem dX10_clearTo_10 : decode cX10_clearTo 10 = .ok (.iload_n 3, 1) := by decide +kernel
theorem dX10_clearTo_11 : decode cX10_clearTo 11 = .ok (.ldc 133, 2) := by decide +kernel
theorem dX10_clearTo_13 : decode cX10_clearTo 13 = .ok (.if_icmp .ne 12, 3) := by decide +kernel
theorem dX10_clearTo_16 : decode cX10_clearTo 16 = .ok (.aload_n 1, 1) := by decide +kernel
theorem dX10_clearTo_17 : decode cX10_clearTo 17 = .ok (.bipush 15, 2) := by decide +kernel
theorem dX10_clearTo_19 : decode cX10_clearTo 19 = .ok (.iload_n 2, 1) := by decide +kernel
theorem dX10_clearTo_20 : decode cX10_clearTo 20 = .ok (.iadd, 1) := by decide +kernel
theorem dX10_clearTo_21 : decode cX10_clearTo 21 = .ok (.iaload, 1) := by decide +kernel
theorem dX10_clearTo_22 : decode cX10_clearTo 22 = .ok (.goto 16, 3) := by decide +kernel
theorem dX10_clearTo_25 : decode cX10_clearTo 25 = .ok (.aload_n 1, 1) := by decide +kernel
theorem dX10_clearTo_26 : decode cX10_clearTo 26 = .ok (.bipush 15, 2) := by decide +kernel
theorem dX10_clearTo_28 : decode cX10_clearTo 28 = .ok (.iload_n 2, 1) := by decide +kernel
theorem dX10_clearTo_29 : decode cX10_clearTo 29 = .ok (.iadd, 1) := by decide +kernel
theorem dX10_clearTo_30 : decode cX10_clearTo 30 = .ok (.iaload, 1) := by decide +kernel
theorem dX10_clearTo_31 : decode cX10_clearTo 31 = .ok (.aload_n 1, 1) := by decide +kernel
theorem dX10_clearTo_32 : decode cX10_clearTo 32 = .ok (.bipush 15, 2) := by decide +kernel
theorem dX10_clearTo_34 : decode cX10_clearTo 34 = .ok (.iload_n 3, 1) := by decide +kernel
theorem dX10_clearTo_35 : decode cX10_clearTo 35 = .ok (.iadd, 1) := by decide +kernel
theorem dX10_clearTo_36 : decode cX10_clearTo 36 = .ok (.iaload, 1) := by decide +kernel
theorem dX10_clearTo_37 : decode cX10_clearTo 37 = .ok (.iand, 1) := by decide +kernel
theorem dX10_clearTo_38 : decode cX10_clearTo 38 = .ok (.ireturn, 1) := by decide +kernel
theorem dX10_speech_0 : decode cX10_speech 0 = .ok (.aload_n 0, 1) := by decide +kernel
theorem dX10_speech_1 : decode cX10_speech 1 = .ok (.iload_n 1, 1) := by decide +kernel
theorem dX10_speech_2 : decode cX10_speech 2 = .ok (.invokevirtual 205, 3) := by decide +kernel
theorem dX10_speech_5 : decode cX10_speech 5 = .ok (.ifCond .ne 6, 3) := by decide +kernel
theorem dX10_speech_8 : decode cX10_speech 8 = .ok (.ldc 78, 2) := by decide +kernel
theorem dX10_speech_10 : decode cX10_speech 10 = .ok (.ireturn, 1) := by decide +kernel
theorem dX10_speech_11 : decode cX10_speech 11 = .ok (.iload_n 2, 1) := by decide +kernel
theorem dX10_speech_12 : decode cX10_speech 12 = .ok (.tableswitch 147 0 8 #[52, 62, 72, 82, 88, 98, 116, 126, 136], 52) := by decide +kernel
theorem dX10_speech_64 : decode cX10_speech 64 = .ok (.aload_n 0, 1) := by decide +kernel
theorem dX10_speech_65 : decode cX10_speech 65 = .ok (.getfield 31, 3) := by decide +kernel
theorem dX10_speech_68 : decode cX10_speech 68 = .ok (.bipush 14, 2) := by decide +kernel
theorem dX10_speech_70 : decode cX10_speech 70 = .ok (.iload_n 1, 1) := by decide +kernel
theorem dX10_speech_71 : decode cX10_speech 71 = .ok (.iadd, 1) := by decide +kernel
theorem dX10_speech_72 : decode cX10_speech 72 = .ok (.iaload, 1) := by decide +kernel
theorem dX10_speech_73 : decode cX10_speech 73 = .ok (.ireturn, 1) := by decide +kernel
theorem dX10_speech_74 : decode cX10_speech 74 = .ok (.aload_n 0, 1) := by decide +kernel
theorem dX10_speech_75 : decode cX10_speech 75 = .ok (.getfield 31, 3) := by decide +kernel
theorem dX10_speech_78 : decode cX10_speech 78 = .ok (.bipush 20, 2) := by decide +kernel
theorem dX10_speech_80 : decode cX10_speech 80 = .ok (.iload_n 1, 1) := by decide +kernel
theorem dX10_speech_81 : decode cX10_speech 81 = .ok (.iadd, 1) := by decide +kernel
theorem dX10_speech_82 : decode cX10_speech 82 = .ok (.iaload, 1) := by decide +kernel
theorem dX10_speech_83 : decode cX10_speech 83 = .ok (.ireturn, 1) := by decide +kernel
theorem dX10_speech_84 : decode cX10_speech 84 = .ok (.aload_n 0, 1) := by decide +kernel
theorem dX10_speech_85 : decode cX10_speech 85 = .ok (.getfield 31, 3) := by decide +kernel
theorem dX10_speech_88 : decode cX10_speech 88 = .ok (.bipush 26, 2) := by decide +kernel
theorem dX10_speech_90 : decode cX10_speech 90 = .ok (.iload_n 1, 1) := by decide +kernel
theorem dX10_speech_91 : decode cX10_speech 91 = .ok (.iadd, 1) := by decide +kernel
theorem dX10_speech_92 : decode cX10_speech 92 = .ok (.iaload, 1) := by decide +kernel
theorem dX10_speech_93 : decode cX10_speech 93 = .ok (.ireturn, 1) := by decide +kernel
theorem dX10_speech_94 : decode cX10_speech 94 = .ok (.aload_n 0, 1) := by decide +kernel
theorem dX10_speech_95 : decode cX10_speech 95 = .ok (.iload_n 1, 1) := by decide +kernel
theorem dX10_speech_96 : decode cX10_speech 96 = .ok (.invokevirtual 158, 3) := by decide +kernel
theorem dX10_speech_99 : decode cX10_speech 99 = .ok (.ireturn, 1) := by decide +kernel
theorem dX10_speech_100 : decode cX10_speech 100 = .ok (.aload_n 0, 1) := by decide +kernel
theorem dX10_speech_101 : decode cX10_speech 101 = .ok (.aload_n 0, 1) := by decide +kernel
theorem dX10_speech_102 : decode cX10_speech 102 = .ok (.getfield 34, 3) := by decide +kernel
theorem dX10_speech_105 : decode cX10_speech 105 = .ok (.iload_n 1, 1) := by decide +kernel
theorem dX10_speech_106 : decode cX10_speech 106 = .ok (.invokevirtual 169, 3) := by decide +kernel
theorem dX10_speech_109 : decode cX10_speech 109 = .ok (.ireturn, 1) := by decide +kernel
theorem dX10_speech_110 : decode cX10_speech 110 = .ok (.aload_n 0, 1) := by decide +kernel
theorem dX10_speech_111 : decode cX10_speech 111 = .ok (.aload_n 0, 1) := by decide +kernel
theorem dX10_speech_112 : decode cX10_speech 112 = .ok (.getfield 34, 3) := by decide +kernel
theorem dX10_speech_115 : decode cX10_speech 115 = .ok (.iload_n 1, 1) := by decide +kernel
theorem dX10_speech_116 : decode cX10_speech 116 = .ok (.invokevirtual 208, 3) := by decide +kernel
theorem dX10_speech_119 : decode cX10_speech 119 = .ok (.ifCond .eq 7, 3) := by decide +kernel
theorem dX10_speech_122 : decode cX10_speech 122 = .ok (.iconst 1, 1) := by decide +kernel
theorem dX10_speech_123 : decode cX10_speech 123 = .ok (.goto 4, 3) := by decide +kernel
theorem dX10_speech_126 : decode cX10_speech 126 = .ok (.iconst 0, 1) := by decide +kernel
theorem dX10_speech_127 : decode cX10_speech 127 = .ok (.ireturn, 1) := by decide +kernel
theorem dX10_speech_128 : decode cX10_speech 128 = .ok (.aload_n 0, 1) := by decide +kernel
theorem dX10_speech_129 : decode cX10_speech 129 = .ok (.getfield 34, 3) := by decide +kernel
theorem dX10_speech_132 : decode cX10_speech 132 = .ok (.bipush 15, 2) := by decide +kernel
theorem dX10_speech_134 : decode cX10_speech 134 = .ok (.iload_n 1, 1) := by decide +kernel
theorem dX10_speech_135 : decode cX10_speech 135 = .ok (.iadd, 1) := by decide +kernel
theorem dX10_speech_136 : decode cX10_speech 136 = .ok (.iaload, 1) := by decide +kernel
theorem dX10_speech_137 : decode cX10_speech 137 = .ok (.ireturn, 1) := by decide +kernel
theorem dX10_speech_138 : decode cX10_speech 138 = .ok (.aload_n 0, 1) := by decide +kernel
theorem dX10_speech_139 : decode cX10_speech 139 = .ok (.aload_n 0, 1) := by decide +kernel
theorem dX10_speech_140 : decode cX10_speech 140 = .ok (.getfield 34, 3) := by decide +kernel
theorem dX10_speech_143 : decode cX10_speech 143 = .ok (.iload_n 1, 1) := by decide +kernel
theorem dX10_speech_144 : decode cX10_speech 144 = .ok (.invokevirtual 218, 3) := by decide +kernel
theorem dX10_speech_147 : decode cX10_speech 147 = .ok (.ireturn, 1) := by decide +kernel
theorem dX10_speech_148 : decode cX10_speech 148 = .ok (.aload_n 0, 1) := by decide +kernel
theorem dX10_speech_149 : decode cX10_speech 149 = .ok (.getfield 34, 3) := by decide +kernel
theorem dX10_speech_152 : decode cX10_speech 152 = .ok (.iconst 4, 1) := by decide +kernel
theorem dX10_speech_153 : decode cX10_speech 153 = .ok (.iaload, 1) := by decide +kernel
theorem dX10_speech_154 : decode cX10_speech 154 = .ok (.iload_n 1, 1) := by decide +kernel
theorem dX10_speech_155 : decode cX10_speech 155 = .ok (.ishr, 1) := by decide +kernel
theorem dX10_speech_156 : decode cX10_speech 156 = .ok (.iconst 1, 1) := by decide +kernel
theorem dX10_speech_157 : decode cX10_speech 157 = .ok (.iand, 1) := by decide +kernel
theorem dX10_speech_158 : decode cX10_speech 158 = .ok (.ireturn, 1) := by decide +kernel
theorem dX10_speech_159 : decode cX10_speech 159 = .ok (.ldc 78, 2) := by decide +kernel
theorem dX10_speech_161 : decode cX10_speech 161 = .ok (.ireturn, 1) := by decide +kernel
theorem dX10_person_0 : decode cX10_person 0 = .ok (.aload_n 0, 1) := by decide +kernel
theorem dX10_person_1 : decode cX10_person 1 = .ok (.iload_n 1, 1) := by decide +kernel
theorem dX10_person_2 : decode cX10_person 2 = .ok (.invokevirtual 215, 3) := by decide +kernel
theorem dX10_person_5 : decode cX10_person 5 = .ok (.ifCond .eq 12, 3) := by decide +kernel
theorem dX10_person_8 : decode cX10_person 8 = .ok (.iload_n 2, 1) := by decide +kernel
theorem dX10_person_9 : decode cX10_person 9 = .ok (.iconst 0, 1) := by decide +kernel
theorem dX10_person_10 : decode cX10_person 10 = .ok (.iconst 4, 1) := by decide +kernel
theorem dX10_person_11 : decode cX10_person 11 = .ok (.invokestatic 70, 3) := by decide +kernel
theorem dX10_person_14 : decode cX10_person 14 = .ok (.ifCond .ne 6, 3) := by decide +kernel
theorem dX10_person_17 : decode cX10_person 17 = .ok (.ldc 78, 2) := by decide +kernel
theorem dX10_person_19 : decode cX10_person 19 = .ok (.ireturn, 1) := by decide +kernel
theorem dX10_person_20 : decode cX10_person 20 = .ok (.iconst 0, 1) := by decide +kernel
theorem dX10_person_21 : decode cX10_person 21 = .ok (.istore_n 3, 1) := by decide +kernel
theorem dX10_person_22 : decode cX10_person 22 = .ok (.iconst 0, 1) := by decide +kernel
theorem dX10_person_23 : decode cX10_person 23 = .ok (.istore 4, 2) := by decide +kernel
theorem dX10_person_25 : decode cX10_person 25 = .ok (.iconst 0, 1) := by decide +kernel
theorem dX10_person_26 : decode cX10_person 26 = .ok (.istore 5, 2) := by decide +kernel
theorem dX10_person_28 : decode cX10_person 28 = .ok (.iload 5, 2) := by decide +kernel
theorem dX10_person_30 : decode cX10_person 30 = .ok (.aload_n 0, 1) := by decide +kernel
theorem dX10_person_31 : decode cX10_person 31 = .ok (.getfield 31, 3) := by decide +kernel
theorem dX10_person_34 : decode cX10_person 34 = .ok (.iconst 1, 1) := by decide +kernel
theorem dX10_person_35 : decode cX10_person 35 = .ok (.iaload, 1) := by decide +kernel
theorem dX10_person_36 : decode cX10_person 36 = .ok (.if_icmp .ge 67, 3) := by decide +kernel
theorem dX10_person_39 : decode cX10_person 39 = .ok (.iload_n 3, 1) := by decide +kernel
theorem dX10_person_40 : decode cX10_person 40 = .ok (.aload_n 0, 1) := by decide +kernel
theorem dX10_person_41 : decode cX10_person 41 = .ok (.getfield 34, 3) := by decide +kernel
theorem dX10_person_44 : decode cX10_person 44 = .ok (.bipush 15, 2) := by decide +kernel
theorem dX10_person_46 : decode cX10_person 46 = .ok (.iload 5, 2) := by decide +kernel
theorem dX10_person_48 : decode cX10_person 48 = .ok (.iadd, 1) := by decide +kernel
theorem dX10_person_49 : decode cX10_person 49 = .ok (.iaload, 1) := by decide +kernel
theorem dX10_person_50 : decode cX10_person 50 = .ok (.iload_n 1, 1) := by decide +kernel
theorem dX10_person_51 : decode cX10_person 51 = .ok (.invokestatic 165, 3) := by decide +kernel
theorem dX10_person_54 : decode cX10_person 54 = .ok (.ifCond .eq 10, 3) := by decide +kernel
theorem dX10_person_57 : decode cX10_person 57 = .ok (.iconst 1, 1) := by decide +kernel
theorem dX10_person_58 : decode cX10_person 58 = .ok (.iload 5, 2) := by decide +kernel
theorem dX10_person_60 : decode cX10_person 60 = .ok (.ishl, 1) := by decide +kernel
theorem dX10_person_61 : decode cX10_person 61 = .ok (.goto 4, 3) := by decide +kernel
theorem dX10_person_64 : decode cX10_person 64 = .ok (.iconst 0, 1) := by decide +kernel
theorem dX10_person_65 : decode cX10_person 65 = .ok (.ior, 1) := by decide +kernel
theorem dX10_person_66 : decode cX10_person 66 = .ok (.istore_n 3, 1) := by decide +kernel
theorem dX10_person_67 : decode cX10_person 67 = .ok (.iload 4, 2) := by decide +kernel
theorem dX10_person_69 : decode cX10_person 69 = .ok (.aload_n 0, 1) := by decide +kernel
theorem dX10_person_70 : decode cX10_person 70 = .ok (.aload_n 0, 1) := by decide +kernel
theorem dX10_person_71 : decode cX10_person 71 = .ok (.getfield 34, 3) := by decide +kernel
theorem dX10_person_74 : decode cX10_person 74 = .ok (.iload 5, 2) := by decide +kernel
theorem dX10_person_76 : decode cX10_person 76 = .ok (.invokevirtual 218, 3) := by decide +kernel
theorem dX10_person_79 : decode cX10_person 79 = .ok (.iload_n 1, 1) := by decide +kernel
theorem dX10_person_80 : decode cX10_person 80 = .ok (.invokestatic 165, 3) := by decide +kernel
theorem dX10_person_83 : decode cX10_person 83 = .ok (.ifCond .eq 10, 3) := by decide +kernel
theorem dX10_person_86 : decode cX10_person 86 = .ok (.iconst 1, 1) := by decide +kernel
theorem dX10_person_87 : decode cX10_person 87 = .ok (.iload 5, 2) := by decide +kernel
theorem dX10_person_89 : decode cX10_person 89 = .ok (.ishl, 1) := by decide +kernel
theorem dX10_person_90 : decode cX10_person 90 = .ok (.goto 4, 3) := by decide +kernel
theorem dX10_person_93 : decode cX10_person 93 = .ok (.iconst 0, 1) := by decide +kernel
theorem dX10_person_94 : decode cX10_person 94 = .ok (.ior, 1) := by decide +kernel
theorem dX10_person_95 : decode cX10_person 95 = .ok (.istore 4, 2) := by decide +kernel
theorem dX10_person_97 : decode cX10_person 97 = .ok (.iinc 5 1, 3) := by decide +kernel
theorem dX10_person_100 : decode cX10_person 100 = .ok (.goto (-72), 3) := by decide +kernel
theorem dX10_person_103 : decode cX10_person 103 = .ok (.iload_n 2, 1) := by decide +kernel
theorem dX10_person_104 : decode cX10_person 104 = .ok (.ifCond .ne 14, 3) := by decide +kernel
theorem dX10_person_107 : decode cX10_person 107 = .ok (.aload_n 0, 1) := by decide +kernel
theorem dX10_person_108 : decode cX10_person 108 = .ok (.getfield 34, 3) := by decide +kernel
theorem dX10_person_111 : decode cX10_person 111 = .ok (.iconst 5, 1) := by decide +kernel
theorem dX10_person_112 : decode cX10_person 112 = .ok (.iload_n 1, 1) := by decide +kernel
theorem dX10_person_113 : decode cX10_person 113 = .ok (.iadd, 1) := by decide +kernel
theorem dX10_person_114 : decode cX10_person 114 = .ok (.iaload, 1) := by decide +kernel
theorem dX10_person_115 : decode cX10_person 115 = .ok (.goto 47, 3) := by decide +kernel
theorem dX10_person_118 : decode cX10_person 118 = .ok (.iload_n 2, 1) := by decide +kernel
theorem dX10_person_119 : decode cX10_person 119 = .ok (.iconst 1, 1) := by decide +kernel
theorem dX10_person_120 : decode cX10_person 120 = .ok (.if_icmp .ne 14, 3) := by decide +kernel
theorem dX10_person_123 : decode cX10_person 123 = .ok (.aload_n 0, 1) := by decide +kernel
theorem dX10_person_124 : decode cX10_person 124 = .ok (.getfield 31, 3) := by decide +kernel
theorem dX10_person_127 : decode cX10_person 127 = .ok (.iconst 3, 1) := by decide +kernel
theorem dX10_person_128 : decode cX10_person 128 = .ok (.iload_n 1, 1) := by decide +kernel
theorem dX10_person_129 : decode cX10_person 129 = .ok (.iadd, 1) := by decide +kernel
theorem dX10_person_130 : decode cX10_person 130 = .ok (.iaload, 1) := by decide +kernel
theorem dX10_person_131 : decode cX10_person 131 = .ok (.goto 31, 3) := by decide +kernel
theorem dX10_person_134 : decode cX10_person 134 = .ok (.iload_n 2, 1) := by decide +kernel
theorem dX10_person_135 : decode cX10_person 135 = .ok (.iconst 2, 1) := by decide +kernel
theorem dX10_person_136 : decode cX10_person 136 = .ok (.if_icmp .ne 15, 3) := by decide +kernel
theorem dX10_person_139 : decode cX10_person 139 = .ok (.aload_n 0, 1) := by decide +kernel
theorem dX10_person_140 : decode cX10_person 140 = .ok (.getfield 34, 3) := by decide +kernel
theorem dX10_person_143 : decode cX10_person 143 = .ok (.bipush 10, 2) := by decide +kernel
theorem dX10_person_145 : decode cX10_person 145 = .ok (.iload_n 1, 1) := by decide +kernel
theorem dX10_person_146 : decode cX10_person 146 = .ok (.iadd, 1) := by decide +kernel
theorem dX10_person_147 : decode cX10_person 147 = .ok (.iaload, 1) := by decide +kernel
theorem dX10_person_148 : decode cX10_person 148 = .ok (.goto 14, 3) := by decide +kernel
theorem dX10_person_151 : decode cX10_person 151 = .ok (.iload_n 2, 1) := by decide +kernel
theorem dX10_person_152 : decode cX10_person 152 = .ok (.iconst 3, 1) := by decide +kernel
theorem dX10_person_153 : decode cX10_person 153 = .ok (.if_icmp .ne 7, 3) := by decide +kernel
theorem dX10_person_156 : decode cX10_person 156 = .ok (.iload_n 3, 1) := by decide +kernel
theorem dX10_person_157 : decode cX10_person 157 = .ok (.goto 5, 3) := by decide +kernel
theorem dX10_person_160 : decode cX10_person 160 = .ok (.iload 4, 2) := by decide +kernel
theorem dX10_person_162 : decode cX10_person 162 = .ok (.ireturn, 1) := by decide +kernel
theorem dX10_stand_0 : decode cX10_stand 0 = .ok (.aload_n 0, 1) := by decide +kernel
theorem dX10_stand_1 : decode cX10_stand 1 = .ok (.iload_n 1, 1) := by decide +kernel
theorem dX10_stand_2 : decode cX10_stand 2 = .ok (.iconst 0, 1) := by decide +kernel
theorem dX10_stand_3 : decode cX10_stand 3 = .ok (.iconst 4, 1) := by decide +kernel
theorem dX10_stand_4 : decode cX10_stand 4 = .ok (.invokestatic 70, 3) := by decide +kernel
theorem dX10_stand_7 : decode cX10_stand 7 = .ok (.invokevirtual 194, 3) := by decide +kernel
theorem dX10_stand_10 : decode cX10_stand 10 = .ok (.istore_n 2, 1) := by decide +kernel
theorem dX10_stand_11 : decode cX10_stand 11 = .ok (.iload_n 2, 1) := by decide +kernel
theorem dX10_stand_12 : decode cX10_stand 12 = .ok (.ifCond .ge 5, 3) := by decide +kernel
theorem dX10_stand_15 : decode cX10_stand 15 = .ok (.iload_n 2, 1) := by decide +kernel
theorem dX10_stand_16 : decode cX10_stand 16 = .ok (.ireturn, 1) := by decide +kernel
theorem dX10_stand_17 : decode cX10_stand 17 = .ok (.iload_n 1, 1) := by decide +kernel
theorem dX10_stand_18 : decode cX10_stand 18 = .ok (.ifCond .ne 12, 3) := by decide +kernel
theorem dX10_stand_21 : decode cX10_stand 21 = .ok (.aload_n 0, 1) := by decide +kernel
theorem dX10_stand_22 : decode cX10_stand 22 = .ok (.getfield 34, 3) := by decide +kernel
theorem dX10_stand_25 : decode cX10_stand 25 = .ok (.iconst 1, 1) := by decide +kernel
theorem dX10_stand_26 : decode cX10_stand 26 = .ok (.iaload, 1) := by decide +kernel
theorem dX10_stand_27 : decode cX10_stand 27 = .ok (.goto 51, 3) := by decide +kernel
theorem dX10_stand_30 : decode cX10_stand 30 = .ok (.iload_n 1, 1) := by decide +kernel
theorem dX10_stand_31 : decode cX10_stand 31 = .ok (.iconst 1, 1) := by decide +kernel
theorem dX10_stand_32 : decode cX10_stand 32 = .ok (.if_icmp .ne 12, 3) := by decide +kernel
theorem dX10_stand_35 : decode cX10_stand 35 = .ok (.aload_n 0, 1) := by decide +kernel
theorem dX10_stand_36 : decode cX10_stand 36 = .ok (.getfield 34, 3) := by decide +kernel
theorem dX10_stand_39 : decode cX10_stand 39 = .ok (.iconst 2, 1) := by decide +kernel
theorem dX10_stand_40 : decode cX10_stand 40 = .ok (.iaload, 1) := by decide +kernel
theorem dX10_stand_41 : decode cX10_stand 41 = .ok (.goto 37, 3) := by decide +kernel
theorem dX10_stand_44 : decode cX10_stand 44 = .ok (.iload_n 1, 1) := by decide +kernel
theorem dX10_stand_45 : decode cX10_stand 45 = .ok (.iconst 2, 1) := by decide +kernel
theorem dX10_stand_46 : decode cX10_stand 46 = .ok (.if_icmp .ne 12, 3) := by decide +kernel
theorem dX10_stand_49 : decode cX10_stand 49 = .ok (.aload_n 0, 1) := by decide +kernel
theorem dX10_stand_50 : decode cX10_stand 50 = .ok (.getfield 34, 3) := by decide +kernel
theorem dX10_stand_53 : decode cX10_stand 53 = .ok (.iconst 3, 1) := by decide +kernel
theorem dX10_stand_54 : decode cX10_stand 54 = .ok (.iaload, 1) := by decide +kernel
theorem dX10_stand_55 : decode cX10_stand 55 = .ok (.goto 23, 3) := by decide +kernel
theorem dX10_stand_58 : decode cX10_stand 58 = .ok (.iload_n 1, 1) := by decide +kernel
theorem dX10_stand_59 : decode cX10_stand 59 = .ok (.iconst 3, 1) := by decide +kernel
theorem dX10_stand_60 : decode cX10_stand 60 = .ok (.if_icmp .ne 12, 3) := by decide +kernel
theorem dX10_stand_63 : decode cX10_stand 63 = .ok (.aload_n 0, 1) := by decide +kernel
theorem dX10_stand_64 : decode cX10_stand 64 = .ok (.getfield 31, 3) := by decide +kernel
theorem dX10_stand_67 : decode cX10_stand 67 = .ok (.iconst 2, 1) := by decide +kernel
theorem dX10_stand_68 : decode cX10_stand 68 = .ok (.iaload, 1) := by decide +kernel
theorem dX10_stand_69 : decode cX10_stand 69 = .ok (.goto 9, 3) := by decide +kernel
theorem dX10_stand_72 : decode cX10_stand 72 = .ok (.aload_n 0, 1) := by decide +kernel
theorem dX10_stand_73 : decode cX10_stand 73 = .ok (.getfield 34, 3) := by decide +kernel
theorem dX10_stand_76 : decode cX10_stand 76 = .ok (.iconst 4, 1) := by decide +kernel
theorem dX10_stand_77 : decode cX10_stand 77 = .ok (.iaload, 1) := by decide +kernel
theorem dX10_stand_78 : decode cX10_stand 78 = .ok (.ireturn, 1) := by decide +kernel
theorem dX10_copyNow_0 : decode cX10_copyNow 0 = .ok (.iconst 0, 1) := by decide +kernel
theorem dX10_copyNow_1 : decode cX10_copyNow 1 = .ok (.istore_n 1, 1) := by decide +kernel
theorem dX10_copyNow_2 : decode cX10_copyNow 2 = .ok (.iload_n 1, 1) := by decide +kernel
theorem dX10_copyNow_3 : decode cX10_copyNow 3 = .ok (.bipush 21, 2) := by decide +kernel
theorem dX10_copyNow_5 : decode cX10_copyNow 5 = .ok (.if_icmp .ge 21, 3) := by decide +kernel
theorem dX10_copyNow_8 : decode cX10_copyNow 8 = .ok (.aload_n 0, 1) := by decide +kernel
theorem dX10_copyNow_9 : decode cX10_copyNow 9 = .ok (.getfield 37, 3) := by decide +kernel
theorem dX10_copyNow_12 : decode cX10_copyNow 12 = .ok (.iload_n 1, 1) := by decide +kernel
theorem dX10_copyNow_13 : decode cX10_copyNow 13 = .ok (.aload_n 0, 1) := by decide +kernel
theorem dX10_copyNow_14 : decode cX10_copyNow 14 = .ok (.getfield 34, 3) := by decide +kernel
theorem dX10_copyNow_17 : decode cX10_copyNow 17 = .ok (.iload_n 1, 1) := by decide +kernel
theorem dX10_copyNow_18 : decode cX10_copyNow 18 = .ok (.iaload, 1) := by decide +kernel
theorem dX10_copyNow_19 : decode cX10_copyNow 19 = .ok (.iastore, 1) := by decide +kernel
theorem dX10_copyNow_20 : decode cX10_copyNow 20 = .ok (.iinc 1 1, 3) := by decide +kernel
theorem dX10_copyNow_23 : decode cX10_copyNow 23 = .ok (.goto (-21), 3) := by decide +kernel
theorem dX10_copyNow_26 : decode cX10_copyNow 26 = .ok (.return_, 1) := by decide +kernel
theorem dX10_ahead_0 : decode cX10_ahead 0 = .ok (.aload_n 0, 1) := by decide +kernel
theorem dX10_ahead_1 : decode cX10_ahead 1 = .ok (.invokevirtual 221, 3) := by decide +kernel
theorem dX10_ahead_4 : decode cX10_ahead 4 = .ok (.iconst 0, 1) := by decide +kernel
theorem dX10_ahead_5 : decode cX10_ahead 5 = .ok (.istore_n 2, 1) := by decide +kernel
theorem dX10_ahead_6 : decode cX10_ahead 6 = .ok (.iload_n 2, 1) := by decide +kernel
theorem dX10_ahead_7 : decode cX10_ahead 7 = .ok (.iload_n 1, 1) := by decide +kernel
theorem dX10_ahead_8 : decode cX10_ahead 8 = .ok (.if_icmp .ge 17, 3) := by decide +kernel
theorem dX10_ahead_11 : decode cX10_ahead 11 = .ok (.aload_n 0, 1) := by decide +kernel
theorem dX10_ahead_12 : decode cX10_ahead 12 = .ok (.aload_n 0, 1) := by decide +kernel
theorem dX10_ahead_13 : decode cX10_ahead 13 = .ok (.getfield 37, 3) := by decide +kernel
theorem dX10_ahead_16 : decode cX10_ahead 16 = .ok (.invokevirtual 201, 3) := by decide +kernel
theorem dX10_ahead_19 : decode cX10_ahead 19 = .ok (.iinc 2 1, 3) := by decide +kernel
theorem dX10_ahead_22 : decode cX10_ahead 22 = .ok (.goto (-16), 3) := by decide +kernel
theorem dX10_ahead_25 : decode cX10_ahead 25 = .ok (.return_, 1) := by decide +kernel
theorem dX10_isAhead_0 : decode cX10_isAhead 0 = .ok (.iload_n 0, 1) := by decide +kernel
theorem dX10_isAhead_1 : decode cX10_isAhead 1 = .ok (.iconst 0, 1) := by decide +kernel
theorem dX10_isAhead_2 : decode cX10_isAhead 2 = .ok (.bipush 60, 2) := by decide +kernel
theorem dX10_isAhead_4 : decode cX10_isAhead 4 = .ok (.invokestatic 70, 3) := by decide +kernel
theorem dX10_isAhead_7 : decode cX10_isAhead 7 = .ok (.ireturn, 1) := by decide +kernel
theorem dX10_purse_0 : decode cX10_purse 0 = .ok (.aload_n 0, 1) := by decide +kernel
theorem dX10_purse_1 : decode cX10_purse 1 = .ok (.iload_n 1, 1) := by decide +kernel
theorem dX10_purse_2 : decode cX10_purse 2 = .ok (.invokevirtual 215, 3) := by decide +kernel
theorem dX10_purse_5 : decode cX10_purse 5 = .ok (.ifCond .eq 10, 3) := by decide +kernel
theorem dX10_purse_8 : decode cX10_purse 8 = .ok (.iload_n 2, 1) := by decide +kernel
theorem dX10_purse_9 : decode cX10_purse 9 = .ok (.invokestatic 224, 3) := by decide +kernel
theorem dX10_purse_12 : decode cX10_purse 12 = .ok (.ifCond .ne 6, 3) := by decide +kernel
theorem dX10_purse_15 : decode cX10_purse 15 = .ok (.ldc 78, 2) := by decide +kernel
theorem dX10_purse_17 : decode cX10_purse 17 = .ok (.ireturn, 1) := by decide +kernel
theorem dX10_purse_18 : decode cX10_purse 18 = .ok (.aload_n 0, 1) := by decide +kernel
theorem dX10_purse_19 : decode cX10_purse 19 = .ok (.iload_n 2, 1) := by decide +kernel
theorem dX10_purse_20 : decode cX10_purse 20 = .ok (.invokevirtual 227, 3) := by decide +kernel
theorem dX10_purse_23 : decode cX10_purse 23 = .ok (.aload_n 0, 1) := by decide +kernel
theorem dX10_purse_24 : decode cX10_purse 24 = .ok (.getfield 37, 3) := by decide +kernel
theorem dX10_purse_27 : decode cX10_purse 27 = .ok (.iconst 5, 1) := by decide +kernel
theorem dX10_purse_28 : decode cX10_purse 28 = .ok (.iload_n 1, 1) := by decide +kernel
theorem dX10_purse_29 : decode cX10_purse 29 = .ok (.iadd, 1) := by decide +kernel
theorem dX10_purse_30 : decode cX10_purse 30 = .ok (.iaload, 1) := by decide +kernel
theorem dX10_purse_31 : decode cX10_purse 31 = .ok (.ireturn, 1) := by decide +kernel
theorem dX10_hill_0 : decode cX10_hill 0 = .ok (.aload_n 0, 1) := by decide +kernel
theorem dX10_hill_1 : decode cX10_hill 1 = .ok (.iload_n 1, 1) := by decide +kernel
theorem dX10_hill_2 : decode cX10_hill 2 = .ok (.invokestatic 224, 3) := by decide +kernel
theorem dX10_hill_5 : decode cX10_hill 5 = .ok (.invokevirtual 194, 3) := by decide +kernel
theorem dX10_hill_8 : decode cX10_hill 8 = .ok (.istore_n 2, 1) := by decide +kernel
theorem dX10_hill_9 : decode cX10_hill 9 = .ok (.iload_n 2, 1) := by decide +kernel
theorem dX10_hill_10 : decode cX10_hill 10 = .ok (.ifCond .ge 5, 3) := by decide +kernel
theorem dX10_hill_13 : decode cX10_hill 13 = .ok (.iload_n 2, 1) := by decide +kernel
theorem dX10_hill_14 : decode cX10_hill 14 = .ok (.ireturn, 1) := by decide +kernel
theorem dX10_hill_15 : decode cX10_hill 15 = .ok (.aload_n 0, 1) := by decide +kernel
theorem dX10_hill_16 : decode cX10_hill 16 = .ok (.iload_n 1, 1) := by decide +kernel
theorem dX10_hill_17 : decode cX10_hill 17 = .ok (.invokevirtual 227, 3) := by decide +kernel
theorem dX10_hill_20 : decode cX10_hill 20 = .ok (.aload_n 0, 1) := by decide +kernel
theorem dX10_hill_21 : decode cX10_hill 21 = .ok (.getfield 37, 3) := by decide +kernel
theorem dX10_hill_24 : decode cX10_hill 24 = .ok (.iconst 2, 1) := by decide +kernel
theorem dX10_hill_25 : decode cX10_hill 25 = .ok (.iaload, 1) := by decide +kernel
theorem dX10_hill_26 : decode cX10_hill 26 = .ok (.ireturn, 1) := by decide +kernel
theorem dX10_known_0 : decode cX10_known 0 = .ok (.aload_n 0, 1) := by decide +kernel
theorem dX10_known_1 : decode cX10_known 1 = .ok (.iload_n 1, 1) := by decide +kernel
theorem dX10_known_2 : decode cX10_known 2 = .ok (.invokevirtual 205, 3) := by decide +kernel
theorem dX10_known_5 : decode cX10_known 5 = .ok (.ifCond .eq 10, 3) := by decide +kernel
theorem dX10_known_8 : decode cX10_known 8 = .ok (.iload_n 2, 1) := by decide +kernel
theorem dX10_known_9 : decode cX10_known 9 = .ok (.invokestatic 224, 3) := by decide +kernel
theorem dX10_known_12 : decode cX10_known 12 = .ok (.ifCond .ne 6, 3) := by decide +kernel
theorem dX10_known_15 : decode cX10_known 15 = .ok (.ldc 78, 2) := by decide +kernel
theorem dX10_known_17 : decode cX10_known 17 = .ok (.ireturn, 1) := by decide +kernel
theorem dX10_known_18 : decode cX10_known 18 = .ok (.aload_n 0, 1) := by decide +kernel
theorem dX10_known_19 : decode cX10_known 19 = .ok (.iload_n 2, 1) := by decide +kernel
theorem dX10_known_20 : decode cX10_known 20 = .ok (.invokevirtual 227, 3) := by decide +kernel
theorem dX10_known_23 : decode cX10_known 23 = .ok (.aload_n 0, 1) := by decide +kernel
theorem dX10_known_24 : decode cX10_known 24 = .ok (.getfield 37, 3) := by decide +kernel
theorem dX10_known_27 : decode cX10_known 27 = .ok (.bipush 15, 2) := by decide +kernel
theorem dX10_known_29 : decode cX10_known 29 = .ok (.iload_n 1, 1) := by decide +kernel
theorem dX10_known_30 : decode cX10_known 30 = .ok (.iadd, 1) := by decide +kernel
theorem dX10_known_31 : decode cX10_known 31 = .ok (.iaload, 1) := by decide +kernel
theorem dX10_known_32 : decode cX10_known 32 = .ok (.ireturn, 1) := by decide +kernel
theorem dX10_allKnow_0 : decode cX10_allKnow 0 = .ok (.aload_n 0, 1) := by decide +kernel
theorem dX10_allKnow_1 : decode cX10_allKnow 1 = .ok (.iload_n 1, 1) := by decide +kernel
theorem dX10_allKnow_2 : decode cX10_allKnow 2 = .ok (.invokevirtual 205, 3) := by decide +kernel
theorem dX10_allKnow_5 : decode cX10_allKnow 5 = .ok (.ifCond .ne 6, 3) := by decide +kernel
theorem dX10_allKnow_8 : decode cX10_allKnow 8 = .ok (.ldc 78, 2) := by decide +kernel
theorem dX10_allKnow_10 : decode cX10_allKnow 10 = .ok (.ireturn, 1) := by decide +kernel
theorem dX10_allKnow_11 : decode cX10_allKnow 11 = .ok (.aload_n 0, 1) := by decide +kernel
theorem dX10_allKnow_12 : decode cX10_allKnow 12 = .ok (.invokevirtual 221, 3) := by decide +kernel
theorem dX10_allKnow_15 : decode cX10_allKnow 15 = .ok (.iconst 0, 1) := by decide +kernel
theorem dX10_allKnow_16 : decode cX10_allKnow 16 = .ok (.istore_n 2, 1) := by decide +kernel
theorem dX10_allKnow_17 : decode cX10_allKnow 17 = .ok (.iload_n 2, 1) := by decide +kernel
theorem dX10_allKnow_18 : decode cX10_allKnow 18 = .ok (.bipush 60, 2) := by decide +kernel
theorem dX10_allKnow_20 : decode cX10_allKnow 20 = .ok (.if_icmp .gt 35, 3) := by decide +kernel
theorem dX10_allKnow_23 : decode cX10_allKnow 23 = .ok (.aload_n 0, 1) := by decide +kernel
theorem dX10_allKnow_24 : decode cX10_allKnow 24 = .ok (.getfield 37, 3) := by decide +kernel
theorem dX10_allKnow_27 : decode cX10_allKnow 27 = .ok (.bipush 15, 2) := by decide +kernel
theorem dX10_allKnow_29 : decode cX10_allKnow 29 = .ok (.iload_n 1, 1) := by decide +kernel
theorem dX10_allKnow_30 : decode cX10_allKnow 30 = .ok (.iadd, 1) := by decide +kernel
theorem dX10_allKnow_31 : decode cX10_allKnow 31 = .ok (.iaload, 1) := by decide +kernel
theorem dX10_allKnow_32 : decode cX10_allKnow 32 = .ok (.aload_n 0, 1) := by decide +kernel
theorem dX10_allKnow_33 : decode cX10_allKnow 33 = .ok (.invokevirtual 176, 3) := by decide +kernel
theorem dX10_allKnow_36 : decode cX10_allKnow 36 = .ok (.if_icmp .ne 5, 3) := by decide +kernel
theorem dX10_allKnow_39 : decode cX10_allKnow 39 = .ok (.iload_n 2, 1) := by decide +kernel
theorem dX10_allKnow_40 : decode cX10_allKnow 40 = .ok (.ireturn, 1) := by decide +kernel
theorem dX10_allKnow_41 : decode cX10_allKnow 41 = .ok (.aload_n 0, 1) := by decide +kernel
theorem dX10_allKnow_42 : decode cX10_allKnow 42 = .ok (.aload_n 0, 1) := by decide +kernel
theorem dX10_allKnow_43 : decode cX10_allKnow 43 = .ok (.getfield 37, 3) := by decide +kernel
theorem dX10_allKnow_46 : decode cX10_allKnow 46 = .ok (.invokevirtual 201, 3) := by decide +kernel
theorem dX10_allKnow_49 : decode cX10_allKnow 49 = .ok (.iinc 2 1, 3) := by decide +kernel
theorem dX10_allKnow_52 : decode cX10_allKnow 52 = .ok (.goto (-35), 3) := by decide +kernel
theorem dX10_allKnow_55 : decode cX10_allKnow 55 = .ok (.ldc 133, 2) := by decide +kernel
theorem dX10_allKnow_57 : decode cX10_allKnow 57 = .ok (.ireturn, 1) := by decide +kernel
theorem dX10_when_0 : decode cX10_when 0 = .ok (.aload_n 0, 1) := by decide +kernel
theorem dX10_when_1 : decode cX10_when 1 = .ok (.iload_n 1, 1) := by decide +kernel
theorem dX10_when_2 : decode cX10_when 2 = .ok (.invokevirtual 205, 3) := by decide +kernel
theorem dX10_when_5 : decode cX10_when 5 = .ok (.ifCond .ne 6, 3) := by decide +kernel
theorem dX10_when_8 : decode cX10_when 8 = .ok (.ldc 78, 2) := by decide +kernel
theorem dX10_when_10 : decode cX10_when 10 = .ok (.ireturn, 1) := by decide +kernel
theorem dX10_when_11 : decode cX10_when 11 = .ok (.aload_n 0, 1) := by decide +kernel
theorem dX10_when_12 : decode cX10_when 12 = .ok (.getfield 34, 3) := by decide +kernel
theorem dX10_when_15 : decode cX10_when 15 = .ok (.iconst 4, 1) := by decide +kernel
theorem dX10_when_16 : decode cX10_when 16 = .ok (.iaload, 1) := by decide +kernel
theorem dX10_when_17 : decode cX10_when 17 = .ok (.iload_n 1, 1) := by decide +kernel
theorem dX10_when_18 : decode cX10_when 18 = .ok (.invokestatic 165, 3) := by decide +kernel
theorem dX10_when_21 : decode cX10_when 21 = .ok (.ifCond .eq 6, 3) := by decide +kernel
theorem dX10_when_24 : decode cX10_when 24 = .ok (.ldc 193, 2) := by decide +kernel
theorem dX10_when_26 : decode cX10_when 26 = .ok (.ireturn, 1) := by decide +kernel
theorem dX10_when_27 : decode cX10_when 27 = .ok (.aload_n 0, 1) := by decide +kernel
theorem dX10_when_28 : decode cX10_when 28 = .ok (.invokevirtual 221, 3) := by decide +kernel
theorem dX10_when_31 : decode cX10_when 31 = .ok (.iconst 0, 1) := by decide +kernel
theorem dX10_when_32 : decode cX10_when 32 = .ok (.istore_n 2, 1) := by decide +kernel
theorem dX10_when_33 : decode cX10_when 33 = .ok (.iload_n 2, 1) := by decide +kernel
theorem dX10_when_34 : decode cX10_when 34 = .ok (.bipush 60, 2) := by decide +kernel
theorem dX10_when_36 : decode cX10_when 36 = .ok (.if_icmp .gt 31, 3) := by decide +kernel
theorem dX10_when_39 : decode cX10_when 39 = .ok (.aload_n 0, 1) := by decide +kernel
theorem dX10_when_40 : decode cX10_when 40 = .ok (.aload_n 0, 1) := by decide +kernel
theorem dX10_when_41 : decode cX10_when 41 = .ok (.getfield 37, 3) := by decide +kernel
theorem dX10_when_44 : decode cX10_when 44 = .ok (.iload_n 1, 1) := by decide +kernel
theorem dX10_when_45 : decode cX10_when 45 = .ok (.invokevirtual 208, 3) := by decide +kernel
theorem dX10_when_48 : decode cX10_when 48 = .ok (.ifCond .eq 5, 3) := by decide +kernel
theorem dX10_when_51 : decode cX10_when 51 = .ok (.iload_n 2, 1) := by decide +kernel
theorem dX10_when_52 : decode cX10_when 52 = .ok (.ireturn, 1) := by decide +kernel
theorem dX10_when_53 : decode cX10_when 53 = .ok (.aload_n 0, 1) := by decide +kernel
theorem dX10_when_54 : decode cX10_when 54 = .ok (.aload_n 0, 1) := by decide +kernel
theorem dX10_when_55 : decode cX10_when 55 = .ok (.getfield 37, 3) := by decide +kernel
theorem dX10_when_58 : decode cX10_when 58 = .ok (.invokevirtual 201, 3) := by decide +kernel
theorem dX10_when_61 : decode cX10_when 61 = .ok (.iinc 2 1, 3) := by decide +kernel
theorem dX10_when_64 : decode cX10_when 64 = .ok (.goto (-31), 3) := by decide +kernel
theorem dX10_when_67 : decode cX10_when 67 = .ok (.ldc 133, 2) := by decide +kernel
theorem dX10_when_69 : decode cX10_when 69 = .ok (.ireturn, 1) := by decide +kernel
theorem dX10_saidAll_0 : decode cX10_saidAll 0 = .ok (.aload_n 0, 1) := by decide +kernel
theorem dX10_saidAll_1 : decode cX10_saidAll 1 = .ok (.invokevirtual 221, 3) := by decide +kernel
theorem dX10_saidAll_4 : decode cX10_saidAll 4 = .ok (.iconst 0, 1) := by decide +kernel
theorem dX10_saidAll_5 : decode cX10_saidAll 5 = .ok (.istore_n 2, 1) := by decide +kernel
theorem dX10_saidAll_6 : decode cX10_saidAll 6 = .ok (.iconst 1, 1) := by decide +kernel
theorem dX10_saidAll_7 : decode cX10_saidAll 7 = .ok (.istore_n 3, 1) := by decide +kernel
