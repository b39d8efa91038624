theorem fi_X0_15 : xfi RX0 15 0 0 := ⟨_, _, _, _, xc_X0, wF_X0_15, by decide⟩
theorem fi_X0_19 : xfi RX0 19 0 1 := ⟨_, _, _, _, xc_X0, wF_X0_19, by decide⟩
theorem fi_X0_23 : xfi RX0 23 0 3 := ⟨_, _, _, _, xc_X0, wF_X0_23, by decide⟩
theorem fp_X0_23 : xfp RX0 23 0 3 .int := ⟨_, _, _, _, xc_X0, wF_X0_23, by decide, rfl, rfl⟩
theorem fi_X0_41 : xfi RX0 41 8 1 := ⟨_, _, _, _, xc_X8, wF_X0_41, by decide⟩
theorem fi_X0_53 : xfi RX0 53 8 3 := ⟨_, _, _, _, xc_X8, wF_X0_53, by decide⟩
theorem fi_X0_56 : xfi RX0 56 6 7 := ⟨_, _, _, _, xc_X6, wF_X0_56, by decide⟩
theorem fp_X0_56 : xfp RX0 56 6 7 .int := ⟨_, _, _, _, xc_X6, wF_X0_56, by decide, rfl, rfl⟩
theorem fi_X0_9 : xfi RX0 9 0 2 := ⟨_, _, _, _, xc_X0, wF_X0_9, by decide⟩
theorem fi_X10_102 : xfi RX10 102 10 7 := ⟨_, _, _, _, xc_X10, wF_X10_102, by decide⟩
theorem fp_X10_102 : xfp RX10 102 10 7 .int := ⟨_, _, _, _, xc_X10, wF_X10_102, by decide, rfl, rfl⟩
theorem fi_X10_108 : xfi RX10 108 10 8 := ⟨_, _, _, _, xc_X10, wF_X10_108, by decide⟩
theorem fp_X10_108 : xfp RX10 108 10 8 .int := ⟨_, _, _, _, xc_X10, wF_X10_108, by decide, rfl, rfl⟩
theorem fi_X10_111 : xfi RX10 111 10 10 := ⟨_, _, _, _, xc_X10, wF_X10_111, by decide⟩
theorem fp_X10_111 : xfp RX10 111 10 10 .int := ⟨_, _, _, _, xc_X10, wF_X10_111, by decide, rfl, rfl⟩
theorem fi_X10_127 : xfi RX10 127 10 12 := ⟨_, _, _, _, xc_X10, wF_X10_127, by decide⟩
theorem fp_X10_127 : xfp RX10 127 10 12 .int := ⟨_, _, _, _, xc_X10, wF_X10_127, by decide, rfl, rfl⟩
theorem fi_X10_13 : xfi RX10 13 10 1 := ⟨_, _, _, _, xc_X10, wF_X10_13, by decide⟩
theorem fi_X10_147 : xfi RX10 147 10 11 := ⟨_, _, _, _, xc_X10, wF_X10_147, by decide⟩
theorem fp_X10_147 : xfp RX10 147 10 11 .int := ⟨_, _, _, _, xc_X10, wF_X10_147, by decide, rfl, rfl⟩
theorem fi_X10_151 : xfi RX10 151 10 16 := ⟨_, _, _, _, xc_X10, wF_X10_151, by decide⟩
theorem fp_X10_151 : xfp RX10 151 10 16 .boolean := ⟨_, _, _, _, xc_X10, wF_X10_151, by decide, rfl, rfl⟩
theorem fi_X10_155 : xfi RX10 155 10 20 := ⟨_, _, _, _, xc_X10, wF_X10_155, by decide⟩
theorem fp_X10_155 : xfp RX10 155 10 20 .int := ⟨_, _, _, _, xc_X10, wF_X10_155, by decide, rfl, rfl⟩
theorem fi_X10_16 : xfi RX10 16 10 2 := ⟨_, _, _, _, xc_X10, wF_X10_16, by decide⟩
theorem fi_X10_19 : xfi RX10 19 10 5 := ⟨_, _, _, _, xc_X10, wF_X10_19, by decide⟩
theorem fi_X10_190 : xfi RX10 190 10 21 := ⟨_, _, _, _, xc_X10, wF_X10_190, by decide⟩
theorem fp_X10_190 : xfp RX10 190 10 21 .int := ⟨_, _, _, _, xc_X10, wF_X10_190, by decide, rfl, rfl⟩
theorem fi_X10_22 : xfi RX10 22 10 13 := ⟨_, _, _, _, xc_X10, wF_X10_22, by decide⟩
theorem fi_X10_25 : xfi RX10 25 10 14 := ⟨_, _, _, _, xc_X10, wF_X10_25, by decide⟩
theorem fi_X10_270 : xfi RX10 270 10 29 := ⟨_, _, _, _, xc_X10, wF_X10_270, by decide⟩
theorem fp_X10_270 : xfp RX10 270 10 29 .int := ⟨_, _, _, _, xc_X10, wF_X10_270, by decide, rfl, rfl⟩
theorem fi_X10_28 : xfi RX10 28 10 15 := ⟨_, _, _, _, xc_X10, wF_X10_28, by decide⟩
theorem fi_X10_31 : xfi RX10 31 10 17 := ⟨_, _, _, _, xc_X10, wF_X10_31, by decide⟩
theorem fi_X10_34 : xfi RX10 34 10 18 := ⟨_, _, _, _, xc_X10, wF_X10_34, by decide⟩
theorem fi_X10_37 : xfi RX10 37 10 19 := ⟨_, _, _, _, xc_X10, wF_X10_37, by decide⟩
theorem fi_X10_40 : xfi RX10 40 10 22 := ⟨_, _, _, _, xc_X10, wF_X10_40, by decide⟩
theorem fi_X10_43 : xfi RX10 43 10 23 := ⟨_, _, _, _, xc_X10, wF_X10_43, by decide⟩
theorem fi_X10_46 : xfi RX10 46 10 24 := ⟨_, _, _, _, xc_X10, wF_X10_46, by decide⟩
theorem fi_X10_49 : xfi RX10 49 10 25 := ⟨_, _, _, _, xc_X10, wF_X10_49, by decide⟩
theorem fi_X10_52 : xfi RX10 52 10 26 := ⟨_, _, _, _, xc_X10, wF_X10_52, by decide⟩
theorem fi_X10_56 : xfi RX10 56 10 27 := ⟨_, _, _, _, xc_X10, wF_X10_56, by decide⟩
theorem fi_X10_59 : xfi RX10 59 10 28 := ⟨_, _, _, _, xc_X10, wF_X10_59, by decide⟩
theorem fi_X10_62 : xfi RX10 62 10 30 := ⟨_, _, _, _, xc_X10, wF_X10_62, by decide⟩
theorem fi_X10_65 : xfi RX10 65 10 3 := ⟨_, _, _, _, xc_X10, wF_X10_65, by decide⟩
theorem fp_X10_65 : xfp RX10 65 10 3 .int := ⟨_, _, _, _, xc_X10, wF_X10_65, by decide, rfl, rfl⟩
theorem fi_X10_7 : xfi RX10 7 10 0 := ⟨_, _, _, _, xc_X10, wF_X10_7, by decide⟩
theorem fi_X10_89 : xfi RX10 89 10 4 := ⟨_, _, _, _, xc_X10, wF_X10_89, by decide⟩
theorem fp_X10_89 : xfp RX10 89 10 4 .int := ⟨_, _, _, _, xc_X10, wF_X10_89, by decide, rfl, rfl⟩
theorem fi_X10_93 : xfi RX10 93 10 6 := ⟨_, _, _, _, xc_X10, wF_X10_93, by decide⟩
theorem fp_X10_93 : xfp RX10 93 10 6 .int := ⟨_, _, _, _, xc_X10, wF_X10_93, by decide, rfl, rfl⟩
theorem fi_X10_96 : xfi RX10 96 10 9 := ⟨_, _, _, _, xc_X10, wF_X10_96, by decide⟩
theorem fp_X10_96 : xfp RX10 96 10 9 .int := ⟨_, _, _, _, xc_X10, wF_X10_96, by decide, rfl, rfl⟩
theorem fi_X1_10 : xfi RX1 10 1 0 := ⟨_, _, _, _, xc_X1, wF_X1_10, by decide⟩
theorem fi_X1_21 : xfi RX1 21 1 1 := ⟨_, _, _, _, xc_X1, wF_X1_21, by decide⟩
theorem fi_X2_11 : xfi RX2 11 2 1 := ⟨_, _, _, _, xc_X2, wF_X2_11, by decide⟩
theorem fi_X2_17 : xfi RX2 17 2 2 := ⟨_, _, _, _, xc_X2, wF_X2_17, by decide⟩
theorem fi_X2_21 : xfi RX2 21 2 3 := ⟨_, _, _, _, xc_X2, wF_X2_21, by decide⟩
theorem fi_X2_24 : xfi RX2 24 2 0 := ⟨_, _, _, _, xc_X2, wF_X2_24, by decide⟩
theorem fi_X2_32 : xfi RX2 32 2 5 := ⟨_, _, _, _, xc_X2, wF_X2_32, by decide⟩
theorem fp_X2_32 : xfp RX2 32 2 5 .int := ⟨_, _, _, _, xc_X2, wF_X2_32, by decide, rfl, rfl⟩
theorem fi_X2_36 : xfi RX2 36 2 4 := ⟨_, _, _, _, xc_X2, wF_X2_36, by decide⟩
theorem fp_X2_36 : xfp RX2 36 2 4 .int := ⟨_, _, _, _, xc_X2, wF_X2_36, by decide, rfl, rfl⟩
theorem fi_X2_43 : xfi RX2 43 6 4 := ⟨_, _, _, _, xc_X6, wF_X2_43, by decide⟩
theorem fp_X2_43 : xfp RX2 43 6 4 .int := ⟨_, _, _, _, xc_X6, wF_X2_43, by decide, rfl, rfl⟩
theorem fi_X2_50 : xfi RX2 50 6 8 := ⟨_, _, _, _, xc_X6, wF_X2_50, by decide⟩
theorem fp_X2_50 : xfp RX2 50 6 8 .int := ⟨_, _, _, _, xc_X6, wF_X2_50, by decide, rfl, rfl⟩
theorem fi_X2_53 : xfi RX2 53 8 7 := ⟨_, _, _, _, xc_X8, wF_X2_53, by decide⟩
theorem fp_X2_53 : xfp RX2 53 8 7 .int := ⟨_, _, _, _, xc_X8, wF_X2_53, by decide, rfl, rfl⟩
theorem fi_X3_11 : xfi RX3 11 3 0 := ⟨_, _, _, _, xc_X3, wF_X3_11, by decide⟩
theorem fi_X3_20 : xfi RX3 20 3 1 := ⟨_, _, _, _, xc_X3, wF_X3_20, by decide⟩
theorem fp_X3_20 : xfp RX3 20 3 1 .int := ⟨_, _, _, _, xc_X3, wF_X3_20, by decide, rfl, rfl⟩
theorem fi_X3_28 : xfi RX3 28 3 2 := ⟨_, _, _, _, xc_X3, wF_X3_28, by decide⟩
theorem fp_X3_28 : xfp RX3 28 3 2 .int := ⟨_, _, _, _, xc_X3, wF_X3_28, by decide, rfl, rfl⟩
theorem fi_X4_102 : xfi RX4 102 8 1 := ⟨_, _, _, _, xc_X8, wF_X4_102, by decide⟩
theorem fi_X4_105 : xfi RX4 105 8 2 := ⟨_, _, _, _, xc_X8, wF_X4_105, by decide⟩
theorem fi_X4_108 : xfi RX4 108 8 3 := ⟨_, _, _, _, xc_X8, wF_X4_108, by decide⟩
theorem fi_X4_111 : xfi RX4 111 8 4 := ⟨_, _, _, _, xc_X8, wF_X4_111, by decide⟩
theorem fi_X4_114 : xfi RX4 114 4 9 := ⟨_, _, _, _, xc_X4, wF_X4_114, by decide⟩
theorem fp_X4_114 : xfp RX4 114 4 9 .int := ⟨_, _, _, _, xc_X4, wF_X4_114, by decide, rfl, rfl⟩
theorem fi_X4_117 : xfi RX4 117 4 4 := ⟨_, _, _, _, xc_X4, wF_X4_117, by decide⟩
theorem fp_X4_117 : xfp RX4 117 4 4 .int := ⟨_, _, _, _, xc_X4, wF_X4_117, by decide, rfl, rfl⟩
theorem fi_X4_120 : xfi RX4 120 4 5 := ⟨_, _, _, _, xc_X4, wF_X4_120, by decide⟩
theorem fp_X4_120 : xfp RX4 120 4 5 .int := ⟨_, _, _, _, xc_X4, wF_X4_120, by decide, rfl, rfl⟩
theorem fi_X4_18 : xfi RX4 18 4 1 := ⟨_, _, _, _, xc_X4, wF_X4_18, by decide⟩
theorem fi_X4_27 : xfi RX4 27 4 2 := ⟨_, _, _, _, xc_X4, wF_X4_27, by decide⟩
theorem fi_X4_31 : xfi RX4 31 4 3 := ⟨_, _, _, _, xc_X4, wF_X4_31, by decide⟩
theorem fp_X4_31 : xfp RX4 31 4 3 .int := ⟨_, _, _, _, xc_X4, wF_X4_31, by decide, rfl, rfl⟩
theorem fi_X4_35 : xfi RX4 35 4 6 := ⟨_, _, _, _, xc_X4, wF_X4_35, by decide⟩
theorem fp_X4_35 : xfp RX4 35 4 6 .int := ⟨_, _, _, _, xc_X4, wF_X4_35, by decide, rfl, rfl⟩
theorem fi_X4_38 : xfi RX4 38 4 7 := ⟨_, _, _, _, xc_X4, wF_X4_38, by decide⟩
theorem fp_X4_38 : xfp RX4 38 4 7 .int := ⟨_, _, _, _, xc_X4, wF_X4_38, by decide, rfl, rfl⟩
theorem fi_X4_41 : xfi RX4 41 8 6 := ⟨_, _, _, _, xc_X8, wF_X4_41, by decide⟩
theorem fp_X4_41 : xfp RX4 41 8 6 .int := ⟨_, _, _, _, xc_X8, wF_X4_41, by decide, rfl, rfl⟩
theorem fi_X4_44 : xfi RX4 44 8 7 := ⟨_, _, _, _, xc_X8, wF_X4_44, by decide⟩
theorem fp_X4_44 : xfp RX4 44 8 7 .int := ⟨_, _, _, _, xc_X8, wF_X4_44, by decide, rfl, rfl⟩
theorem fi_X4_68 : xfi RX4 68 4 10 := ⟨_, _, _, _, xc_X4, wF_X4_68, by decide⟩
theorem fp_X4_68 : xfp RX4 68 4 10 .int := ⟨_, _, _, _, xc_X4, wF_X4_68, by decide, rfl, rfl⟩
theorem fi_X4_71 : xfi RX4 71 8 5 := ⟨_, _, _, _, xc_X8, wF_X4_71, by decide⟩
theorem fp_X4_71 : xfp RX4 71 8 5 .int := ⟨_, _, _, _, xc_X8, wF_X4_71, by decide, rfl, rfl⟩
theorem fi_X4_74 : xfi RX4 74 6 5 := ⟨_, _, _, _, xc_X6, wF_X4_74, by decide⟩
theorem fp_X4_74 : xfp RX4 74 6 5 .int := ⟨_, _, _, _, xc_X6, wF_X4_74, by decide, rfl, rfl⟩
theorem fi_X4_77 : xfi RX4 77 6 7 := ⟨_, _, _, _, xc_X6, wF_X4_77, by decide⟩
theorem fp_X4_77 : xfp RX4 77 6 7 .int := ⟨_, _, _, _, xc_X6, wF_X4_77, by decide, rfl, rfl⟩
theorem fi_X4_80 : xfi RX4 80 4 8 := ⟨_, _, _, _, xc_X4, wF_X4_80, by decide⟩
theorem fp_X4_80 : xfp RX4 80 4 8 .int := ⟨_, _, _, _, xc_X4, wF_X4_80, by decide, rfl, rfl⟩
theorem fi_X4_89 : xfi RX4 89 6 1 := ⟨_, _, _, _, xc_X6, wF_X4_89, by decide⟩
theorem fi_X4_9 : xfi RX4 9 4 0 := ⟨_, _, _, _, xc_X4, wF_X4_9, by decide⟩
theorem fi_X4_92 : xfi RX4 92 8 0 := ⟨_, _, _, _, xc_X8, wF_X4_92, by decide⟩
theorem fi_X5_15 : xfi RX5 15 5 1 := ⟨_, _, _, _, xc_X5, wF_X5_15, by decide⟩
theorem fp_X5_15 : xfp RX5 15 5 1 .boolean := ⟨_, _, _, _, xc_X5, wF_X5_15, by decide, rfl, rfl⟩
theorem fi_X5_19 : xfi RX5 19 5 2 := ⟨_, _, _, _, xc_X5, wF_X5_19, by decide⟩
theorem fp_X5_19 : xfp RX5 19 5 2 .int := ⟨_, _, _, _, xc_X5, wF_X5_19, by decide, rfl, rfl⟩
theorem fi_X5_23 : xfi RX5 23 5 3 := ⟨_, _, _, _, xc_X5, wF_X5_23, by decide⟩
theorem fp_X5_23 : xfp RX5 23 5 3 .int := ⟨_, _, _, _, xc_X5, wF_X5_23, by decide, rfl, rfl⟩
theorem fi_X5_9 : xfi RX5 9 5 0 := ⟨_, _, _, _, xc_X5, wF_X5_9, by decide⟩
theorem fi_X6_112 : xfi RX6 112 8 4 := ⟨_, _, _, _, xc_X8, wF_X6_112, by decide⟩
theorem fi_X6_15 : xfi RX6 15 6 2 := ⟨_, _, _, _, xc_X6, wF_X6_15, by decide⟩
theorem fi_X6_18 : xfi RX6 18 6 3 := ⟨_, _, _, _, xc_X6, wF_X6_18, by decide⟩
theorem fi_X6_21 : xfi RX6 21 6 0 := ⟨_, _, _, _, xc_X6, wF_X6_21, by decide⟩
theorem fi_X6_25 : xfi RX6 25 6 4 := ⟨_, _, _, _, xc_X6, wF_X6_25, by decide⟩
theorem fp_X6_25 : xfp RX6 25 6 4 .int := ⟨_, _, _, _, xc_X6, wF_X6_25, by decide, rfl, rfl⟩
theorem fi_X6_29 : xfi RX6 29 6 5 := ⟨_, _, _, _, xc_X6, wF_X6_29, by decide⟩
theorem fp_X6_29 : xfp RX6 29 6 5 .int := ⟨_, _, _, _, xc_X6, wF_X6_29, by decide, rfl, rfl⟩
theorem fi_X6_32 : xfi RX6 32 6 6 := ⟨_, _, _, _, xc_X6, wF_X6_32, by decide⟩
theorem fp_X6_32 : xfp RX6 32 6 6 .int := ⟨_, _, _, _, xc_X6, wF_X6_32, by decide, rfl, rfl⟩
theorem fi_X6_35 : xfi RX6 35 6 7 := ⟨_, _, _, _, xc_X6, wF_X6_35, by decide⟩
theorem fp_X6_35 : xfp RX6 35 6 7 .int := ⟨_, _, _, _, xc_X6, wF_X6_35, by decide, rfl, rfl⟩
theorem fi_X6_38 : xfi RX6 38 6 8 := ⟨_, _, _, _, xc_X6, wF_X6_38, by decide⟩
theorem fp_X6_38 : xfp RX6 38 6 8 .int := ⟨_, _, _, _, xc_X6, wF_X6_38, by decide, rfl, rfl⟩
theorem fi_X6_53 : xfi RX6 53 8 2 := ⟨_, _, _, _, xc_X8, wF_X6_53, by decide⟩
theorem fi_X6_62 : xfi RX6 62 8 1 := ⟨_, _, _, _, xc_X8, wF_X6_62, by decide⟩
theorem fi_X6_65 : xfi RX6 65 8 3 := ⟨_, _, _, _, xc_X8, wF_X6_65, by decide⟩
theorem fi_X6_82 : xfi RX6 82 8 0 := ⟨_, _, _, _, xc_X8, wF_X6_82, by decide⟩
theorem fi_X6_88 : xfi RX6 88 8 5 := ⟨_, _, _, _, xc_X8, wF_X6_88, by decide⟩
theorem fp_X6_88 : xfp RX6 88 8 5 .int := ⟨_, _, _, _, xc_X8, wF_X6_88, by decide, rfl, rfl⟩
theorem fi_X6_9 : xfi RX6 9 6 1 := ⟨_, _, _, _, xc_X6, wF_X6_9, by decide⟩
theorem fi_X6_95 : xfi RX6 95 8 7 := ⟨_, _, _, _, xc_X8, wF_X6_95, by decide⟩
theorem fp_X6_95 : xfp RX6 95 8 7 .int := ⟨_, _, _, _, xc_X8, wF_X6_95, by decide, rfl, rfl⟩
theorem fi_X6_98 : xfi RX6 98 8 6 := ⟨_, _, _, _, xc_X8, wF_X6_98, by decide⟩
theorem fp_X6_98 : xfp RX6 98 8 6 .int := ⟨_, _, _, _, xc_X8, wF_X6_98, by decide, rfl, rfl⟩
theorem fi_X7_15 : xfi RX7 15 7 1 := ⟨_, _, _, _, xc_X7, wF_X7_15, by decide⟩
theorem fp_X7_15 : xfp RX7 15 7 1 .int := ⟨_, _, _, _, xc_X7, wF_X7_15, by decide, rfl, rfl⟩
theorem fi_X7_9 : xfi RX7 9 7 0 := ⟨_, _, _, _, xc_X7, wF_X7_9, by decide⟩
theorem fi_X8_15 : xfi RX8 15 8 1 := ⟨_, _, _, _, xc_X8, wF_X8_15, by decide⟩
theorem fi_X8_18 : xfi RX8 18 8 2 := ⟨_, _, _, _, xc_X8, wF_X8_18, by decide⟩
theorem fi_X8_21 : xfi RX8 21 8 3 := ⟨_, _, _, _, xc_X8, wF_X8_21, by decide⟩
theorem fi_X8_24 : xfi RX8 24 8 4 := ⟨_, _, _, _, xc_X8, wF_X8_24, by decide⟩
theorem fi_X8_27 : xfi RX8 27 8 5 := ⟨_, _, _, _, xc_X8, wF_X8_27, by decide⟩
theorem fp_X8_27 : xfp RX8 27 8 5 .int := ⟨_, _, _, _, xc_X8, wF_X8_27, by decide, rfl, rfl⟩
theorem fi_X8_31 : xfi RX8 31 8 6 := ⟨_, _, _, _, xc_X8, wF_X8_31, by decide⟩
theorem fp_X8_31 : xfp RX8 31 8 6 .int := ⟨_, _, _, _, xc_X8, wF_X8_31, by decide, rfl, rfl⟩
theorem fi_X8_34 : xfi RX8 34 8 7 := ⟨_, _, _, _, xc_X8, wF_X8_34, by decide⟩
theorem fp_X8_34 : xfp RX8 34 8 7 .int := ⟨_, _, _, _, xc_X8, wF_X8_34, by decide, rfl, rfl⟩
theorem fi_X8_9 : xfi RX8 9 8 0 := ⟨_, _, _, _, xc_X8, wF_X8_9, by decide⟩
theorem fi_X9_107 : xfi RX9 107 5 1 := ⟨_, _, _, _, xc_X5, wF_X9_107, by decide⟩
theorem fp_X9_107 : xfp RX9 107 5 1 .boolean := ⟨_, _, _, _, xc_X5, wF_X9_107, by decide, rfl, rfl⟩
theorem fi_X9_11 : xfi RX9 11 9 0 := ⟨_, _, _, _, xc_X9, wF_X9_11, by decide⟩
theorem fi_X9_111 : xfi RX9 111 5 2 := ⟨_, _, _, _, xc_X5, wF_X9_111, by decide⟩
theorem fp_X9_111 : xfp RX9 111 5 2 .int := ⟨_, _, _, _, xc_X5, wF_X9_111, by decide, rfl, rfl⟩
theorem fi_X9_119 : xfi RX9 119 5 0 := ⟨_, _, _, _, xc_X5, wF_X9_119, by decide⟩
theorem fi_X9_129 : xfi RX9 129 5 3 := ⟨_, _, _, _, xc_X5, wF_X9_129, by decide⟩
theorem fp_X9_129 : xfp RX9 129 5 3 .int := ⟨_, _, _, _, xc_X5, wF_X9_129, by decide, rfl, rfl⟩
theorem fi_X9_135 : xfi RX9 135 4 3 := ⟨_, _, _, _, xc_X4, wF_X9_135, by decide⟩
theorem fp_X9_135 : xfp RX9 135 4 3 .int := ⟨_, _, _, _, xc_X4, wF_X9_135, by decide, rfl, rfl⟩
theorem fi_X9_144 : xfi RX9 144 4 5 := ⟨_, _, _, _, xc_X4, wF_X9_144, by decide⟩
theorem fp_X9_144 : xfp RX9 144 4 5 .int := ⟨_, _, _, _, xc_X4, wF_X9_144, by decide, rfl, rfl⟩
theorem fi_X9_147 : xfi RX9 147 4 1 := ⟨_, _, _, _, xc_X4, wF_X9_147, by decide⟩
theorem fi_X9_151 : xfi RX9 151 4 2 := ⟨_, _, _, _, xc_X4, wF_X9_151, by decide⟩
theorem fi_X9_158 : xfi RX9 158 8 7 := ⟨_, _, _, _, xc_X8, wF_X9_158, by decide⟩
theorem fp_X9_158 : xfp RX9 158 8 7 .int := ⟨_, _, _, _, xc_X8, wF_X9_158, by decide, rfl, rfl⟩
theorem fi_X9_161 : xfi RX9 161 4 4 := ⟨_, _, _, _, xc_X4, wF_X9_161, by decide⟩
theorem fp_X9_161 : xfp RX9 161 4 4 .int := ⟨_, _, _, _, xc_X4, wF_X9_161, by decide, rfl, rfl⟩
theorem fi_X9_168 : xfi RX9 168 3 2 := ⟨_, _, _, _, xc_X3, wF_X9_168, by decide⟩
theorem fp_X9_168 : xfp RX9 168 3 2 .int := ⟨_, _, _, _, xc_X3, wF_X9_168, by decide, rfl, rfl⟩
theorem fi_X9_17 : xfi RX9 17 9 1 := ⟨_, _, _, _, xc_X9, wF_X9_17, by decide⟩
theorem fi_X9_175 : xfi RX9 175 6 4 := ⟨_, _, _, _, xc_X6, wF_X9_175, by decide⟩
theorem fp_X9_175 : xfp RX9 175 6 4 .int := ⟨_, _, _, _, xc_X6, wF_X9_175, by decide, rfl, rfl⟩
theorem fi_X9_185 : xfi RX9 185 6 6 := ⟨_, _, _, _, xc_X6, wF_X9_185, by decide⟩
theorem fp_X9_185 : xfp RX9 185 6 6 .int := ⟨_, _, _, _, xc_X6, wF_X9_185, by decide, rfl, rfl⟩
theorem fi_X9_206 : xfi RX9 206 6 5 := ⟨_, _, _, _, xc_X6, wF_X9_206, by decide⟩
theorem fp_X9_206 : xfp RX9 206 6 5 .int := ⟨_, _, _, _, xc_X6, wF_X9_206, by decide, rfl, rfl⟩
theorem fi_X9_209 : xfi RX9 209 6 7 := ⟨_, _, _, _, xc_X6, wF_X9_209, by decide⟩
theorem fp_X9_209 : xfp RX9 209 6 7 .int := ⟨_, _, _, _, xc_X6, wF_X9_209, by decide, rfl, rfl⟩
theorem fi_X9_212 : xfi RX9 212 8 2 := ⟨_, _, _, _, xc_X8, wF_X9_212, by decide⟩
theorem fi_X9_215 : xfi RX9 215 8 3 := ⟨_, _, _, _, xc_X8, wF_X9_215, by decide⟩
theorem fi_X9_218 : xfi RX9 218 8 4 := ⟨_, _, _, _, xc_X8, wF_X9_218, by decide⟩
theorem fi_X9_228 : xfi RX9 228 6 3 := ⟨_, _, _, _, xc_X6, wF_X9_228, by decide⟩
theorem fi_X9_237 : xfi RX9 237 6 1 := ⟨_, _, _, _, xc_X6, wF_X9_237, by decide⟩
theorem fi_X9_24 : xfi RX9 24 9 2 := ⟨_, _, _, _, xc_X9, wF_X9_24, by decide⟩
theorem fi_X9_240 : xfi RX9 240 8 0 := ⟨_, _, _, _, xc_X8, wF_X9_240, by decide⟩
theorem fi_X9_243 : xfi RX9 243 6 2 := ⟨_, _, _, _, xc_X6, wF_X9_243, by decide⟩
theorem fi_X9_252 : xfi RX9 252 8 5 := ⟨_, _, _, _, xc_X8, wF_X9_252, by decide⟩
theorem fp_X9_252 : xfp RX9 252 8 5 .int := ⟨_, _, _, _, xc_X8, wF_X9_252, by decide, rfl, rfl⟩
theorem fi_X9_255 : xfi RX9 255 6 8 := ⟨_, _, _, _, xc_X6, wF_X9_255, by decide⟩
theorem fp_X9_255 : xfp RX9 255 6 8 .int := ⟨_, _, _, _, xc_X6, wF_X9_255, by decide, rfl, rfl⟩
theorem fi_X9_291 : xfi RX9 291 2 5 := ⟨_, _, _, _, xc_X2, wF_X9_291, by decide⟩
theorem fp_X9_291 : xfp RX9 291 2 5 .int := ⟨_, _, _, _, xc_X2, wF_X9_291, by decide, rfl, rfl⟩
theorem fi_X9_315 : xfi RX9 315 8 6 := ⟨_, _, _, _, xc_X8, wF_X9_315, by decide⟩
theorem fp_X9_315 : xfp RX9 315 8 6 .int := ⟨_, _, _, _, xc_X8, wF_X9_315, by decide, rfl, rfl⟩
theorem fi_X9_33 : xfi RX9 33 9 3 := ⟨_, _, _, _, xc_X9, wF_X9_33, by decide⟩
theorem fi_X9_340 : xfi RX9 340 1 0 := ⟨_, _, _, _, xc_X1, wF_X9_340, by decide⟩
theorem fi_X9_341 : xfi RX9 341 1 1 := ⟨_, _, _, _, xc_X1, wF_X9_341, by decide⟩
theorem fi_X9_342 : xfi RX9 342 1 2 := ⟨_, _, _, _, xc_X1, wF_X9_342, by decide⟩
theorem fp_X9_342 : xfp RX9 342 1 2 .boolean := ⟨_, _, _, _, xc_X1, wF_X9_342, by decide, rfl, rfl⟩
theorem fi_X9_344 : xfi RX9 344 8 1 := ⟨_, _, _, _, xc_X8, wF_X9_344, by decide⟩
theorem fi_X9_353 : xfi RX9 353 0 3 := ⟨_, _, _, _, xc_X0, wF_X9_353, by decide⟩
theorem fp_X9_353 : xfp RX9 353 0 3 .int := ⟨_, _, _, _, xc_X0, wF_X9_353, by decide, rfl, rfl⟩
theorem fi_X9_356 : xfi RX9 356 0 2 := ⟨_, _, _, _, xc_X0, wF_X9_356, by decide⟩
theorem fi_X9_362 : xfi RX9 362 9 10 := ⟨_, _, _, _, xc_X9, wF_X9_362, by decide⟩
theorem fp_X9_362 : xfp RX9 362 9 10 .int := ⟨_, _, _, _, xc_X9, wF_X9_362, by decide, rfl, rfl⟩
theorem fi_X9_37 : xfi RX9 37 9 4 := ⟨_, _, _, _, xc_X9, wF_X9_37, by decide⟩
theorem fi_X9_43 : xfi RX9 43 9 5 := ⟨_, _, _, _, xc_X9, wF_X9_43, by decide⟩
theorem fi_X9_50 : xfi RX9 50 9 6 := ⟨_, _, _, _, xc_X9, wF_X9_50, by decide⟩
theorem fi_X9_57 : xfi RX9 57 9 7 := ⟨_, _, _, _, xc_X9, wF_X9_57, by decide⟩
theorem fi_X9_64 : xfi RX9 64 9 8 := ⟨_, _, _, _, xc_X9, wF_X9_64, by decide⟩
theorem fi_X9_73 : xfi RX9 73 9 9 := ⟨_, _, _, _, xc_X9, wF_X9_73, by decide⟩
section XT
variable {E : xE} {y : xM} {d : Nat} {r : Option Value} {M M' : xMem} {pc : Nat} {ls : List (Option Value)} {rest : List Value} {v : Value}
theorem s_callV0r {z : xM} {nL d' idx k ci : Nat} {l : List (Option Nat)} {M1 : xMem} {q : vw_C} (hM : InR M) (hK : Ct E z nL d' (xr E k :: []) M (some v) M1) (cw : xcv z nL 0) (hw : Cond.methodLink y.1.cls idx z.1 ∈ gT) (hs : shp k = (0, ci, l)) (hcl : vwCl[ci]? = some q) (hr : q.1 = z.1.cls) (hrm : (rest.map fun v => v.category).sum ≤ 8) (hdp : d' + 1 ≤ d) (hd : decode y.2.1 pc = .ok (.invokevirtual idx, 3))
    (kk : InR M1 → VS E y d r M' (pc + 3) ls (v :: rest) M1) : VS E y d r M' pc ls (xr E k :: rest) M :=
  s_callV (As := []) hM hK cw hw rfl rfl hs hcl hr hrm hdp hd kk
theorem s_callV0v {z : xM} {nL d' idx k ci : Nat} {l : List (Option Nat)} {M1 : xMem} {q : vw_C} (hM : InR M) (hK : Ct E z nL d' (xr E k :: []) M none M1) (cw : xcv z nL 0) (hw : Cond.methodLink y.1.cls idx z.1 ∈ gT) (hs : shp k = (0, ci, l)) (hcl : vwCl[ci]? = some q) (hr : q.1 = z.1.cls) (hrm : (rest.map fun v => v.category).sum ≤ 8) (hdp : d' + 1 ≤ d) (hd : decode y.2.1 pc = .ok (.invokevirtual idx, 3))
    (kk : InR M1 → VS E y d r M' (pc + 3) ls rest M1) : VS E y d r M' pc ls (xr E k :: rest) M :=
  s_callV (As := []) hM hK cw hw rfl rfl hs hcl hr hrm hdp hd kk
theorem s_callV1r {a1 : Value} {z : xM} {nL d' idx k ci : Nat} {l : List (Option Nat)} {M1 : xMem} {q : vw_C} (hM : InR M) (hK : Ct E z nL d' (xr E k :: [a1]) M (some v) M1) (cw : xcv z nL 1) (hw : Cond.methodLink y.1.cls idx z.1 ∈ gT) (hs : shp k = (0, ci, l)) (hcl : vwCl[ci]? = some q) (hr : q.1 = z.1.cls) (hrm : (rest.map fun v => v.category).sum ≤ 8) (hdp : d' + 1 ≤ d) (hd : decode y.2.1 pc = .ok (.invokevirtual idx, 3))
    (kk : InR M1 → VS E y d r M' (pc + 3) ls (v :: rest) M1) : VS E y d r M' pc ls (a1 :: xr E k :: rest) M :=
  s_callV (As := [a1]) hM hK cw hw rfl rfl hs hcl hr hrm hdp hd kk
theorem s_callS1r {a1 : Value} {z : xM} {nL d' idx : Nat} {M1 : xMem} (hM : InR M) (hK : Ct E z nL d' [a1] M (some v) M1) (cw : xcs z nL 1) (hw : Cond.methodLink y.1.cls idx z.1 ∈ gT) (hrm : (rest.map fun v => v.category).sum ≤ 8) (hdp : d' + 1 ≤ d) (hd : decode y.2.1 pc = .ok (.invokestatic idx, 3))
    (kk : InR M1 → VS E y d r M' (pc + 3) ls (v :: rest) M1) : VS E y d r M' pc ls (a1 :: rest) M :=
  s_callS (As := [a1]) hM hK cw hw rfl rfl hrm hdp hd kk
theorem s_callV1v {a1 : Value} {z : xM} {nL d' idx k ci : Nat} {l : List (Option Nat)} {M1 : xMem} {q : vw_C} (hM : InR M) (hK : Ct E z nL d' (xr E k :: [a1]) M none M1) (cw : xcv z nL 1) (hw : Cond.methodLink y.1.cls idx z.1 ∈ gT) (hs : shp k = (0, ci, l)) (hcl : vwCl[ci]? = some q) (hr : q.1 = z.1.cls) (hrm : (rest.map fun v => v.category).sum ≤ 8) (hdp : d' + 1 ≤ d) (hd : decode y.2.1 pc = .ok (.invokevirtual idx, 3))
    (kk : InR M1 → VS E y d r M' (pc + 3) ls rest M1) : VS E y d r M' pc ls (a1 :: xr E k :: rest) M :=
  s_callV (As := [a1]) hM hK cw hw rfl rfl hs hcl hr hrm hdp hd kk
theorem s_callS1v {a1 : Value} {z : xM} {nL d' idx : Nat} {M1 : xMem} (hM : InR M) (hK : Ct E z nL d' [a1] M none M1) (cw : xcs z nL 1) (hw : Cond.methodLink y.1.cls idx z.1 ∈ gT) (hrm : (rest.map fun v => v.category).sum ≤ 8) (hdp : d' + 1 ≤ d) (hd : decode y.2.1 pc = .ok (.invokestatic idx, 3))
    (kk : InR M1 → VS E y d r M' (pc + 3) ls rest M1) : VS E y d r M' pc ls (a1 :: rest) M :=
  s_callS (As := [a1]) hM hK cw hw rfl rfl hrm hdp hd kk
theorem s_callV2r {a1 a2 : Value} {z : xM} {nL d' idx k ci : Nat} {l : List (Option Nat)} {M1 : xMem} {q : vw_C} (hM : InR M) (hK : Ct E z nL d' (xr E k :: [a1, a2]) M (some v) M1) (cw : xcv z nL 2) (hw : Cond.methodLink y.1.cls idx z.1 ∈ gT) (hs : shp k = (0, ci, l)) (hcl : vwCl[ci]? = some q) (hr : q.1 = z.1.cls) (hrm : (rest.map fun v => v.category).sum ≤ 8) (hdp : d' + 1 ≤ d) (hd : decode y.2.1 pc = .ok (.invokevirtual idx, 3))
    (kk : InR M1 → VS E y d r M' (pc + 3) ls (v :: rest) M1) : VS E y d r M' pc ls (a2 :: a1 :: xr E k :: rest) M :=
  s_callV (As := [a1, a2]) hM hK cw hw rfl rfl hs hcl hr hrm hdp hd kk
theorem s_callS2r {a1 a2 : Value} {z : xM} {nL d' idx : Nat} {M1 : xMem} (hM : InR M) (hK : Ct E z nL d' [a1, a2] M (some v) M1) (cw : xcs z nL 2) (hw : Cond.methodLink y.1.cls idx z.1 ∈ gT) (hrm : (rest.map fun v => v.category).sum ≤ 8) (hdp : d' + 1 ≤ d) (hd : decode y.2.1 pc = .ok (.invokestatic idx, 3))
    (kk : InR M1 → VS E y d r M' (pc + 3) ls (v :: rest) M1) : VS E y d r M' pc ls (a2 :: a1 :: rest) M :=
  s_callS (As := [a1, a2]) hM hK cw hw rfl rfl hrm hdp hd kk
theorem s_callV2v {a1 a2 : Value} {z : xM} {nL d' idx k ci : Nat} {l : List (Option Nat)} {M1 : xMem} {q : vw_C} (hM : InR M) (hK : Ct E z nL d' (xr E k :: [a1, a2]) M none M1) (cw : xcv z nL 2) (hw : Cond.methodLink y.1.cls idx z.1 ∈ gT) (hs : shp k = (0, ci, l)) (hcl : vwCl[ci]? = some q) (hr : q.1 = z.1.cls) (hrm : (rest.map fun v => v.category).sum ≤ 8) (hdp : d' + 1 ≤ d) (hd : decode y.2.1 pc = .ok (.invokevirtual idx, 3))
    (kk : InR M1 → VS E y d r M' (pc + 3) ls rest M1) : VS E y d r M' pc ls (a2 :: a1 :: xr E k :: rest) M :=
  s_callV (As := [a1, a2]) hM hK cw hw rfl rfl hs hcl hr hrm hdp hd kk
theorem s_callS2v {a1 a2 : Value} {z : xM} {nL d' idx : Nat} {M1 : xMem} (hM : InR M) (hK : Ct E z nL d' [a1, a2] M none M1) (cw : xcs z nL 2) (hw : Cond.methodLink y.1.cls idx z.1 ∈ gT) (hrm : (rest.map fun v => v.category).sum ≤ 8) (hdp : d' + 1 ≤ d) (hd : decode y.2.1 pc = .ok (.invokestatic idx, 3))
    (kk : InR M1 → VS E y d r M' (pc + 3) ls rest M1) : VS E y d r M' pc ls (a2 :: a1 :: rest) M :=
  s_callS (As := [a1, a2]) hM hK cw hw rfl rfl hrm hdp hd kk
theorem s_callV3r {a1 a2 a3 : Value} {z : xM} {nL d' idx k ci : Nat} {l : List (Option Nat)} {M1 : xMem} {q : vw_C} (hM : InR M) (hK : Ct E z nL d' (xr E k :: [a1, a2, a3]) M (some v) M1) (cw : xcv z nL 3) (hw : Cond.methodLink y.1.cls idx z.1 ∈ gT) (hs : shp k = (0, ci, l)) (hcl : vwCl[ci]? = some q) (hr : q.1 = z.1.cls) (hrm : (rest.map fun v => v.category).sum ≤ 8) (hdp : d' + 1 ≤ d) (hd : decode y.2.1 pc = .ok (.invokevirtual idx, 3))
    (kk : InR M1 → VS E y d r M' (pc + 3) ls (v :: rest) M1) : VS E y d r M' pc ls (a3 :: a2 :: a1 :: xr E k :: rest) M :=
  s_callV (As := [a1, a2, a3]) hM hK cw hw rfl rfl hs hcl hr hrm hdp hd kk
theorem s_callS3r {a1 a2 a3 : Value} {z : xM} {nL d' idx : Nat} {M1 : xMem} (hM : InR M) (hK : Ct E z nL d' [a1, a2, a3] M (some v) M1) (cw : xcs z nL 3) (hw : Cond.methodLink y.1.cls idx z.1 ∈ gT) (hrm : (rest.map fun v => v.category).sum ≤ 8) (hdp : d' + 1 ≤ d) (hd : decode y.2.1 pc = .ok (.invokestatic idx, 3))
    (kk : InR M1 → VS E y d r M' (pc + 3) ls (v :: rest) M1) : VS E y d r M' pc ls (a3 :: a2 :: a1 :: rest) M :=
  s_callS (As := [a1, a2, a3]) hM hK cw hw rfl rfl hrm hdp hd kk
theorem s_callV3v {a1 a2 a3 : Value} {z : xM} {nL d' idx k ci : Nat} {l : List (Option Nat)} {M1 : xMem} {q : vw_C} (hM : InR M) (hK : Ct E z nL d' (xr E k :: [a1, a2, a3]) M none M1) (cw : xcv z nL 3) (hw : Cond.methodLink y.1.cls idx z.1 ∈ gT) (hs : shp k = (0, ci, l)) (hcl : vwCl[ci]? = some q) (hr : q.1 = z.1.cls) (hrm : (rest.map fun v => v.category).sum ≤ 8) (hdp : d' + 1 ≤ d) (hd : decode y.2.1 pc = .ok (.invokevirtual idx, 3))
    (kk : InR M1 → VS E y d r M' (pc + 3) ls rest M1) : VS E y d r M' pc ls (a3 :: a2 :: a1 :: xr E k :: rest) M :=
  s_callV (As := [a1, a2, a3]) hM hK cw hw rfl rfl hs hcl hr hrm hdp hd kk
theorem s_callS3v {a1 a2 a3 : Value} {z : xM} {nL d' idx : Nat} {M1 : xMem} (hM : InR M) (hK : Ct E z nL d' [a1, a2, a3] M none M1) (cw : xcs z nL 3) (hw : Cond.methodLink y.1.cls idx z.1 ∈ gT) (hrm : (rest.map fun v => v.category).sum ≤ 8) (hdp : d' + 1 ≤ d) (hd : decode y.2.1 pc = .ok (.invokestatic idx, 3))
    (kk : InR M1 → VS E y d r M' (pc + 3) ls rest M1) : VS E y d r M' pc ls (a3 :: a2 :: a1 :: rest) M :=
  s_callS (As := [a1, a2, a3]) hM hK cw hw rfl rfl hrm hdp hd kk
theorem s_callV4r {a1 a2 a3 a4 : Value} {z : xM} {nL d' idx k ci : Nat} {l : List (Option Nat)} {M1 : xMem} {q : vw_C} (hM : InR M) (hK : Ct E z nL d' (xr E k :: [a1, a2, a3, a4]) M (some v) M1) (cw : xcv z nL 4) (hw : Cond.methodLink y.1.cls idx z.1 ∈ gT) (hs : shp k = (0, ci, l)) (hcl : vwCl[ci]? = some q) (hr : q.1 = z.1.cls) (hrm : (rest.map fun v => v.category).sum ≤ 8) (hdp : d' + 1 ≤ d) (hd : decode y.2.1 pc = .ok (.invokevirtual idx, 3))
    (kk : InR M1 → VS E y d r M' (pc + 3) ls (v :: rest) M1) : VS E y d r M' pc ls (a4 :: a3 :: a2 :: a1 :: xr E k :: rest) M :=
  s_callV (As := [a1, a2, a3, a4]) hM hK cw hw rfl rfl hs hcl hr hrm hdp hd kk
theorem s_callS4r {a1 a2 a3 a4 : Value} {z : xM} {nL d' idx : Nat} {M1 : xMem} (hM : InR M) (hK : Ct E z nL d' [a1, a2, a3, a4] M (some v) M1) (cw : xcs z nL 4) (hw : Cond.methodLink y.1.cls idx z.1 ∈ gT) (hrm : (rest.map fun v => v.category).sum ≤ 8) (hdp : d' + 1 ≤ d) (hd : decode y.2.1 pc = .ok (.invokestatic idx, 3))
    (kk : InR M1 → VS E y d r M' (pc + 3) ls (v :: rest) M1) : VS E y d r M' pc ls (a4 :: a3 :: a2 :: a1 :: rest) M :=
  s_callS (As := [a1, a2, a3, a4]) hM hK cw hw rfl rfl hrm hdp hd kk
theorem s_callV4v {a1 a2 a3 a4 : Value} {z : xM} {nL d' idx k ci : Nat} {l : List (Option Nat)} {M1 : xMem} {q : vw_C} (hM : InR M) (hK : Ct E z nL d' (xr E k :: [a1, a2, a3, a4]) M none M1) (cw : xcv z nL 4) (hw : Cond.methodLink y.1.cls idx z.1 ∈ gT) (hs : shp k = (0, ci, l)) (hcl : vwCl[ci]? = some q) (hr : q.1 = z.1.cls) (hrm : (rest.map fun v => v.category).sum ≤ 8) (hdp : d' + 1 ≤ d) (hd : decode y.2.1 pc = .ok (.invokevirtual idx, 3))
    (kk : InR M1 → VS E y d r M' (pc + 3) ls rest M1) : VS E y d r M' pc ls (a4 :: a3 :: a2 :: a1 :: xr E k :: rest) M :=
  s_callV (As := [a1, a2, a3, a4]) hM hK cw hw rfl rfl hs hcl hr hrm hdp hd kk
theorem s_callS4v {a1 a2 a3 a4 : Value} {z : xM} {nL d' idx : Nat} {M1 : xMem} (hM : InR M) (hK : Ct E z nL d' [a1, a2, a3, a4] M none M1) (cw : xcs z nL 4) (hw : Cond.methodLink y.1.cls idx z.1 ∈ gT) (hrm : (rest.map fun v => v.category).sum ≤ 8) (hdp : d' + 1 ≤ d) (hd : decode y.2.1 pc = .ok (.invokestatic idx, 3))
    (kk : InR M1 → VS E y d r M' (pc + 3) ls rest M1) : VS E y d r M' pc ls (a4 :: a3 :: a2 :: a1 :: rest) M :=
  s_callS (As := [a1, a2, a3, a4]) hM hK cw hw rfl rfl hrm hdp hd kk
theorem s_callV5r {a1 a2 a3 a4 a5 : Value} {z : xM} {nL d' idx k ci : Nat} {l : List (Option Nat)} {M1 : xMem} {q : vw_C} (hM : InR M) (hK : Ct E z nL d' (xr E k :: [a1, a2, a3, a4, a5]) M (some v) M1) (cw : xcv z nL 5) (hw : Cond.methodLink y.1.cls idx z.1 ∈ gT) (hs : shp k = (0, ci, l)) (hcl : vwCl[ci]? = some q) (hr : q.1 = z.1.cls) (hrm : (rest.map fun v => v.category).sum ≤ 8) (hdp : d' + 1 ≤ d) (hd : decode y.2.1 pc = .ok (.invokevirtual idx, 3))
    (kk : InR M1 → VS E y d r M' (pc + 3) ls (v :: rest) M1) : VS E y d r M' pc ls (a5 :: a4 :: a3 :: a2 :: a1 :: xr E k :: rest) M :=
  s_callV (As := [a1, a2, a3, a4, a5]) hM hK cw hw rfl rfl hs hcl hr hrm hdp hd kk
theorem s_callS5r {a1 a2 a3 a4 a5 : Value} {z : xM} {nL d' idx : Nat} {M1 : xMem} (hM : InR M) (hK : Ct E z nL d' [a1, a2, a3, a4, a5] M (some v) M1) (cw : xcs z nL 5) (hw : Cond.methodLink y.1.cls idx z.1 ∈ gT) (hrm : (rest.map fun v => v.category).sum ≤ 8) (hdp : d' + 1 ≤ d) (hd : decode y.2.1 pc = .ok (.invokestatic idx, 3))
    (kk : InR M1 → VS E y d r M' (pc + 3) ls (v :: rest) M1) : VS E y d r M' pc ls (a5 :: a4 :: a3 :: a2 :: a1 :: rest) M :=
  s_callS (As := [a1, a2, a3, a4, a5]) hM hK cw hw rfl rfl hrm hdp hd kk
theorem s_callV5v {a1 a2 a3 a4 a5 : Value} {z : xM} {nL d' idx k ci : Nat} {l : List (Option Nat)} {M1 : xMem} {q : vw_C} (hM : InR M) (hK : Ct E z nL d' (xr E k :: [a1, a2, a3, a4, a5]) M none M1) (cw : xcv z nL 5) (hw : Cond.methodLink y.1.cls idx z.1 ∈ gT) (hs : shp k = (0, ci, l)) (hcl : vwCl[ci]? = some q) (hr : q.1 = z.1.cls) (hrm : (rest.map fun v => v.category).sum ≤ 8) (hdp : d' + 1 ≤ d) (hd : decode y.2.1 pc = .ok (.invokevirtual idx, 3))
    (kk : InR M1 → VS E y d r M' (pc + 3) ls rest M1) : VS E y d r M' pc ls (a5 :: a4 :: a3 :: a2 :: a1 :: xr E k :: rest) M :=
  s_callV (As := [a1, a2, a3, a4, a5]) hM hK cw hw rfl rfl hs hcl hr hrm hdp hd kk
theorem s_callS5v {a1 a2 a3 a4 a5 : Value} {z : xM} {nL d' idx : Nat} {M1 : xMem} (hM : InR M) (hK : Ct E z nL d' [a1, a2, a3, a4, a5] M none M1) (cw : xcs z nL 5) (hw : Cond.methodLink y.1.cls idx z.1 ∈ gT) (hrm : (rest.map fun v => v.category).sum ≤ 8) (hdp : d' + 1 ≤ d) (hd : decode y.2.1 pc = .ok (.invokestatic idx, 3))
    (kk : InR M1 → VS E y d r M' (pc + 3) ls rest M1) : VS E y d r M' pc ls (a5 :: a4 :: a3 :: a2 :: a1 :: rest) M :=
  s_callS (As := [a1, a2, a3, a4, a5]) hM hK cw hw rfl rfl hrm hdp hd kk
theorem r_fgt0 {b : Option Value} {mc ms n ce sl : Nat} {Q : Option Value → Nat → (Nat → va_E) → Prop} {hp : Nat → va_E} {st : List Value} (k : V0 E y d mc ms Q pc (none :: ls) st n hp ce sl) : V0 E y d mc ms Q pc (b :: ls) st n hp ce sl :=
  fun p e s m args below meth c H locs la ok hP hS hL => k p e s m args below meth c H locs la ok hP hS ⟨hL.1, hL.2.1, fun q hq => by
    obtain ⟨j, e1, e2⟩ := (xlv_mem _ _ _).mp hq
    refine hL.2.2 q ((xlv_mem _ _ _).mpr ⟨j, e1, ?_⟩)
    rcases Nat.lt_trichotomy j 0 with h | h | h
    · exact absurd h (by omega)
    · subst h; simp at e2
    · obtain ⟨i, rfl⟩ : ∃ i, j = i + 1 := ⟨j - 1, by omega⟩
      simpa using e2⟩
theorem r_fgt1 {b0 : Option Value} {b : Option Value} {mc ms n ce sl : Nat} {Q : Option Value → Nat → (Nat → va_E) → Prop} {hp : Nat → va_E} {st : List Value} (k : V0 E y d mc ms Q pc (b0 :: none :: ls) st n hp ce sl) : V0 E y d mc ms Q pc (b0 :: b :: ls) st n hp ce sl :=
  fun p e s m args below meth c H locs la ok hP hS hL => k p e s m args below meth c H locs la ok hP hS ⟨hL.1, hL.2.1, fun q hq => by
    obtain ⟨j, e1, e2⟩ := (xlv_mem _ _ _).mp hq
    refine hL.2.2 q ((xlv_mem _ _ _).mpr ⟨j, e1, ?_⟩)
    rcases Nat.lt_trichotomy j 1 with h | h | h
    · rcases (show j = 0 by omega) with rfl <;> exact e2
    · subst h; simp at e2
    · obtain ⟨i, rfl⟩ : ∃ i, j = i + 2 := ⟨j - 2, by omega⟩
      simpa using e2⟩
theorem r_fgt2 {b0 b1 : Option Value} {b : Option Value} {mc ms n ce sl : Nat} {Q : Option Value → Nat → (Nat → va_E) → Prop} {hp : Nat → va_E} {st : List Value} (k : V0 E y d mc ms Q pc (b0 :: b1 :: none :: ls) st n hp ce sl) : V0 E y d mc ms Q pc (b0 :: b1 :: b :: ls) st n hp ce sl :=
  fun p e s m args below meth c H locs la ok hP hS hL => k p e s m args below meth c H locs la ok hP hS ⟨hL.1, hL.2.1, fun q hq => by
    obtain ⟨j, e1, e2⟩ := (xlv_mem _ _ _).mp hq
    refine hL.2.2 q ((xlv_mem _ _ _).mpr ⟨j, e1, ?_⟩)
    rcases Nat.lt_trichotomy j 2 with h | h | h
    · rcases (show j = 0 ∨ j = 1 by omega) with rfl | rfl <;> exact e2
    · subst h; simp at e2
    · obtain ⟨i, rfl⟩ : ∃ i, j = i + 3 := ⟨j - 3, by omega⟩
      simpa using e2⟩
theorem r_fgt3 {b0 b1 b2 : Option Value} {b : Option Value} {mc ms n ce sl : Nat} {Q : Option Value → Nat → (Nat → va_E) → Prop} {hp : Nat → va_E} {st : List Value} (k : V0 E y d mc ms Q pc (b0 :: b1 :: b2 :: none :: ls) st n hp ce sl) : V0 E y d mc ms Q pc (b0 :: b1 :: b2 :: b :: ls) st n hp ce sl :=
  fun p e s m args below meth c H locs la ok hP hS hL => k p e s m args below meth c H locs la ok hP hS ⟨hL.1, hL.2.1, fun q hq => by
    obtain ⟨j, e1, e2⟩ := (xlv_mem _ _ _).mp hq
    refine hL.2.2 q ((xlv_mem _ _ _).mpr ⟨j, e1, ?_⟩)
    rcases Nat.lt_trichotomy j 3 with h | h | h
    · rcases (show j = 0 ∨ j = 1 ∨ j = 2 by omega) with rfl | rfl | rfl <;> exact e2
    · subst h; simp at e2
    · obtain ⟨i, rfl⟩ : ∃ i, j = i + 4 := ⟨j - 4, by omega⟩
      simpa using e2⟩
theorem r_fgt4 {b0 b1 b2 b3 : Option Value} {b : Option Value} {mc ms n ce sl : Nat} {Q : Option Value → Nat → (Nat → va_E) → Prop} {hp : Nat → va_E} {st : List Value} (k : V0 E y d mc ms Q pc (b0 :: b1 :: b2 :: b3 :: none :: ls) st n hp ce sl) : V0 E y d mc ms Q pc (b0 :: b1 :: b2 :: b3 :: b :: ls) st n hp ce sl :=
  fun p e s m args below meth c H locs la ok hP hS hL => k p e s m args below meth c H locs la ok hP hS ⟨hL.1, hL.2.1, fun q hq => by
    obtain ⟨j, e1, e2⟩ := (xlv_mem _ _ _).mp hq
    refine hL.2.2 q ((xlv_mem _ _ _).mpr ⟨j, e1, ?_⟩)
    rcases Nat.lt_trichotomy j 4 with h | h | h
    · rcases (show j = 0 ∨ j = 1 ∨ j = 2 ∨ j = 3 by omega) with rfl | rfl | rfl | rfl <;> exact e2
    · subst h; simp at e2
    · obtain ⟨i, rfl⟩ : ∃ i, j = i + 5 := ⟨j - 5, by omega⟩
      simpa using e2⟩
theorem r_fgt5 {b0 b1 b2 b3 b4 : Option Value} {b : Option Value} {mc ms n ce sl : Nat} {Q : Option Value → Nat → (Nat → va_E) → Prop} {hp : Nat → va_E} {st : List Value} (k : V0 E y d mc ms Q pc (b0 :: b1 :: b2 :: b3 :: b4 :: none :: ls) st n hp ce sl) : V0 E y d mc ms Q pc (b0 :: b1 :: b2 :: b3 :: b4 :: b :: ls) st n hp ce sl :=
  fun p e s m args below meth c H locs la ok hP hS hL => k p e s m args below meth c H locs la ok hP hS ⟨hL.1, hL.2.1, fun q hq => by
    obtain ⟨j, e1, e2⟩ := (xlv_mem _ _ _).mp hq
    refine hL.2.2 q ((xlv_mem _ _ _).mpr ⟨j, e1, ?_⟩)
    rcases Nat.lt_trichotomy j 5 with h | h | h
    · rcases (show j = 0 ∨ j = 1 ∨ j = 2 ∨ j = 3 ∨ j = 4 by omega) with rfl | rfl | rfl | rfl | rfl <;> exact e2
    · subst h; simp at e2
    · obtain ⟨i, rfl⟩ : ∃ i, j = i + 6 := ⟨j - 6, by omega⟩
      simpa using e2⟩
theorem r_fgt6 {b0 b1 b2 b3 b4 b5 : Option Value} {b : Option Value} {mc ms n ce sl : Nat} {Q : Option Value → Nat → (Nat → va_E) → Prop} {hp : Nat → va_E} {st : List Value} (k : V0 E y d mc ms Q pc (b0 :: b1 :: b2 :: b3 :: b4 :: b5 :: none :: ls) st n hp ce sl) : V0 E y d mc ms Q pc (b0 :: b1 :: b2 :: b3 :: b4 :: b5 :: b :: ls) st n hp ce sl :=
  fun p e s m args below meth c H locs la ok hP hS hL => k p e s m args below meth c H locs la ok hP hS ⟨hL.1, hL.2.1, fun q hq => by
    obtain ⟨j, e1, e2⟩ := (xlv_mem _ _ _).mp hq
    refine hL.2.2 q ((xlv_mem _ _ _).mpr ⟨j, e1, ?_⟩)
    rcases Nat.lt_trichotomy j 6 with h | h | h
    · rcases (show j = 0 ∨ j = 1 ∨ j = 2 ∨ j = 3 ∨ j = 4 ∨ j = 5 by omega) with rfl | rfl | rfl | rfl | rfl | rfl <;> exact e2
    · subst h; simp at e2
    · obtain ⟨i, rfl⟩ : ∃ i, j = i + 7 := ⟨j - 7, by omega⟩
      simpa using e2⟩
theorem r_fgt7 {b0 b1 b2 b3 b4 b5 b6 : Option Value} {b : Option Value} {mc ms n ce sl : Nat} {Q : Option Value → Nat → (Nat → va_E) → Prop} {hp : Nat → va_E} {st : List Value} (k : V0 E y d mc ms Q pc (b0 :: b1 :: b2 :: b3 :: b4 :: b5 :: b6 :: none :: ls) st n hp ce sl) : V0 E y d mc ms Q pc (b0 :: b1 :: b2 :: b3 :: b4 :: b5 :: b6 :: b :: ls) st n hp ce sl :=
  fun p e s m args below meth c H locs la ok hP hS hL => k p e s m args below meth c H locs la ok hP hS ⟨hL.1, hL.2.1, fun q hq => by
    obtain ⟨j, e1, e2⟩ := (xlv_mem _ _ _).mp hq
    refine hL.2.2 q ((xlv_mem _ _ _).mpr ⟨j, e1, ?_⟩)
    rcases Nat.lt_trichotomy j 7 with h | h | h
    · rcases (show j = 0 ∨ j = 1 ∨ j = 2 ∨ j = 3 ∨ j = 4 ∨ j = 5 ∨ j = 6 by omega) with rfl | rfl | rfl | rfl | rfl | rfl | rfl <;> exact e2
    · subst h; simp at e2
    · obtain ⟨i, rfl⟩ : ∃ i, j = i + 8 := ⟨j - 8, by omega⟩
      simpa using e2⟩
theorem r_fgt8 {b0 b1 b2 b3 b4 b5 b6 b7 : Option Value} {b : Option Value} {mc ms n ce sl : Nat} {Q : Option Value → Nat → (Nat → va_E) → Prop} {hp : Nat → va_E} {st : List Value} (k : V0 E y d mc ms Q pc (b0 :: b1 :: b2 :: b3 :: b4 :: b5 :: b6 :: b7 :: none :: ls) st n hp ce sl) : V0 E y d mc ms Q pc (b0 :: b1 :: b2 :: b3 :: b4 :: b5 :: b6 :: b7 :: b :: ls) st n hp ce sl :=
  fun p e s m args below meth c H locs la ok hP hS hL => k p e s m args below meth c H locs la ok hP hS ⟨hL.1, hL.2.1, fun q hq => by
    obtain ⟨j, e1, e2⟩ := (xlv_mem _ _ _).mp hq
    refine hL.2.2 q ((xlv_mem _ _ _).mpr ⟨j, e1, ?_⟩)
    rcases Nat.lt_trichotomy j 8 with h | h | h
    · rcases (show j = 0 ∨ j = 1 ∨ j = 2 ∨ j = 3 ∨ j = 4 ∨ j = 5 ∨ j = 6 ∨ j = 7 by omega) with rfl | rfl | rfl | rfl | rfl | rfl | rfl | rfl <;> exact e2
    · subst h; simp at e2
    · obtain ⟨i, rfl⟩ : ∃ i, j = i + 9 := ⟨j - 9, by omega⟩
      simpa using e2⟩
theorem r_fgt9 {b0 b1 b2 b3 b4 b5 b6 b7 b8 : Option Value} {b : Option Value} {mc ms n ce sl : Nat} {Q : Option Value → Nat → (Nat → va_E) → Prop} {hp : Nat → va_E} {st : List Value} (k : V0 E y d mc ms Q pc (b0 :: b1 :: b2 :: b3 :: b4 :: b5 :: b6 :: b7 :: b8 :: none :: ls) st n hp ce sl) : V0 E y d mc ms Q pc (b0 :: b1 :: b2 :: b3 :: b4 :: b5 :: b6 :: b7 :: b8 :: b :: ls) st n hp ce sl :=
  fun p e s m args below meth c H locs la ok hP hS hL => k p e s m args below meth c H locs la ok hP hS ⟨hL.1, hL.2.1, fun q hq => by
    obtain ⟨j, e1, e2⟩ := (xlv_mem _ _ _).mp hq
    refine hL.2.2 q ((xlv_mem _ _ _).mpr ⟨j, e1, ?_⟩)
    rcases Nat.lt_trichotomy j 9 with h | h | h
    · rcases (show j = 0 ∨ j = 1 ∨ j = 2 ∨ j = 3 ∨ j = 4 ∨ j = 5 ∨ j = 6 ∨ j = 7 ∨ j = 8 by omega) with rfl | rfl | rfl | rfl | rfl | rfl | rfl | rfl | rfl <;> exact e2
    · subst h; simp at e2
    · obtain ⟨i, rfl⟩ : ∃ i, j = i + 10 := ⟨j - 10, by omega⟩
      simpa using e2⟩
theorem r_fgt10 {b0 b1 b2 b3 b4 b5 b6 b7 b8 b9 : Option Value} {b : Option Value} {mc ms n ce sl : Nat} {Q : Option Value → Nat → (Nat → va_E) → Prop} {hp : Nat → va_E} {st : List Value} (k : V0 E y d mc ms Q pc (b0 :: b1 :: b2 :: b3 :: b4 :: b5 :: b6 :: b7 :: b8 :: b9 :: none :: ls) st n hp ce sl) : V0 E y d mc ms Q pc (b0 :: b1 :: b2 :: b3 :: b4 :: b5 :: b6 :: b7 :: b8 :: b9 :: b :: ls) st n hp ce sl :=
  fun p e s m args below meth c H locs la ok hP hS hL => k p e s m args below meth c H locs la ok hP hS ⟨hL.1, hL.2.1, fun q hq => by
    obtain ⟨j, e1, e2⟩ := (xlv_mem _ _ _).mp hq
    refine hL.2.2 q ((xlv_mem _ _ _).mpr ⟨j, e1, ?_⟩)
    rcases Nat.lt_trichotomy j 10 with h | h | h
    · rcases (show j = 0 ∨ j = 1 ∨ j = 2 ∨ j = 3 ∨ j = 4 ∨ j = 5 ∨ j = 6 ∨ j = 7 ∨ j = 8 ∨ j = 9 by omega) with rfl | rfl | rfl | rfl | rfl | rfl | rfl | rfl | rfl | rfl <;> exact e2
    · subst h; simp at e2
    · obtain ⟨i, rfl⟩ : ∃ i, j = i + 11 := ⟨j - 11, by omega⟩
      simpa using e2⟩
theorem r_fgt11 {b0 b1 b2 b3 b4 b5 b6 b7 b8 b9 b10 : Option Value} {b : Option Value} {mc ms n ce sl : Nat} {Q : Option Value → Nat → (Nat → va_E) → Prop} {hp : Nat → va_E} {st : List Value} (k : V0 E y d mc ms Q pc (b0 :: b1 :: b2 :: b3 :: b4 :: b5 :: b6 :: b7 :: b8 :: b9 :: b10 :: none :: ls) st n hp ce sl) : V0 E y d mc ms Q pc (b0 :: b1 :: b2 :: b3 :: b4 :: b5 :: b6 :: b7 :: b8 :: b9 :: b10 :: b :: ls) st n hp ce sl :=
  fun p e s m args below meth c H locs la ok hP hS hL => k p e s m args below meth c H locs la ok hP hS ⟨hL.1, hL.2.1, fun q hq => by
    obtain ⟨j, e1, e2⟩ := (xlv_mem _ _ _).mp hq
    refine hL.2.2 q ((xlv_mem _ _ _).mpr ⟨j, e1, ?_⟩)
    rcases Nat.lt_trichotomy j 11 with h | h | h
    · rcases (show j = 0 ∨ j = 1 ∨ j = 2 ∨ j = 3 ∨ j = 4 ∨ j = 5 ∨ j = 6 ∨ j = 7 ∨ j = 8 ∨ j = 9 ∨ j = 10 by omega) with rfl | rfl | rfl | rfl | rfl | rfl | rfl | rfl | rfl | rfl | rfl <;> exact e2
    · subst h; simp at e2
    · obtain ⟨i, rfl⟩ : ∃ i, j = i + 12 := ⟨j - 12, by omega⟩
      simpa using e2⟩
theorem r_fgt12 {b0 b1 b2 b3 b4 b5 b6 b7 b8 b9 b10 b11 : Option Value} {b : Option Value} {mc ms n ce sl : Nat} {Q : Option Value → Nat → (Nat → va_E) → Prop} {hp : Nat → va_E} {st : List Value} (k : V0 E y d mc ms Q pc (b0 :: b1 :: b2 :: b3 :: b4 :: b5 :: b6 :: b7 :: b8 :: b9 :: b10 :: b11 :: none :: ls) st n hp ce sl) : V0 E y d mc ms Q pc (b0 :: b1 :: b2 :: b3 :: b4 :: b5 :: b6 :: b7 :: b8 :: b9 :: b10 :: b11 :: b :: ls) st n hp ce sl :=
  fun p e s m args below meth c H locs la ok hP hS hL => k p e s m args below meth c H locs la ok hP hS ⟨hL.1, hL.2.1, fun q hq => by
    obtain ⟨j, e1, e2⟩ := (xlv_mem _ _ _).mp hq
    refine hL.2.2 q ((xlv_mem _ _ _).mpr ⟨j, e1, ?_⟩)
    rcases Nat.lt_trichotomy j 12 with h | h | h
    · rcases (show j = 0 ∨ j = 1 ∨ j = 2 ∨ j = 3 ∨ j = 4 ∨ j = 5 ∨ j = 6 ∨ j = 7 ∨ j = 8 ∨ j = 9 ∨ j = 10 ∨ j = 11 by omega) with rfl | rfl | rfl | rfl | rfl | rfl | rfl | rfl | rfl | rfl | rfl | rfl <;> exact e2
    · subst h; simp at e2
    · obtain ⟨i, rfl⟩ : ∃ i, j = i + 13 := ⟨j - 13, by omega⟩
      simpa using e2⟩
def xSt (k : Nat) : Prop := shp k = (0, 6, [some 3, some (k + 1), some (k + 2), some (k + 3), none, none, none, none, none]) ∧ shp (k + 1) = (1, 5, []) ∧ shp (k + 2) = (1, 5, []) ∧ shp (k + 3) = (1, 6, []) ∧ 9 ≤ k ∧ k ≤ 143
def xSg (k t : Nat) : Prop := shp k = (0, 6, [some t, some (k + 1), some (k + 2), some (k + 3), none, none, none, none, none]) ∧ shp (k + 1) = (1, 5, []) ∧ shp (k + 2) = (1, 5, []) ∧ shp (k + 3) = (1, 6, [])
def xTw (k : Nat) : Prop := shp k = (0, 8, [some (k + 1), some (k + 2), some (k + 3), some (k + 4), some (k + 5), none, none, none]) ∧ shp (k + 1) = (1, 5, []) ∧ shp (k + 2) = (1, 6, []) ∧ shp (k + 3) = (1, 6, []) ∧ shp (k + 4) = (1, 6, []) ∧ shp (k + 5) = (1, 6, [])
def xRw (k : Nat) : Prop := shp k = (0, 5, [some (k + 1), none, none, none]) ∧ shp (k + 1) = (1, 40, []) ∧ 163 ≤ k ∧ k ≤ 177
def xIm (k : Nat) : Prop := shp k = (0, 1, [some (k + 1), some (k + 7), none]) ∧ xTw (k + 1) ∧ xSg (k + 7) (k + 1) ∧ 179 ≤ k ∧ k ≤ 190
theorem xSt_9 : xSt 9 := by unfold xSt; decide +kernel
theorem xSt_13 : xSt 13 := by unfold xSt; decide +kernel
theorem xTw_3 : xTw 3 := by unfold xTw; decide +kernel
theorem xTw_151 : xTw 151 := by unfold xTw; decide +kernel
theorem xSg_157 : xSg 157 151 := by unfold xSg; decide +kernel
theorem xSt.g {k : Nat} (h : xSt k) : xSg k 3 := ⟨h.1, h.2.1, h.2.2.1, h.2.2.2.1⟩
theorem ps_1 : ∀ i, i < 24 → shp (19 + 4 * i) = (0, 6, [some 3, some ((19 + 4 * i) + 1), some ((19 + 4 * i) + 2), some ((19 + 4 * i) + 3), none, none, none, none, none]) := by decide +kernel
theorem ps_2 : ∀ i, i < 24 → shp ((19 + 4 * i) + 1) = (1, 5, []) := by decide +kernel
theorem ps_3 : ∀ i, i < 24 → shp ((19 + 4 * i) + 2) = (1, 5, []) := by decide +kernel
theorem ps_4 : ∀ i, i < 24 → shp ((19 + 4 * i) + 3) = (1, 6, []) := by decide +kernel
theorem ps_5 : ∀ i, i < 24 → (shp 18).2.2[i]? = some (some (19 + 4 * i)) := by decide +kernel
theorem ps_all (i : Nat) (h : i < 24) : xSt (19 + 4 * i) ∧ (shp 18).2.2[i]? = some (some (19 + 4 * i)) := ⟨⟨ps_1 i h, ps_2 i h, ps_3 i h, ps_4 i h, by omega, by omega⟩, ps_5 i h⟩
theorem lv_1 : ∀ i, i < 7 → shp (119 + 4 * i) = (0, 6, [some 3, some ((119 + 4 * i) + 1), some ((119 + 4 * i) + 2), some ((119 + 4 * i) + 3), none, none, none, none, none]) := by decide +kernel
theorem lv_2 : ∀ i, i < 7 → shp ((119 + 4 * i) + 1) = (1, 5, []) := by decide +kernel
theorem lv_3 : ∀ i, i < 7 → shp ((119 + 4 * i) + 2) = (1, 5, []) := by decide +kernel
theorem lv_4 : ∀ i, i < 7 → shp ((119 + 4 * i) + 3) = (1, 6, []) := by decide +kernel
theorem lv_5 : ∀ i, i < 7 → (shp 116).2.2[i]? = some (some (119 + 4 * i)) := by decide +kernel
theorem lv_all (i : Nat) (h : i < 7) : xSt (119 + 4 * i) ∧ (shp 116).2.2[i]? = some (some (119 + 4 * i)) := ⟨⟨lv_1 i h, lv_2 i h, lv_3 i h, lv_4 i h, by omega, by omega⟩, lv_5 i h⟩
theorem rw_all : ∀ i, i < 8 → xRw (163 + 2 * i) ∧ (shp 1).2.2[i]? = some (some (163 + 2 * i)) := by unfold xRw; decide +kernel
theorem xIm_179 : xIm 179 := ⟨sh_179, ⟨sh_180, sh_181, sh_182, sh_183, sh_184, sh_185⟩, ⟨sh_186, sh_187, sh_188, sh_189⟩, by decide, by decide⟩
theorem xIm_190 : xIm 190 := ⟨sh_190, ⟨sh_191, sh_192, sh_193, sh_194, sh_195, sh_196⟩, ⟨sh_197, sh_198, sh_199, sh_200⟩, by decide, by decide⟩
theorem im_5 : ∀ i, i < 2 → (shp 2).2.2[i]? = some (some (179 + 11 * i)) := by decide +kernel
theorem im_all : ∀ i, i < 2 → xIm (179 + 11 * i) ∧ (shp 2).2.2[i]? = some (some (179 + 11 * i))
  | 0, _ => ⟨xIm_179, im_5 0 (by decide)⟩
  | 1, _ => ⟨xIm_190, im_5 1 (by decide)⟩
  | k + 2, h => absurd h (by omega)
theorem s_rows {i : Int} (hi : 0 ≤ i ∧ i < 8) (hd : decode y.2.1 pc = .ok (.aaload, 1))
    (kk : ∀ p : Nat, p = 163 + 2 * i.toNat → xRw p → VS E y d r M' (pc + 1) ls (xr E p :: rest) M) : VS E y d r M' pc ls (xi i :: xr E 1 :: rest) M := by
  have h := rw_all i.toNat (by omega)
  have hs := sh_1
  rw [hs] at h
  exact s_aald (t := 0) (C := RX5) rfl hs hi h.2 (by decide) hd (kk _ rfl h.1)
theorem s_imgs {i : Int} (hi : 0 ≤ i ∧ i < 2) (hd : decode y.2.1 pc = .ok (.aaload, 1))
    (kk : ∀ p : Nat, p = 179 + 11 * i.toNat → xIm p → VS E y d r M' (pc + 1) ls (xr E p :: rest) M) : VS E y d r M' pc ls (xi i :: xr E 2 :: rest) M := by
  have h := im_all i.toNat (by omega)
  have hs := sh_2
  rw [hs] at h
  exact s_aald (t := 1) (C := RX1) rfl hs hi h.2 (by decide) hd (kk _ rfl h.1)
theorem s_past {i : Int} (hi : 0 ≤ i ∧ i < 24) (hd : decode y.2.1 pc = .ok (.aaload, 1))
    (kk : ∀ p : Nat, p = 19 + 4 * i.toNat → xSt p → VS E y d r M' (pc + 1) ls (xr E p :: rest) M) : VS E y d r M' pc ls (xi i :: xr E 18 :: rest) M := by
  have h := ps_all i.toNat (by omega)
  have hs := sh_18
  rw [hs] at h
  exact s_aald (t := 2) (C := RX6) rfl hs hi h.2 (by decide) hd (kk _ rfl h.1)
theorem s_levs {i : Int} (hi : 0 ≤ i ∧ i < 7) (hd : decode y.2.1 pc = .ok (.aaload, 1))
    (kk : ∀ p : Nat, p = 119 + 4 * i.toNat → xSt p → VS E y d r M' (pc + 1) ls (xr E p :: rest) M) : VS E y d r M' pc ls (xi i :: xr E 116 :: rest) M := by
  have h := lv_all i.toNat (by omega)
  have hs := sh_116
  rw [hs] at h
  exact s_aald (t := 2) (C := RX6) rfl hs hi h.2 (by decide) hd (kk _ rfl h.1)
end XT
