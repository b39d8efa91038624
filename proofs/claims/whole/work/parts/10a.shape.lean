abbrev xS : Type := Nat × Nat × List (Option Nat)
def shpL : List xS := [(0, 9, [some 1, some 2, some 3, some 9, some 13, some 17, some 115, some 147, some 149, some 161, none]),
  (3, 8, [some 163, some 165, some 167, some 169, some 171, some 173, some 175, some 177]),
  (4, 2, [some 179, some 190]),
  (0, 8, [some 4, some 5, some 6, some 7, some 8, none, none, none]),
  (1, 5, []),
  (1, 6, []),
  (1, 6, []),
  (1, 6, []),
  (1, 6, []),
  (0, 6, [some 3, some 10, some 11, some 12, none, none, none, none, none]),
  (1, 5, []),
  (1, 5, []),
  (1, 6, []),
  (0, 6, [some 3, some 14, some 15, some 16, none, none, none, none, none]),
  (1, 5, []),
  (1, 5, []),
  (1, 6, []),
  (0, 3, [some 18, none, none]),
  (5, 24, [some 19, some 23, some 27, some 31, some 35, some 39, some 43, some 47, some 51, some 55, some 59, some 63, some 67, some 71, some 75, some 79, some 83, some 87, some 91, some 95, some 99, some 103, some 107, some 111]),
  (0, 6, [some 3, some 20, some 21, some 22, none, none, none, none, none]),
  (1, 5, []),
  (1, 5, []),
  (1, 6, []),
  (0, 6, [some 3, some 24, some 25, some 26, none, none, none, none, none]),
  (1, 5, []),
  (1, 5, []),
  (1, 6, []),
  (0, 6, [some 3, some 28, some 29, some 30, none, none, none, none, none]),
  (1, 5, []),
  (1, 5, []),
  (1, 6, []),
  (0, 6, [some 3, some 32, some 33, some 34, none, none, none, none, none]),
  (1, 5, []),
  (1, 5, []),
  (1, 6, []),
  (0, 6, [some 3, some 36, some 37, some 38, none, none, none, none, none]),
  (1, 5, []),
  (1, 5, []),
  (1, 6, []),
  (0, 6, [some 3, some 40, some 41, some 42, none, none, none, none, none]),
  (1, 5, []),
  (1, 5, []),
  (1, 6, []),
  (0, 6, [some 3, some 44, some 45, some 46, none, none, none, none, none]),
  (1, 5, []),
  (1, 5, []),
  (1, 6, []),
  (0, 6, [some 3, some 48, some 49, some 50, none, none, none, none, none]),
  (1, 5, []),
  (1, 5, []),
  (1, 6, []),
  (0, 6, [some 3, some 52, some 53, some 54, none, none, none, none, none]),
  (1, 5, []),
  (1, 5, []),
  (1, 6, []),
  (0, 6, [some 3, some 56, some 57, some 58, none, none, none, none, none]),
  (1, 5, []),
  (1, 5, []),
  (1, 6, []),
  (0, 6, [some 3, some 60, some 61, some 62, none, none, none, none, none]),
  (1, 5, []),
  (1, 5, []),
  (1, 6, []),
  (0, 6, [some 3, some 64, some 65, some 66, none, none, none, none, none]),
  (1, 5, []),
  (1, 5, []),
  (1, 6, []),
  (0, 6, [some 3, some 68, some 69, some 70, none, none, none, none, none]),
  (1, 5, []),
  (1, 5, []),
  (1, 6, []),
  (0, 6, [some 3, some 72, some 73, some 74, none, none, none, none, none]),
  (1, 5, []),
  (1, 5, []),
  (1, 6, []),
  (0, 6, [some 3, some 76, some 77, some 78, none, none, none, none, none]),
  (1, 5, []),
  (1, 5, []),
  (1, 6, []),
  (0, 6, [some 3, some 80, some 81, some 82, none, none, none, none, none]),
  (1, 5, []),
  (1, 5, []),
  (1, 6, []),
  (0, 6, [some 3, some 84, some 85, some 86, none, none, none, none, none]),
  (1, 5, []),
  (1, 5, []),
  (1, 6, []),
  (0, 6, [some 3, some 88, some 89, some 90, none, none, none, none, none]),
  (1, 5, []),
  (1, 5, []),
  (1, 6, []),
  (0, 6, [some 3, some 92, some 93, some 94, none, none, none, none, none]),
  (1, 5, []),
  (1, 5, []),
  (1, 6, []),
  (0, 6, [some 3, some 96, some 97, some 98, none, none, none, none, none]),
  (1, 5, []),
  (1, 5, []),
  (1, 6, []),
  (0, 6, [some 3, some 100, some 101, some 102, none, none, none, none, none]),
  (1, 5, []),
  (1, 5, []),
  (1, 6, []),
  (0, 6, [some 3, some 104, some 105, some 106, none, none, none, none, none]),
  (1, 5, []),
  (1, 5, []),
  (1, 6, []),
  (0, 6, [some 3, some 108, some 109, some 110, none, none, none, none, none]),
  (1, 5, []),
  (1, 5, []),
  (1, 6, []),
  (0, 6, [some 3, some 112, some 113, some 114, none, none, none, none, none]),
  (1, 5, []),
  (1, 5, []),
  (1, 6, []),
  (0, 2, [some 3, some 116, some 117, some 118, none, none]),
  (5, 7, [some 119, some 123, some 127, some 131, some 135, some 139, some 143]),
  (1, 6, []),
  (1, 6, []),
  (0, 6, [some 3, some 120, some 121, some 122, none, none, none, none, none]),
  (1, 5, []),
  (1, 5, []),
  (1, 6, []),
  (0, 6, [some 3, some 124, some 125, some 126, none, none, none, none, none]),
  (1, 5, []),
  (1, 5, []),
  (1, 6, []),
  (0, 6, [some 3, some 128, some 129, some 130, none, none, none, none, none]),
  (1, 5, []),
  (1, 5, []),
  (1, 6, []),
  (0, 6, [some 3, some 132, some 133, some 134, none, none, none, none, none]),
  (1, 5, []),
  (1, 5, []),
  (1, 6, []),
  (0, 6, [some 3, some 136, some 137, some 138, none, none, none, none, none]),
  (1, 5, []),
  (1, 5, []),
  (1, 6, []),
  (0, 6, [some 3, some 140, some 141, some 142, none, none, none, none, none]),
  (1, 5, []),
  (1, 5, []),
  (1, 6, []),
  (0, 6, [some 3, some 144, some 145, some 146, none, none, none, none, none]),
  (1, 5, []),
  (1, 5, []),
  (1, 6, []),
  (0, 7, [some 148, none]),
  (1, 61, []),
  (0, 4, [some 150, some 151, some 157, none, none, none, none, none, none, none, none]),
  (1, 120, []),
  (0, 8, [some 152, some 153, some 154, some 155, some 156, none, none, none]),
  (1, 5, []),
  (1, 6, []),
  (1, 6, []),
  (1, 6, []),
  (1, 6, []),
  (0, 6, [some 151, some 158, some 159, some 160, none, none, none, none, none]),
  (1, 5, []),
  (1, 5, []),
  (1, 6, []),
  (0, 0, [some 3, some 9, some 162, none]),
  (1, 16, []),
  (0, 5, [some 164, none, none, none]),
  (1, 40, []),
  (0, 5, [some 166, none, none, none]),
  (1, 40, []),
  (0, 5, [some 168, none, none, none]),
  (1, 40, []),
  (0, 5, [some 170, none, none, none]),
  (1, 40, []),
  (0, 5, [some 172, none, none, none]),
  (1, 40, []),
  (0, 5, [some 174, none, none, none]),
  (1, 40, []),
  (0, 5, [some 176, none, none, none]),
  (1, 40, []),
  (0, 5, [some 178, none, none, none]),
  (1, 40, []),
  (0, 1, [some 180, some 186, none]),
  (0, 8, [some 181, some 182, some 183, some 184, some 185, none, none, none]),
  (1, 5, []),
  (1, 6, []),
  (1, 6, []),
  (1, 6, []),
  (1, 6, []),
  (0, 6, [some 180, some 187, some 188, some 189, none, none, none, none, none]),
  (1, 5, []),
  (1, 5, []),
  (1, 6, []),
  (0, 1, [some 191, some 197, none]),
  (0, 8, [some 192, some 193, some 194, some 195, some 196, none, none, none]),
  (1, 5, []),
  (1, 6, []),
  (1, 6, []),
  (1, 6, []),
  (1, 6, []),
  (0, 6, [some 191, some 198, some 199, some 200, none, none, none, none, none]),
  (1, 5, []),
  (1, 5, []),
  (1, 6, []),
  (0, 10, [some 202, some 203, some 204, none, none, some 205, none, none, none, none, none, none, none, some 206, some 207, some 208, none, some 209, some 210, some 211, none, none, some 212, some 213, some 214, some 215, some 216, some 217, some 218, none, some 219]),
  (1, 8, []),
  (1, 8, []),
  (1, 320, []),
  (1, 120, []),
  (1, 32, []),
  (1, 5, []),
  (1, 1, []),
  (1, 32, []),
  (1, 21, []),
  (1, 21, []),
  (1, 504, []),
  (1, 6, []),
  (1, 61, []),
  (1, 61, []),
  (2, 2, []),
  (1, 64, []),
  (1, 42, []),
  (1, 16, [])]
def nC : Nat := 220
def shp (k : Nat) : xS := shpL.getD k (1, 0, [])
theorem sh_0 : shp 0 = (0, 9, [some 1, some 2, some 3, some 9, some 13, some 17, some 115, some 147, some 149, some 161, none]) := by decide +kernel
theorem sh_1 : shp 1 = (3, 8, [some 163, some 165, some 167, some 169, some 171, some 173, some 175, some 177]) := by decide +kernel
theorem sh_2 : shp 2 = (4, 2, [some 179, some 190]) := by decide +kernel
theorem sh_3 : shp 3 = (0, 8, [some 4, some 5, some 6, some 7, some 8, none, none, none]) := by decide +kernel
theorem sh_4 : shp 4 = (1, 5, []) := by decide +kernel
theorem sh_5 : shp 5 = (1, 6, []) := by decide +kernel
theorem sh_6 : shp 6 = (1, 6, []) := by decide +kernel
theorem sh_7 : shp 7 = (1, 6, []) := by decide +kernel
theorem sh_8 : shp 8 = (1, 6, []) := by decide +kernel
theorem sh_9 : shp 9 = (0, 6, [some 3, some 10, some 11, some 12, none, none, none, none, none]) := by decide +kernel
theorem sh_10 : shp 10 = (1, 5, []) := by decide +kernel
theorem sh_11 : shp 11 = (1, 5, []) := by decide +kernel
theorem sh_12 : shp 12 = (1, 6, []) := by decide +kernel
theorem sh_13 : shp 13 = (0, 6, [some 3, some 14, some 15, some 16, none, none, none, none, none]) := by decide +kernel
theorem sh_14 : shp 14 = (1, 5, []) := by decide +kernel
theorem sh_15 : shp 15 = (1, 5, []) := by decide +kernel
theorem sh_16 : shp 16 = (1, 6, []) := by decide +kernel
theorem sh_17 : shp 17 = (0, 3, [some 18, none, none]) := by decide +kernel
theorem sh_18 : shp 18 = (5, 24, [some 19, some 23, some 27, some 31, some 35, some 39, some 43, some 47, some 51, some 55, some 59, some 63, some 67, some 71, some 75, some 79, some 83, some 87, some 91, some 95, some 99, some 103, some 107, some 111]) := by decide +kernel
theorem sh_19 : shp 19 = (0, 6, [some 3, some 20, some 21, some 22, none, none, none, none, none]) := by decide +kernel
theorem sh_20 : shp 20 = (1, 5, []) := by decide +kernel
theorem sh_21 : shp 21 = (1, 5, []) := by decide +kernel
theorem sh_22 : shp 22 = (1, 6, []) := by decide +kernel
theorem sh_23 : shp 23 = (0, 6, [some 3, some 24, some 25, some 26, none, none, none, none, none]) := by decide +kernel
theorem sh_24 : shp 24 = (1, 5, []) := by decide +kernel
theorem sh_25 : shp 25 = (1, 5, []) := by decide +kernel
theorem sh_26 : shp 26 = (1, 6, []) := by decide +kernel
theorem sh_27 : shp 27 = (0, 6, [some 3, some 28, some 29, some 30, none, none, none, none, none]) := by decide +kernel
theorem sh_28 : shp 28 = (1, 5, []) := by decide +kernel
theorem sh_29 : shp 29 = (1, 5, []) := by decide +kernel
theorem sh_30 : shp 30 = (1, 6, []) := by decide +kernel
theorem sh_31 : shp 31 = (0, 6, [some 3, some 32, some 33, some 34, none, none, none, none, none]) := by decide +kernel
theorem sh_32 : shp 32 = (1, 5, []) := by decide +kernel
theorem sh_33 : shp 33 = (1, 5, []) := by decide +kernel
theorem sh_34 : shp 34 = (1, 6, []) := by decide +kernel
theorem sh_35 : shp 35 = (0, 6, [some 3, some 36, some 37, some 38, none, none, none, none, none]) := by decide +kernel
theorem sh_36 : shp 36 = (1, 5, []) := by decide +kernel
theorem sh_37 : shp 37 = (1, 5, []) := by decide +kernel
theorem sh_38 : shp 38 = (1, 6, []) := by decide +kernel
theorem sh_39 : shp 39 = (0, 6, [some 3, some 40, some 41, some 42, none, none, none, none, none]) := by decide +kernel
theorem sh_40 : shp 40 = (1, 5, []) := by decide +kernel
theorem sh_41 : shp 41 = (1, 5, []) := by decide +kernel
theorem sh_42 : shp 42 = (1, 6, []) := by decide +kernel
theorem sh_43 : shp 43 = (0, 6, [some 3, some 44, some 45, some 46, none, none, none, none, none]) := by decide +kernel
theorem sh_44 : shp 44 = (1, 5, []) := by decide +kernel
theorem sh_45 : shp 45 = (1, 5, []) := by decide +kernel
theorem sh_46 : shp 46 = (1, 6, []) := by decide +kernel
theorem sh_47 : shp 47 = (0, 6, [some 3, some 48, some 49, some 50, none, none, none, none, none]) := by decide +kernel
theorem sh_48 : shp 48 = (1, 5, []) := by decide +kernel
theorem sh_49 : shp 49 = (1, 5, []) := by decide +kernel
theorem sh_50 : shp 50 = (1, 6, []) := by decide +kernel
theorem sh_51 : shp 51 = (0, 6, [some 3, some 52, some 53, some 54, none, none, none, none, none]) := by decide +kernel
theorem sh_52 : shp 52 = (1, 5, []) := by decide +kernel
theorem sh_53 : shp 53 = (1, 5, []) := by decide +kernel
theorem sh_54 : shp 54 = (1, 6, []) := by decide +kernel
theorem sh_55 : shp 55 = (0, 6, [some 3, some 56, some 57, some 58, none, none, none, none, none]) := by decide +kernel
theorem sh_56 : shp 56 = (1, 5, []) := by decide +kernel
theorem sh_57 : shp 57 = (1, 5, []) := by decide +kernel
theorem sh_58 : shp 58 = (1, 6, []) := by decide +kernel
theorem sh_59 : shp 59 = (0, 6, [some 3, some 60, some 61, some 62, none, none, none, none, none]) := by decide +kernel
theorem sh_60 : shp 60 = (1, 5, []) := by decide +kernel
theorem sh_61 : shp 61 = (1, 5, []) := by decide +kernel
theorem sh_62 : shp 62 = (1, 6, []) := by decide +kernel
theorem sh_63 : shp 63 = (0, 6, [some 3, some 64, some 65, some 66, none, none, none, none, none]) := by decide +kernel
theorem sh_64 : shp 64 = (1, 5, []) := by decide +kernel
theorem sh_65 : shp 65 = (1, 5, []) := by decide +kernel
theorem sh_66 : shp 66 = (1, 6, []) := by decide +kernel
theorem sh_67 : shp 67 = (0, 6, [some 3, some 68, some 69, some 70, none, none, none, none, none]) := by decide +kernel
theorem sh_68 : shp 68 = (1, 5, []) := by decide +kernel
theorem sh_69 : shp 69 = (1, 5, []) := by decide +kernel
theorem sh_70 : shp 70 = (1, 6, []) := by decide +kernel
theorem sh_71 : shp 71 = (0, 6, [some 3, some 72, some 73, some 74, none, none, none, none, none]) := by decide +kernel
theorem sh_72 : shp 72 = (1, 5, []) := by decide +kernel
theorem sh_73 : shp 73 = (1, 5, []) := by decide +kernel
theorem sh_74 : shp 74 = (1, 6, []) := by decide +kernel
theorem sh_75 : shp 75 = (0, 6, [some 3, some 76, some 77, some 78, none, none, none, none, none]) := by decide +kernel
theorem sh_76 : shp 76 = (1, 5, []) := by decide +kernel
theorem sh_77 : shp 77 = (1, 5, []) := by decide +kernel
theorem sh_78 : shp 78 = (1, 6, []) := by decide +kernel
theorem sh_79 : shp 79 = (0, 6, [some 3, some 80, some 81, some 82, none, none, none, none, none]) := by decide +kernel
theorem sh_80 : shp 80 = (1, 5, []) := by decide +kernel
theorem sh_81 : shp 81 = (1, 5, []) := by decide +kernel
theorem sh_82 : shp 82 = (1, 6, []) := by decide +kernel
theorem sh_83 : shp 83 = (0, 6, [some 3, some 84, some 85, some 86, none, none, none, none, none]) := by decide +kernel
theorem sh_84 : shp 84 = (1, 5, []) := by decide +kernel
theorem sh_85 : shp 85 = (1, 5, []) := by decide +kernel
theorem sh_86 : shp 86 = (1, 6, []) := by decide +kernel
theorem sh_87 : shp 87 = (0, 6, [some 3, some 88, some 89, some 90, none, none, none, none, none]) := by decide +kernel
theorem sh_88 : shp 88 = (1, 5, []) := by decide +kernel
theorem sh_89 : shp 89 = (1, 5, []) := by decide +kernel
theorem sh_90 : shp 90 = (1, 6, []) := by decide +kernel
theorem sh_91 : shp 91 = (0, 6, [some 3, some 92, some 93, some 94, none, none, none, none, none]) := by decide +kernel
theorem sh_92 : shp 92 = (1, 5, []) := by decide +kernel
theorem sh_93 : shp 93 = (1, 5, []) := by decide +kernel
theorem sh_94 : shp 94 = (1, 6, []) := by decide +kernel
theorem sh_95 : shp 95 = (0, 6, [some 3, some 96, some 97, some 98, none, none, none, none, none]) := by decide +kernel
theorem sh_96 : shp 96 = (1, 5, []) := by decide +kernel
theorem sh_97 : shp 97 = (1, 5, []) := by decide +kernel
theorem sh_98 : shp 98 = (1, 6, []) := by decide +kernel
theorem sh_99 : shp 99 = (0, 6, [some 3, some 100, some 101, some 102, none, none, none, none, none]) := by decide +kernel
theorem sh_100 : shp 100 = (1, 5, []) := by decide +kernel
theorem sh_101 : shp 101 = (1, 5, []) := by decide +kernel
theorem sh_102 : shp 102 = (1, 6, []) := by decide +kernel
theorem sh_103 : shp 103 = (0, 6, [some 3, some 104, some 105, some 106, none, none, none, none, none]) := by decide +kernel
theorem sh_104 : shp 104 = (1, 5, []) := by decide +kernel
theorem sh_105 : shp 105 = (1, 5, []) := by decide +kernel
theorem sh_106 : shp 106 = (1, 6, []) := by decide +kernel
theorem sh_107 : shp 107 = (0, 6, [some 3, some 108, some 109, some 110, none, none, none, none, none]) := by decide +kernel
theorem sh_108 : shp 108 = (1, 5, []) := by decide +kernel
theorem sh_109 : shp 109 = (1, 5, []) := by decide +kernel
theorem sh_110 : shp 110 = (1, 6, []) := by decide +kernel
theorem sh_111 : shp 111 = (0, 6, [some 3, some 112, some 113, some 114, none, none, none, none, none]) := by decide +kernel
theorem sh_112 : shp 112 = (1, 5, []) := by decide +kernel
theorem sh_113 : shp 113 = (1, 5, []) := by decide +kernel
theorem sh_114 : shp 114 = (1, 6, []) := by decide +kernel
theorem sh_115 : shp 115 = (0, 2, [some 3, some 116, some 117, some 118, none, none]) := by decide +kernel
theorem sh_116 : shp 116 = (5, 7, [some 119, some 123, some 127, some 131, some 135, some 139, some 143]) := by decide +kernel
theorem sh_117 : shp 117 = (1, 6, []) := by decide +kernel
theorem sh_118 : shp 118 = (1, 6, []) := by decide +kernel
theorem sh_119 : shp 119 = (0, 6, [some 3, some 120, some 121, some 122, none, none, none, none, none]) := by decide +kernel
theorem sh_120 : shp 120 = (1, 5, []) := by decide +kernel
theorem sh_121 : shp 121 = (1, 5, []) := by decide +kernel
theorem sh_122 : shp 122 = (1, 6, []) := by decide +kernel
theorem sh_123 : shp 123 = (0, 6, [some 3, some 124, some 125, some 126, none, none, none, none, none]) := by decide +kernel
theorem sh_124 : shp 124 = (1, 5, []) := by decide +kernel
theorem sh_125 : shp 125 = (1, 5, []) := by decide +kernel
theorem sh_126 : shp 126 = (1, 6, []) := by decide +kernel
theorem sh_127 : shp 127 = (0, 6, [some 3, some 128, some 129, some 130, none, none, none, none, none]) := by decide +kernel
theorem sh_128 : shp 128 = (1, 5, []) := by decide +kernel
theorem sh_129 : shp 129 = (1, 5, []) := by decide +kernel
theorem sh_130 : shp 130 = (1, 6, []) := by decide +kernel
theorem sh_131 : shp 131 = (0, 6, [some 3, some 132, some 133, some 134, none, none, none, none, none]) := by decide +kernel
theorem sh_132 : shp 132 = (1, 5, []) := by decide +kernel
theorem sh_133 : shp 133 = (1, 5, []) := by decide +kernel
theorem sh_134 : shp 134 = (1, 6, []) := by decide +kernel
theorem sh_135 : shp 135 = (0, 6, [some 3, some 136, some 137, some 138, none, none, none, none, none]) := by decide +kernel
theorem sh_136 : shp 136 = (1, 5, []) := by decide +kernel
theorem sh_137 : shp 137 = (1, 5, []) := by decide +kernel
theorem sh_138 : shp 138 = (1, 6, []) := by decide +kernel
theorem sh_139 : shp 139 = (0, 6, [some 3, some 140, some 141, some 142, none, none, none, none, none]) := by decide +kernel
theorem sh_140 : shp 140 = (1, 5, []) := by decide +kernel
theorem sh_141 : shp 141 = (1, 5, []) := by decide +kernel
theorem sh_142 : shp 142 = (1, 6, []) := by decide +kernel
theorem sh_143 : shp 143 = (0, 6, [some 3, some 144, some 145, some 146, none, none, none, none, none]) := by decide +kernel
theorem sh_144 : shp 144 = (1, 5, []) := by decide +kernel
theorem sh_145 : shp 145 = (1, 5, []) := by decide +kernel
theorem sh_146 : shp 146 = (1, 6, []) := by decide +kernel
theorem sh_147 : shp 147 = (0, 7, [some 148, none]) := by decide +kernel
theorem sh_148 : shp 148 = (1, 61, []) := by decide +kernel
theorem sh_149 : shp 149 = (0, 4, [some 150, some 151, some 157, none, none, none, none, none, none, none, none]) := by decide +kernel
theorem sh_150 : shp 150 = (1, 120, []) := by decide +kernel
theorem sh_151 : shp 151 = (0, 8, [some 152, some 153, some 154, some 155, some 156, none, none, none]) := by decide +kernel
theorem sh_152 : shp 152 = (1, 5, []) := by decide +kernel
theorem sh_153 : shp 153 = (1, 6, []) := by decide +kernel
theorem sh_154 : shp 154 = (1, 6, []) := by decide +kernel
theorem sh_155 : shp 155 = (1, 6, []) := by decide +kernel
theorem sh_156 : shp 156 = (1, 6, []) := by decide +kernel
theorem sh_157 : shp 157 = (0, 6, [some 151, some 158, some 159, some 160, none, none, none, none, none]) := by decide +kernel
theorem sh_158 : shp 158 = (1, 5, []) := by decide +kernel
theorem sh_159 : shp 159 = (1, 5, []) := by decide +kernel
theorem sh_160 : shp 160 = (1, 6, []) := by decide +kernel
theorem sh_161 : shp 161 = (0, 0, [some 3, some 9, some 162, none]) := by decide +kernel
theorem sh_162 : shp 162 = (1, 16, []) := by decide +kernel
theorem sh_163 : shp 163 = (0, 5, [some 164, none, none, none]) := by decide +kernel
theorem sh_164 : shp 164 = (1, 40, []) := by decide +kernel
theorem sh_165 : shp 165 = (0, 5, [some 166, none, none, none]) := by decide +kernel
theorem sh_166 : shp 166 = (1, 40, []) := by decide +kernel
theorem sh_167 : shp 167 = (0, 5, [some 168, none, none, none]) := by decide +kernel
theorem sh_168 : shp 168 = (1, 40, []) := by decide +kernel
theorem sh_169 : shp 169 = (0, 5, [some 170, none, none, none]) := by decide +kernel
theorem sh_170 : shp 170 = (1, 40, []) := by decide +kernel
theorem sh_171 : shp 171 = (0, 5, [some 172, none, none, none]) := by decide +kernel
theorem sh_172 : shp 172 = (1, 40, []) := by decide +kernel
theorem sh_173 : shp 173 = (0, 5, [some 174, none, none, none]) := by decide +kernel
theorem sh_174 : shp 174 = (1, 40, []) := by decide +kernel
theorem sh_175 : shp 175 = (0, 5, [some 176, none, none, none]) := by decide +kernel
theorem sh_176 : shp 176 = (1, 40, []) := by decide +kernel
theorem sh_177 : shp 177 = (0, 5, [some 178, none, none, none]) := by decide +kernel
theorem sh_178 : shp 178 = (1, 40, []) := by decide +kernel
theorem sh_179 : shp 179 = (0, 1, [some 180, some 186, none]) := by decide +kernel
theorem sh_180 : shp 180 = (0, 8, [some 181, some 182, some 183, some 184, some 185, none, none, none]) := by decide +kernel
theorem sh_181 : shp 181 = (1, 5, []) := by decide +kernel
theorem sh_182 : shp 182 = (1, 6, []) := by decide +kernel
theorem sh_183 : shp 183 = (1, 6, []) := by decide +kernel
theorem sh_184 : shp 184 = (1, 6, []) := by decide +kernel
theorem sh_185 : shp 185 = (1, 6, []) := by decide +kernel
theorem sh_186 : shp 186 = (0, 6, [some 180, some 187, some 188, some 189, none, none, none, none, none]) := by decide +kernel
theorem sh_187 : shp 187 = (1, 5, []) := by decide +kernel
theorem sh_188 : shp 188 = (1, 5, []) := by decide +kernel
theorem sh_189 : shp 189 = (1, 6, []) := by decide +kernel
theorem sh_190 : shp 190 = (0, 1, [some 191, some 197, none]) := by decide +kernel
theorem sh_191 : shp 191 = (0, 8, [some 192, some 193, some 194, some 195, some 196, none, none, none]) := by decide +kernel
theorem sh_192 : shp 192 = (1, 5, []) := by decide +kernel
theorem sh_193 : shp 193 = (1, 6, []) := by decide +kernel
theorem sh_194 : shp 194 = (1, 6, []) := by decide +kernel
theorem sh_195 : shp 195 = (1, 6, []) := by decide +kernel
theorem sh_196 : shp 196 = (1, 6, []) := by decide +kernel
theorem sh_197 : shp 197 = (0, 6, [some 191, some 198, some 199, some 200, none, none, none, none, none]) := by decide +kernel
theorem sh_198 : shp 198 = (1, 5, []) := by decide +kernel
theorem sh_199 : shp 199 = (1, 5, []) := by decide +kernel
theorem sh_200 : shp 200 = (1, 6, []) := by decide +kernel
theorem sh_201 : shp 201 = (0, 10, [some 202, some 203, some 204, none, none, some 205, none, none, none, none, none, none, none, some 206, some 207, some 208, none, some 209, some 210, some 211, none, none, some 212, some 213, some 214, some 215, some 216, some 217, some 218, none, some 219]) := by decide +kernel
theorem sh_202 : shp 202 = (1, 8, []) := by decide +kernel
theorem sh_203 : shp 203 = (1, 8, []) := by decide +kernel
theorem sh_204 : shp 204 = (1, 320, []) := by decide +kernel
theorem sh_205 : shp 205 = (1, 120, []) := by decide +kernel
theorem sh_206 : shp 206 = (1, 32, []) := by decide +kernel
theorem sh_207 : shp 207 = (1, 5, []) := by decide +kernel
theorem sh_208 : shp 208 = (1, 1, []) := by decide +kernel
theorem sh_209 : shp 209 = (1, 32, []) := by decide +kernel
theorem sh_210 : shp 210 = (1, 21, []) := by decide +kernel
theorem sh_211 : shp 211 = (1, 21, []) := by decide +kernel
theorem sh_212 : shp 212 = (1, 504, []) := by decide +kernel
theorem sh_213 : shp 213 = (1, 6, []) := by decide +kernel
theorem sh_214 : shp 214 = (1, 61, []) := by decide +kernel
theorem sh_215 : shp 215 = (1, 61, []) := by decide +kernel
theorem sh_216 : shp 216 = (2, 2, []) := by decide +kernel
theorem sh_217 : shp 217 = (1, 64, []) := by decide +kernel
theorem sh_218 : shp 218 = (1, 42, []) := by decide +kernel
theorem sh_219 : shp 219 = (1, 16, []) := by decide +kernel
theorem shp_lt {k a b : Nat} {l : List (Option Nat)} (h : shp k = (a, b, l)) (hn : ¬ (a = 1 ∧ b = 0)) : k < nC := by
  rcases Nat.lt_or_ge k nC with q | q
  · exact q
  · exfalso
    have : shp k = (1, 0, []) := by
      unfold shp
      rw [List.getD_eq_getElem?_getD, List.getElem?_eq_none (by rw [show shpL.length = nC from by decide +kernel]; exact q)]
      rfl
    rw [this] at h
    cases h
    exact hn ⟨rfl, rfl⟩
