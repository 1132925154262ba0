theorem dX2_init_0 : decode cX2_init 0 = .ok (.aload_n 0, 1) := by decide +kernel
theorem dX2_init_1 : decode cX2_init 1 = .ok (.invokespecial 5, 3) := by decide +kernel
theorem dX2_init_4 : decode cX2_init 4 = .ok (.aload_n 0, 1) := by decide +kernel
theorem dX2_init_5 : decode cX2_init 5 = .ok (.sipush 4004, 3) := by decide +kernel
theorem dX2_init_8 : decode cX2_init 8 = .ok (.newarray .int, 2) := by decide +kernel
theorem dX2_init_10 : decode cX2_init 10 = .ok (.putfield 11, 3) := by decide +kernel
theorem dX2_init_13 : decode cX2_init 13 = .ok (.aload_n 0, 1) := by decide +kernel
theorem dX2_init_14 : decode cX2_init 14 = .ok (.sipush 4004, 3) := by decide +kernel
theorem dX2_init_17 : decode cX2_init 17 = .ok (.newarray .int, 2) := by decide +kernel
theorem dX2_init_19 : decode cX2_init 19 = .ok (.putfield 15, 3) := by decide +kernel
theorem dX2_init_22 : decode cX2_init 22 = .ok (.aload_n 0, 1) := by decide +kernel
theorem dX2_init_23 : decode cX2_init 23 = .ok (.sipush 4004, 3) := by decide +kernel
theorem dX2_init_26 : decode cX2_init 26 = .ok (.newarray .int, 2) := by decide +kernel
theorem dX2_init_28 : decode cX2_init 28 = .ok (.putfield 18, 3) := by decide +kernel
theorem dX2_init_31 : decode cX2_init 31 = .ok (.aload_n 0, 1) := by decide +kernel
theorem dX2_init_32 : decode cX2_init 32 = .ok (.sipush 4004, 3) := by decide +kernel
theorem dX2_init_35 : decode cX2_init 35 = .ok (.newarray .int, 2) := by decide +kernel
theorem dX2_init_37 : decode cX2_init 37 = .ok (.putfield 21, 3) := by decide +kernel
theorem dX2_init_40 : decode cX2_init 40 = .ok (.aload_n 0, 1) := by decide +kernel
theorem dX2_init_41 : decode cX2_init 41 = .ok (.sipush 2100, 3) := by decide +kernel
theorem dX2_init_44 : decode cX2_init 44 = .ok (.newarray .long, 2) := by decide +kernel
theorem dX2_init_46 : decode cX2_init 46 = .ok (.putfield 24, 3) := by decide +kernel
theorem dX2_init_49 : decode cX2_init 49 = .ok (.aload_n 0, 1) := by decide +kernel
theorem dX2_init_50 : decode cX2_init 50 = .ok (.sipush 2100, 3) := by decide +kernel
theorem dX2_init_53 : decode cX2_init 53 = .ok (.newarray .long, 2) := by decide +kernel
theorem dX2_init_55 : decode cX2_init 55 = .ok (.putfield 28, 3) := by decide +kernel
theorem dX2_init_58 : decode cX2_init 58 = .ok (.aload_n 0, 1) := by decide +kernel
theorem dX2_init_59 : decode cX2_init 59 = .ok (.sipush 8192, 3) := by decide +kernel
theorem dX2_init_62 : decode cX2_init 62 = .ok (.newarray .int, 2) := by decide +kernel
theorem dX2_init_64 : decode cX2_init 64 = .ok (.putfield 31, 3) := by decide +kernel
theorem dX2_init_67 : decode cX2_init 67 = .ok (.return_, 1) := by decide +kernel
theorem dX6_init_0 : decode cX6_init 0 = .ok (.aload_n 0, 1) := by decide +kernel
theorem dX6_init_1 : decode cX6_init 1 = .ok (.invokespecial 3, 3) := by decide +kernel
theorem dX6_init_4 : decode cX6_init 4 = .ok (.aload_n 0, 1) := by decide +kernel
theorem dX6_init_5 : decode cX6_init 5 = .ok (.aload_n 1, 1) := by decide +kernel
theorem dX6_init_6 : decode cX6_init 6 = .ok (.putfield 9, 3) := by decide +kernel
theorem dX6_init_9 : decode cX6_init 9 = .ok (.aload_n 0, 1) := by decide +kernel
theorem dX6_init_10 : decode cX6_init 10 = .ok (.iload_n 2, 1) := by decide +kernel
theorem dX6_init_11 : decode cX6_init 11 = .ok (.newarray .byte, 2) := by decide +kernel
theorem dX6_init_13 : decode cX6_init 13 = .ok (.putfield 15, 3) := by decide +kernel
theorem dX6_init_16 : decode cX6_init 16 = .ok (.aload_n 0, 1) := by decide +kernel
theorem dX6_init_17 : decode cX6_init 17 = .ok (.iconst 0, 1) := by decide +kernel
theorem dX6_init_18 : decode cX6_init 18 = .ok (.putfield 19, 3) := by decide +kernel
theorem dX6_init_21 : decode cX6_init 21 = .ok (.return_, 1) := by decide +kernel
theorem dX0_init_0 : decode cX0_init 0 = .ok (.aload_n 0, 1) := by decide +kernel
theorem dX0_init_1 : decode cX0_init 1 = .ok (.invokespecial 3, 3) := by decide +kernel
theorem dX0_init_4 : decode cX0_init 4 = .ok (.aload_n 0, 1) := by decide +kernel
theorem dX0_init_5 : decode cX0_init 5 = .ok (.sipush 600, 3) := by decide +kernel
theorem dX0_init_8 : decode cX0_init 8 = .ok (.newarray .int, 2) := by decide +kernel
theorem dX0_init_10 : decode cX0_init 10 = .ok (.putfield 11, 3) := by decide +kernel
theorem dX0_init_13 : decode cX0_init 13 = .ok (.aload_n 0, 1) := by decide +kernel
theorem dX0_init_14 : decode cX0_init 14 = .ok (.sipush 600, 3) := by decide +kernel
theorem dX0_init_17 : decode cX0_init 17 = .ok (.newarray .int, 2) := by decide +kernel
theorem dX0_init_19 : decode cX0_init 19 = .ok (.putfield 15, 3) := by decide +kernel
theorem dX0_init_22 : decode cX0_init 22 = .ok (.aload_n 0, 1) := by decide +kernel
theorem dX0_init_23 : decode cX0_init 23 = .ok (.sipush 600, 3) := by decide +kernel
theorem dX0_init_26 : decode cX0_init 26 = .ok (.newarray .int, 2) := by decide +kernel
theorem dX0_init_28 : decode cX0_init 28 = .ok (.putfield 18, 3) := by decide +kernel
theorem dX0_init_31 : decode cX0_init 31 = .ok (.aload_n 0, 1) := by decide +kernel
theorem dX0_init_32 : decode cX0_init 32 = .ok (.sipush 2100, 3) := by decide +kernel
theorem dX0_init_35 : decode cX0_init 35 = .ok (.newarray .int, 2) := by decide +kernel
theorem dX0_init_37 : decode cX0_init 37 = .ok (.putfield 21, 3) := by decide +kernel
theorem dX0_init_40 : decode cX0_init 40 = .ok (.aload_n 0, 1) := by decide +kernel
theorem dX0_init_41 : decode cX0_init 41 = .ok (.sipush 2100, 3) := by decide +kernel
theorem dX0_init_44 : decode cX0_init 44 = .ok (.newarray .int, 2) := by decide +kernel
theorem dX0_init_46 : decode cX0_init 46 = .ok (.putfield 24, 3) := by decide +kernel
theorem dX0_init_49 : decode cX0_init 49 = .ok (.aload_n 0, 1) := by decide +kernel
theorem dX0_init_50 : decode cX0_init 50 = .ok (.sipush 2100, 3) := by decide +kernel
theorem dX0_init_53 : decode cX0_init 53 = .ok (.newarray .int, 2) := by decide +kernel
theorem dX0_init_55 : decode cX0_init 55 = .ok (.putfield 27, 3) := by decide +kernel
theorem dX0_init_58 : decode cX0_init 58 = .ok (.aload_n 0, 1) := by decide +kernel
theorem dX0_init_59 : decode cX0_init 59 = .ok (.sipush 2100, 3) := by decide +kernel
theorem dX0_init_62 : decode cX0_init 62 = .ok (.newarray .int, 2) := by decide +kernel
theorem dX0_init_64 : decode cX0_init 64 = .ok (.putfield 30, 3) := by decide +kernel
theorem dX0_init_67 : decode cX0_init 67 = .ok (.aload_n 0, 1) := by decide +kernel
theorem dX0_init_68 : decode cX0_init 68 = .ok (.sipush 2100, 3) := by decide +kernel
theorem dX0_init_71 : decode cX0_init 71 = .ok (.newarray .int, 2) := by decide +kernel
theorem dX0_init_73 : decode cX0_init 73 = .ok (.putfield 33, 3) := by decide +kernel
theorem dX0_init_76 : decode cX0_init 76 = .ok (.aload_n 0, 1) := by decide +kernel
theorem dX0_init_77 : decode cX0_init 77 = .ok (.sipush 2100, 3) := by decide +kernel
theorem dX0_init_80 : decode cX0_init 80 = .ok (.newarray .int, 2) := by decide +kernel
theorem dX0_init_82 : decode cX0_init 82 = .ok (.putfield 36, 3) := by decide +kernel
theorem dX0_init_85 : decode cX0_init 85 = .ok (.aload_n 0, 1) := by decide +kernel
theorem dX0_init_86 : decode cX0_init 86 = .ok (.sipush 4100, 3) := by decide +kernel
theorem dX0_init_89 : decode cX0_init 89 = .ok (.newarray .int, 2) := by decide +kernel
theorem dX0_init_91 : decode cX0_init 91 = .ok (.putfield 39, 3) := by decide +kernel
theorem dX0_init_94 : decode cX0_init 94 = .ok (.aload_n 0, 1) := by decide +kernel
theorem dX0_init_95 : decode cX0_init 95 = .ok (.sipush 4100, 3) := by decide +kernel
theorem dX0_init_98 : decode cX0_init 98 = .ok (.newarray .int, 2) := by decide +kernel
theorem dX0_init_100 : decode cX0_init 100 = .ok (.putfield 42, 3) := by decide +kernel
theorem dX0_init_103 : decode cX0_init 103 = .ok (.aload_n 0, 1) := by decide +kernel
theorem dX0_init_104 : decode cX0_init 104 = .ok (.sipush 4100, 3) := by decide +kernel
theorem dX0_init_107 : decode cX0_init 107 = .ok (.newarray .int, 2) := by decide +kernel
theorem dX0_init_109 : decode cX0_init 109 = .ok (.putfield 45, 3) := by decide +kernel
theorem dX0_init_112 : decode cX0_init 112 = .ok (.aload_n 0, 1) := by decide +kernel
theorem dX0_init_113 : decode cX0_init 113 = .ok (.sipush 2100, 3) := by decide +kernel
theorem dX0_init_116 : decode cX0_init 116 = .ok (.newarray .int, 2) := by decide +kernel
theorem dX0_init_118 : decode cX0_init 118 = .ok (.putfield 50, 3) := by decide +kernel
theorem dX0_init_121 : decode cX0_init 121 = .ok (.aload_n 0, 1) := by decide +kernel
theorem dX0_init_122 : decode cX0_init 122 = .ok (.sipush 2100, 3) := by decide +kernel
theorem dX0_init_125 : decode cX0_init 125 = .ok (.newarray .int, 2) := by decide +kernel
theorem dX0_init_127 : decode cX0_init 127 = .ok (.putfield 53, 3) := by decide +kernel
theorem dX0_init_130 : decode cX0_init 130 = .ok (.aload_n 0, 1) := by decide +kernel
theorem dX0_init_131 : decode cX0_init 131 = .ok (.sipush 2100, 3) := by decide +kernel
theorem dX0_init_134 : decode cX0_init 134 = .ok (.newarray .int, 2) := by decide +kernel
theorem dX0_init_136 : decode cX0_init 136 = .ok (.putfield 56, 3) := by decide +kernel
theorem dX0_init_139 : decode cX0_init 139 = .ok (.aload_n 0, 1) := by decide +kernel
theorem dX0_init_140 : decode cX0_init 140 = .ok (.aload_n 1, 1) := by decide +kernel
theorem dX0_init_141 : decode cX0_init 141 = .ok (.putfield 59, 3) := by decide +kernel
theorem dX0_init_144 : decode cX0_init 144 = .ok (.aload_n 0, 1) := by decide +kernel
theorem dX0_init_145 : decode cX0_init 145 = .ok (.getfield 30, 3) := by decide +kernel
theorem dX0_init_148 : decode cX0_init 148 = .ok (.iconst 3, 1) := by decide +kernel
theorem dX0_init_149 : decode cX0_init 149 = .ok (.iconst 2, 1) := by decide +kernel
theorem dX0_init_150 : decode cX0_init 150 = .ok (.iastore, 1) := by decide +kernel
theorem dX0_init_151 : decode cX0_init 151 = .ok (.aload_n 0, 1) := by decide +kernel
theorem dX0_init_152 : decode cX0_init 152 = .ok (.getfield 30, 3) := by decide +kernel
theorem dX0_init_155 : decode cX0_init 155 = .ok (.iconst 4, 1) := by decide +kernel
theorem dX0_init_156 : decode cX0_init 156 = .ok (.iconst 2, 1) := by decide +kernel
theorem dX0_init_157 : decode cX0_init 157 = .ok (.iastore, 1) := by decide +kernel
theorem dX0_init_158 : decode cX0_init 158 = .ok (.aload_n 0, 1) := by decide +kernel
theorem dX0_init_159 : decode cX0_init 159 = .ok (.iconst 5, 1) := by decide +kernel
theorem dX0_init_160 : decode cX0_init 160 = .ok (.putfield 63, 3) := by decide +kernel
theorem dX0_init_163 : decode cX0_init 163 = .ok (.return_, 1) := by decide +kernel
theorem dX8_init_0 : decode cX8_init 0 = .ok (.aload_n 0, 1) := by decide +kernel
theorem dX8_init_1 : decode cX8_init 1 = .ok (.invokespecial 3, 3) := by decide +kernel
theorem dX8_init_4 : decode cX8_init 4 = .ok (.aload_n 0, 1) := by decide +kernel
theorem dX8_init_5 : decode cX8_init 5 = .ok (.sipush 2100, 3) := by decide +kernel
theorem dX8_init_8 : decode cX8_init 8 = .ok (.newarray .int, 2) := by decide +kernel
theorem dX8_init_10 : decode cX8_init 10 = .ok (.putfield 11, 3) := by decide +kernel
theorem dX8_init_13 : decode cX8_init 13 = .ok (.aload_n 0, 1) := by decide +kernel
theorem dX8_init_14 : decode cX8_init 14 = .ok (.sipush 2100, 3) := by decide +kernel
theorem dX8_init_17 : decode cX8_init 17 = .ok (.newarray .int, 2) := by decide +kernel
theorem dX8_init_19 : decode cX8_init 19 = .ok (.putfield 15, 3) := by decide +kernel
theorem dX8_init_22 : decode cX8_init 22 = .ok (.aload_n 0, 1) := by decide +kernel
theorem dX8_init_23 : decode cX8_init 23 = .ok (.sipush 2100, 3) := by decide +kernel
theorem dX8_init_26 : decode cX8_init 26 = .ok (.newarray .int, 2) := by decide +kernel
theorem dX8_init_28 : decode cX8_init 28 = .ok (.putfield 18, 3) := by decide +kernel
theorem dX8_init_31 : decode cX8_init 31 = .ok (.aload_n 0, 1) := by decide +kernel
theorem dX8_init_32 : decode cX8_init 32 = .ok (.sipush 2100, 3) := by decide +kernel
theorem dX8_init_35 : decode cX8_init 35 = .ok (.newarray .int, 2) := by decide +kernel
theorem dX8_init_37 : decode cX8_init 37 = .ok (.putfield 21, 3) := by decide +kernel
theorem dX8_init_40 : decode cX8_init 40 = .ok (.aload_n 0, 1) := by decide +kernel
theorem dX8_init_41 : decode cX8_init 41 = .ok (.sipush 2100, 3) := by decide +kernel
theorem dX8_init_44 : decode cX8_init 44 = .ok (.newarray .int, 2) := by decide +kernel
theorem dX8_init_46 : decode cX8_init 46 = .ok (.putfield 24, 3) := by decide +kernel
theorem dX8_init_49 : decode cX8_init 49 = .ok (.aload_n 0, 1) := by decide +kernel
theorem dX8_init_50 : decode cX8_init 50 = .ok (.sipush 2100, 3) := by decide +kernel
theorem dX8_init_53 : decode cX8_init 53 = .ok (.newarray .int, 2) := by decide +kernel
theorem dX8_init_55 : decode cX8_init 55 = .ok (.putfield 27, 3) := by decide +kernel
theorem dX8_init_58 : decode cX8_init 58 = .ok (.aload_n 0, 1) := by decide +kernel
theorem dX8_init_59 : decode cX8_init 59 = .ok (.sipush 2100, 3) := by decide +kernel
theorem dX8_init_62 : decode cX8_init 62 = .ok (.newarray .int, 2) := by decide +kernel
theorem dX8_init_64 : decode cX8_init 64 = .ok (.putfield 30, 3) := by decide +kernel
theorem dX8_init_67 : decode cX8_init 67 = .ok (.aload_n 0, 1) := by decide +kernel
theorem dX8_init_68 : decode cX8_init 68 = .ok (.sipush 2100, 3) := by decide +kernel
theorem dX8_init_71 : decode cX8_init 71 = .ok (.newarray .int, 2) := by decide +kernel
theorem dX8_init_73 : decode cX8_init 73 = .ok (.putfield 33, 3) := by decide +kernel
theorem dX8_init_76 : decode cX8_init 76 = .ok (.aload_n 0, 1) := by decide +kernel
theorem dX8_init_77 : decode cX8_init 77 = .ok (.sipush 2100, 3) := by decide +kernel
theorem dX8_init_80 : decode cX8_init 80 = .ok (.newarray .int, 2) := by decide +kernel
theorem dX8_init_82 : decode cX8_init 82 = .ok (.putfield 36, 3) := by decide +kernel
theorem dX8_init_85 : decode cX8_init 85 = .ok (.aload_n 0, 1) := by decide +kernel
theorem dX8_init_86 : decode cX8_init 86 = .ok (.sipush 2100, 3) := by decide +kernel
theorem dX8_init_89 : decode cX8_init 89 = .ok (.newarray .int, 2) := by decide +kernel
theorem dX8_init_91 : decode cX8_init 91 = .ok (.putfield 39, 3) := by decide +kernel
theorem dX8_init_94 : decode cX8_init 94 = .ok (.aload_n 0, 1) := by decide +kernel
theorem dX8_init_95 : decode cX8_init 95 = .ok (.sipush 2100, 3) := by decide +kernel
theorem dX8_init_98 : decode cX8_init 98 = .ok (.newarray .int, 2) := by decide +kernel
theorem dX8_init_100 : decode cX8_init 100 = .ok (.putfield 42, 3) := by decide +kernel
theorem dX8_init_103 : decode cX8_init 103 = .ok (.aload_n 0, 1) := by decide +kernel
theorem dX8_init_104 : decode cX8_init 104 = .ok (.sipush 2100, 3) := by decide +kernel
theorem dX8_init_107 : decode cX8_init 107 = .ok (.newarray .int, 2) := by decide +kernel
theorem dX8_init_109 : decode cX8_init 109 = .ok (.putfield 45, 3) := by decide +kernel
theorem dX8_init_112 : decode cX8_init 112 = .ok (.aload_n 0, 1) := by decide +kernel
theorem dX8_init_113 : decode cX8_init 113 = .ok (.sipush 2100, 3) := by decide +kernel
theorem dX8_init_116 : decode cX8_init 116 = .ok (.newarray .int, 2) := by decide +kernel
theorem dX8_init_118 : decode cX8_init 118 = .ok (.putfield 48, 3) := by decide +kernel
theorem dX8_init_121 : decode cX8_init 121 = .ok (.aload_n 0, 1) := by decide +kernel
theorem dX8_init_122 : decode cX8_init 122 = .ok (.bipush 60, 2) := by decide +kernel
theorem dX8_init_124 : decode cX8_init 124 = .ok (.newarray .int, 2) := by decide +kernel
theorem dX8_init_126 : decode cX8_init 126 = .ok (.putfield 51, 3) := by decide +kernel
theorem dX8_init_129 : decode cX8_init 129 = .ok (.aload_n 0, 1) := by decide +kernel
theorem dX8_init_130 : decode cX8_init 130 = .ok (.sipush 2100, 3) := by decide +kernel
theorem dX8_init_133 : decode cX8_init 133 = .ok (.newarray .int, 2) := by decide +kernel
theorem dX8_init_135 : decode cX8_init 135 = .ok (.putfield 56, 3) := by decide +kernel
theorem dX8_init_138 : decode cX8_init 138 = .ok (.aload_n 0, 1) := by decide +kernel
theorem dX8_init_139 : decode cX8_init 139 = .ok (.aload_n 1, 1) := by decide +kernel
theorem dX8_init_140 : decode cX8_init 140 = .ok (.putfield 59, 3) := by decide +kernel
theorem dX8_init_143 : decode cX8_init 143 = .ok (.return_, 1) := by decide +kernel
theorem dX9_init_0 : decode cX9_init 0 = .ok (.aload_n 0, 1) := by decide +kernel
theorem dX9_init_1 : decode cX9_init 1 = .ok (.invokespecial 5, 3) := by decide +kernel
theorem dX9_init_4 : decode cX9_init 4 = .ok (.aload_n 0, 1) := by decide +kernel
theorem dX9_init_5 : decode cX9_init 5 = .ok (.sipush 5600, 3) := by decide +kernel
theorem dX9_init_8 : decode cX9_init 8 = .ok (.newarray .int, 2) := by decide +kernel
theorem dX9_init_10 : decode cX9_init 10 = .ok (.putfield 13, 3) := by decide +kernel
theorem dX9_init_13 : decode cX9_init 13 = .ok (.aload_n 0, 1) := by decide +kernel
theorem dX9_init_14 : decode cX9_init 14 = .ok (.sipush 5600, 3) := by decide +kernel
theorem dX9_init_17 : decode cX9_init 17 = .ok (.newarray .int, 2) := by decide +kernel
theorem dX9_init_19 : decode cX9_init 19 = .ok (.putfield 17, 3) := by decide +kernel
theorem dX9_init_22 : decode cX9_init 22 = .ok (.aload_n 0, 1) := by decide +kernel
theorem dX9_init_23 : decode cX9_init 23 = .ok (.sipush 5600, 3) := by decide +kernel
theorem dX9_init_26 : decode cX9_init 26 = .ok (.newarray .int, 2) := by decide +kernel
theorem dX9_init_28 : decode cX9_init 28 = .ok (.putfield 20, 3) := by decide +kernel
theorem dX9_init_31 : decode cX9_init 31 = .ok (.aload_n 0, 1) := by decide +kernel
theorem dX9_init_32 : decode cX9_init 32 = .ok (.sipush 5600, 3) := by decide +kernel
theorem dX9_init_35 : decode cX9_init 35 = .ok (.newarray .int, 2) := by decide +kernel
theorem dX9_init_37 : decode cX9_init 37 = .ok (.putfield 23, 3) := by decide +kernel
theorem dX9_init_40 : decode cX9_init 40 = .ok (.aload_n 0, 1) := by decide +kernel
theorem dX9_init_41 : decode cX9_init 41 = .ok (.sipush 5600, 3) := by decide +kernel
theorem dX9_init_44 : decode cX9_init 44 = .ok (.newarray .int, 2) := by decide +kernel
theorem dX9_init_46 : decode cX9_init 46 = .ok (.putfield 26, 3) := by decide +kernel
theorem dX9_init_49 : decode cX9_init 49 = .ok (.aload_n 0, 1) := by decide +kernel
theorem dX9_init_50 : decode cX9_init 50 = .ok (.sipush 4004, 3) := by decide +kernel
theorem dX9_init_53 : decode cX9_init 53 = .ok (.newarray .int, 2) := by decide +kernel
theorem dX9_init_55 : decode cX9_init 55 = .ok (.putfield 29, 3) := by decide +kernel
theorem dX9_init_58 : decode cX9_init 58 = .ok (.aload_n 0, 1) := by decide +kernel
theorem dX9_init_59 : decode cX9_init 59 = .ok (.sipush 4004, 3) := by decide +kernel
theorem dX9_init_62 : decode cX9_init 62 = .ok (.newarray .int, 2) := by decide +kernel
theorem dX9_init_64 : decode cX9_init 64 = .ok (.putfield 32, 3) := by decide +kernel
theorem dX9_init_67 : decode cX9_init 67 = .ok (.aload_n 0, 1) := by decide +kernel
theorem dX9_init_68 : decode cX9_init 68 = .ok (.sipush 4004, 3) := by decide +kernel
theorem dX9_init_71 : decode cX9_init 71 = .ok (.newarray .int, 2) := by decide +kernel
theorem dX9_init_73 : decode cX9_init 73 = .ok (.putfield 35, 3) := by decide +kernel
theorem dX9_init_76 : decode cX9_init 76 = .ok (.aload_n 0, 1) := by decide +kernel
theorem dX9_init_77 : decode cX9_init 77 = .ok (.sipush 4004, 3) := by decide +kernel
theorem dX9_init_80 : decode cX9_init 80 = .ok (.newarray .int, 2) := by decide +kernel
theorem dX9_init_82 : decode cX9_init 82 = .ok (.putfield 38, 3) := by decide +kernel
theorem dX9_init_85 : decode cX9_init 85 = .ok (.aload_n 0, 1) := by decide +kernel
theorem dX9_init_86 : decode cX9_init 86 = .ok (.sipush 4004, 3) := by decide +kernel
theorem dX9_init_89 : decode cX9_init 89 = .ok (.newarray .int, 2) := by decide +kernel
theorem dX9_init_91 : decode cX9_init 91 = .ok (.putfield 41, 3) := by decide +kernel
theorem dX9_init_94 : decode cX9_init 94 = .ok (.aload_n 0, 1) := by decide +kernel
theorem dX9_init_95 : decode cX9_init 95 = .ok (.sipush 4004, 3) := by decide +kernel
theorem dX9_init_98 : decode cX9_init 98 = .ok (.newarray .int, 2) := by decide +kernel
theorem dX9_init_100 : decode cX9_init 100 = .ok (.putfield 44, 3) := by decide +kernel
theorem dX9_init_103 : decode cX9_init 103 = .ok (.aload_n 0, 1) := by decide +kernel
theorem dX9_init_104 : decode cX9_init 104 = .ok (.sipush 4004, 3) := by decide +kernel
theorem dX9_init_107 : decode cX9_init 107 = .ok (.newarray .int, 2) := by decide +kernel
theorem dX9_init_109 : decode cX9_init 109 = .ok (.putfield 47, 3) := by decide +kernel
theorem dX9_init_112 : decode cX9_init 112 = .ok (.aload_n 0, 1) := by decide +kernel
theorem dX9_init_113 : decode cX9_init 113 = .ok (.sipush 4004, 3) := by decide +kernel
theorem dX9_init_116 : decode cX9_init 116 = .ok (.newarray .int, 2) := by decide +kernel
theorem dX9_init_118 : decode cX9_init 118 = .ok (.putfield 50, 3) := by decide +kernel
theorem dX9_init_121 : decode cX9_init 121 = .ok (.aload_n 0, 1) := by decide +kernel
theorem dX9_init_122 : decode cX9_init 122 = .ok (.sipush 4004, 3) := by decide +kernel
theorem dX9_init_125 : decode cX9_init 125 = .ok (.newarray .int, 2) := by decide +kernel
theorem dX9_init_127 : decode cX9_init 127 = .ok (.putfield 53, 3) := by decide +kernel
theorem dX9_init_130 : decode cX9_init 130 = .ok (.aload_n 0, 1) := by decide +kernel
theorem dX9_init_131 : decode cX9_init 131 = .ok (.aload_n 1, 1) := by decide +kernel
theorem dX9_init_132 : decode cX9_init 132 = .ok (.putfield 56, 3) := by decide +kernel
theorem dX9_init_135 : decode cX9_init 135 = .ok (.aload_n 0, 1) := by decide +kernel
theorem dX9_init_136 : decode cX9_init 136 = .ok (.aload_n 2, 1) := by decide +kernel
theorem dX9_init_137 : decode cX9_init 137 = .ok (.putfield 60, 3) := by decide +kernel
theorem dX9_init_140 : decode cX9_init 140 = .ok (.aload_n 0, 1) := by decide +kernel
theorem dX9_init_141 : decode cX9_init 141 = .ok (.aload_n 3, 1) := by decide +kernel
theorem dX9_init_142 : decode cX9_init 142 = .ok (.putfield 64, 3) := by decide +kernel
theorem dX9_init_145 : decode cX9_init 145 = .ok (.return_, 1) := by decide +kernel
theorem dX1_init_0 : decode cX1_init 0 = .ok (.aload_n 0, 1) := by decide +kernel
theorem dX1_init_1 : decode cX1_init 1 = .ok (.invokespecial 5, 3) := by decide +kernel
theorem dX1_init_4 : decode cX1_init 4 = .ok (.aload_n 0, 1) := by decide +kernel
theorem dX1_init_5 : decode cX1_init 5 = .ok (.sipush 8008, 3) := by decide +kernel
theorem dX1_init_8 : decode cX1_init 8 = .ok (.newarray .int, 2) := by decide +kernel
theorem dX1_init_10 : decode cX1_init 10 = .ok (.putfield 13, 3) := by decide +kernel
theorem dX1_init_13 : decode cX1_init 13 = .ok (.aload_n 0, 1) := by decide +kernel
theorem dX1_init_14 : decode cX1_init 14 = .ok (.aload_n 1, 1) := by decide +kernel
theorem dX1_init_15 : decode cX1_init 15 = .ok (.putfield 17, 3) := by decide +kernel
theorem dX1_init_18 : decode cX1_init 18 = .ok (.return_, 1) := by decide +kernel
theorem dX11_init_0 : decode cX11_init 0 = .ok (.aload_n 0, 1) := by decide +kernel
theorem dX11_init_1 : decode cX11_init 1 = .ok (.invokespecial 9, 3) := by decide +kernel
theorem dX11_init_4 : decode cX11_init 4 = .ok (.aload_n 0, 1) := by decide +kernel
theorem dX11_init_5 : decode cX11_init 5 = .ok (.sipush 4096, 3) := by decide +kernel
theorem dX11_init_8 : decode cX11_init 8 = .ok (.newarray .byte, 2) := by decide +kernel
theorem dX11_init_10 : decode cX11_init 10 = .ok (.putfield 15, 3) := by decide +kernel
theorem dX11_init_13 : decode cX11_init 13 = .ok (.aload_n 0, 1) := by decide +kernel
theorem dX11_init_14 : decode cX11_init 14 = .ok (.sipush 4096, 3) := by decide +kernel
theorem dX11_init_17 : decode cX11_init 17 = .ok (.newarray .int, 2) := by decide +kernel
theorem dX11_init_19 : decode cX11_init 19 = .ok (.putfield 19, 3) := by decide +kernel
theorem dX11_init_22 : decode cX11_init 22 = .ok (.aload_n 0, 1) := by decide +kernel
theorem dX11_init_23 : decode cX11_init 23 = .ok (.sipush 4096, 3) := by decide +kernel
theorem dX11_init_26 : decode cX11_init 26 = .ok (.newarray .int, 2) := by decide +kernel
theorem dX11_init_28 : decode cX11_init 28 = .ok (.putfield 23, 3) := by decide +kernel
theorem dX11_init_31 : decode cX11_init 31 = .ok (.aload_n 0, 1) := by decide +kernel
theorem dX11_init_32 : decode cX11_init 32 = .ok (.sipush 4096, 3) := by decide +kernel
theorem dX11_init_35 : decode cX11_init 35 = .ok (.newarray .int, 2) := by decide +kernel
theorem dX11_init_37 : decode cX11_init 37 = .ok (.putfield 26, 3) := by decide +kernel
theorem dX11_init_40 : decode cX11_init 40 = .ok (.aload_n 0, 1) := by decide +kernel
theorem dX11_init_41 : decode cX11_init 41 = .ok (.sipush 1024, 3) := by decide +kernel
theorem dX11_init_44 : decode cX11_init 44 = .ok (.newarray .int, 2) := by decide +kernel
theorem dX11_init_46 : decode cX11_init 46 = .ok (.putfield 29, 3) := by decide +kernel
theorem dX11_init_49 : decode cX11_init 49 = .ok (.aload_n 0, 1) := by decide +kernel
theorem dX11_init_50 : decode cX11_init 50 = .ok (.sipush 1024, 3) := by decide +kernel
theorem dX11_init_53 : decode cX11_init 53 = .ok (.newarray .int, 2) := by decide +kernel
theorem dX11_init_55 : decode cX11_init 55 = .ok (.putfield 32, 3) := by decide +kernel
theorem dX11_init_58 : decode cX11_init 58 = .ok (.aload_n 0, 1) := by decide +kernel
theorem dX11_init_59 : decode cX11_init 59 = .ok (.sipush 23424, 3) := by decide +kernel
theorem dX11_init_62 : decode cX11_init 62 = .ok (.newarray .int, 2) := by decide +kernel
theorem dX11_init_64 : decode cX11_init 64 = .ok (.putfield 35, 3) := by decide +kernel
theorem dX11_init_67 : decode cX11_init 67 = .ok (.aload_n 0, 1) := by decide +kernel
theorem dX11_init_68 : decode cX11_init 68 = .ok (.sipush 366, 3) := by decide +kernel
theorem dX11_init_71 : decode cX11_init 71 = .ok (.newarray .int, 2) := by decide +kernel
theorem dX11_init_73 : decode cX11_init 73 = .ok (.putfield 38, 3) := by decide +kernel
theorem dX11_init_76 : decode cX11_init 76 = .ok (.aload_n 0, 1) := by decide +kernel
theorem dX11_init_77 : decode cX11_init 77 = .ok (.bipush 64, 2) := by decide +kernel
theorem dX11_init_79 : decode cX11_init 79 = .ok (.newarray .int, 2) := by decide +kernel
theorem dX11_init_81 : decode cX11_init 81 = .ok (.putfield 41, 3) := by decide +kernel
theorem dX11_init_84 : decode cX11_init 84 = .ok (.aload_n 0, 1) := by decide +kernel
theorem dX11_init_85 : decode cX11_init 85 = .ok (.sipush 304, 3) := by decide +kernel
theorem dX11_init_88 : decode cX11_init 88 = .ok (.newarray .int, 2) := by decide +kernel
theorem dX11_init_90 : decode cX11_init 90 = .ok (.putfield 44, 3) := by decide +kernel
theorem dX11_init_93 : decode cX11_init 93 = .ok (.aload_n 0, 1) := by decide +kernel
theorem dX11_init_94 : decode cX11_init 94 = .ok (.aload_n 1, 1) := by decide +kernel
theorem dX11_init_95 : decode cX11_init 95 = .ok (.putfield 47, 3) := by decide +kernel
theorem dX11_init_98 : decode cX11_init 98 = .ok (.return_, 1) := by decide +kernel
theorem dX10_init_0 : decode cX10_init 0 = .ok (.aload_n 0, 1) := by decide +kernel
theorem dX10_init_1 : decode cX10_init 1 = .ok (.invokespecial 3, 3) := by decide +kernel
theorem dX10_init_4 : decode cX10_init 4 = .ok (.aload_n 0, 1) := by decide +kernel
theorem dX10_init_5 : decode cX10_init 5 = .ok (.sipush 16384, 3) := by decide +kernel
theorem dX10_init_8 : decode cX10_init 8 = .ok (.newarray .int, 2) := by decide +kernel
theorem dX10_init_10 : decode cX10_init 10 = .ok (.putfield 11, 3) := by decide +kernel
theorem dX10_init_13 : decode cX10_init 13 = .ok (.aload_n 0, 1) := by decide +kernel
theorem dX10_init_14 : decode cX10_init 14 = .ok (.sipush 5600, 3) := by decide +kernel
theorem dX10_init_17 : decode cX10_init 17 = .ok (.newarray .int, 2) := by decide +kernel
theorem dX10_init_19 : decode cX10_init 19 = .ok (.putfield 17, 3) := by decide +kernel
theorem dX10_init_22 : decode cX10_init 22 = .ok (.aload_n 0, 1) := by decide +kernel
theorem dX10_init_23 : decode cX10_init 23 = .ok (.sipush 300, 3) := by decide +kernel
theorem dX10_init_26 : decode cX10_init 26 = .ok (.newarray .int, 2) := by decide +kernel
theorem dX10_init_28 : decode cX10_init 28 = .ok (.putfield 22, 3) := by decide +kernel
theorem dX10_init_31 : decode cX10_init 31 = .ok (.aload_n 0, 1) := by decide +kernel
theorem dX10_init_32 : decode cX10_init 32 = .ok (.sipush 300, 3) := by decide +kernel
theorem dX10_init_35 : decode cX10_init 35 = .ok (.newarray .int, 2) := by decide +kernel
theorem dX10_init_37 : decode cX10_init 37 = .ok (.putfield 25, 3) := by decide +kernel
theorem dX10_init_40 : decode cX10_init 40 = .ok (.aload_n 0, 1) := by decide +kernel
theorem dX10_init_41 : decode cX10_init 41 = .ok (.sipush 1500, 3) := by decide +kernel
theorem dX10_init_44 : decode cX10_init 44 = .ok (.newarray .long, 2) := by decide +kernel
theorem dX10_init_46 : decode cX10_init 46 = .ok (.putfield 28, 3) := by decide +kernel
theorem dX10_init_49 : decode cX10_init 49 = .ok (.aload_n 0, 1) := by decide +kernel
theorem dX10_init_50 : decode cX10_init 50 = .ok (.sipush 300, 3) := by decide +kernel
theorem dX10_init_53 : decode cX10_init 53 = .ok (.newarray .int, 2) := by decide +kernel
theorem dX10_init_55 : decode cX10_init 55 = .ok (.putfield 32, 3) := by decide +kernel
theorem dX10_init_58 : decode cX10_init 58 = .ok (.aload_n 0, 1) := by decide +kernel
theorem dX10_init_59 : decode cX10_init 59 = .ok (.sipush 2100, 3) := by decide +kernel
theorem dX10_init_62 : decode cX10_init 62 = .ok (.newarray .int, 2) := by decide +kernel
theorem dX10_init_64 : decode cX10_init 64 = .ok (.putfield 35, 3) := by decide +kernel
theorem dX10_init_67 : decode cX10_init 67 = .ok (.aload_n 0, 1) := by decide +kernel
theorem dX10_init_68 : decode cX10_init 68 = .ok (.sipush 2100, 3) := by decide +kernel
theorem dX10_init_71 : decode cX10_init 71 = .ok (.newarray .int, 2) := by decide +kernel
theorem dX10_init_73 : decode cX10_init 73 = .ok (.putfield 38, 3) := by decide +kernel
theorem dX10_init_76 : decode cX10_init 76 = .ok (.aload_n 0, 1) := by decide +kernel
theorem dX10_init_77 : decode cX10_init 77 = .ok (.sipush 301, 3) := by decide +kernel
theorem dX10_init_80 : decode cX10_init 80 = .ok (.newarray .int, 2) := by decide +kernel
theorem dX10_init_82 : decode cX10_init 82 = .ok (.putfield 41, 3) := by decide +kernel
theorem dX10_init_85 : decode cX10_init 85 = .ok (.aload_n 0, 1) := by decide +kernel
theorem dX10_init_86 : decode cX10_init 86 = .ok (.sipush 300, 3) := by decide +kernel
theorem dX10_init_89 : decode cX10_init 89 = .ok (.newarray .int, 2) := by decide +kernel
theorem dX10_init_91 : decode cX10_init 91 = .ok (.putfield 44, 3) := by decide +kernel
theorem dX10_init_94 : decode cX10_init 94 = .ok (.aload_n 0, 1) := by decide +kernel
theorem dX10_init_95 : decode cX10_init 95 = .ok (.aload_n 1, 1) := by decide +kernel
theorem dX10_init_96 : decode cX10_init 96 = .ok (.putfield 47, 3) := by decide +kernel
theorem dX10_init_99 : decode cX10_init 99 = .ok (.aload_n 0, 1) := by decide +kernel
theorem dX10_init_100 : decode cX10_init 100 = .ok (.aload_n 2, 1) := by decide +kernel
theorem dX10_init_101 : decode cX10_init 101 = .ok (.putfield 51, 3) := by decide +kernel
theorem dX10_init_104 : decode cX10_init 104 = .ok (.aload_n 0, 1) := by decide +kernel
theorem dX10_init_105 : decode cX10_init 105 = .ok (.aload_n 3, 1) := by decide +kernel
theorem dX10_init_106 : decode cX10_init 106 = .ok (.putfield 55, 3) := by decide +kernel
theorem dX10_init_109 : decode cX10_init 109 = .ok (.aload_n 0, 1) := by decide +kernel
theorem dX10_init_110 : decode cX10_init 110 = .ok (.aload 4, 2) := by decide +kernel
theorem dX10_init_112 : decode cX10_init 112 = .ok (.putfield 59, 3) := by decide +kernel
theorem dX10_init_115 : decode cX10_init 115 = .ok (.return_, 1) := by decide +kernel
theorem dX4_init_0 : decode cX4_init 0 = .ok (.aload_n 0, 1) := by decide +kernel
theorem dX4_init_1 : decode cX4_init 1 = .ok (.invokespecial 3, 3) := by decide +kernel
theorem dX4_init_4 : decode cX4_init 4 = .ok (.aload_n 0, 1) := by decide +kernel
theorem dX4_init_5 : decode cX4_init 5 = .ok (.sipush 28005, 3) := by decide +kernel
theorem dX4_init_8 : decode cX4_init 8 = .ok (.newarray .long, 2) := by decide +kernel
theorem dX4_init_10 : decode cX4_init 10 = .ok (.putfield 11, 3) := by decide +kernel
theorem dX4_init_13 : decode cX4_init 13 = .ok (.aload_n 0, 1) := by decide +kernel
theorem dX4_init_14 : decode cX4_init 14 = .ok (.sipush 28005, 3) := by decide +kernel
theorem dX4_init_17 : decode cX4_init 17 = .ok (.newarray .long, 2) := by decide +kernel
theorem dX4_init_19 : decode cX4_init 19 = .ok (.putfield 15, 3) := by decide +kernel
theorem dX4_init_22 : decode cX4_init 22 = .ok (.aload_n 0, 1) := by decide +kernel
theorem dX4_init_23 : decode cX4_init 23 = .ok (.iconst 5, 1) := by decide +kernel
theorem dX4_init_24 : decode cX4_init 24 = .ok (.newarray .long, 2) := by decide +kernel
theorem dX4_init_26 : decode cX4_init 26 = .ok (.putfield 18, 3) := by decide +kernel
theorem dX4_init_29 : decode cX4_init 29 = .ok (.aload_n 0, 1) := by decide +kernel
theorem dX4_init_30 : decode cX4_init 30 = .ok (.sipush 5600, 3) := by decide +kernel
theorem dX4_init_33 : decode cX4_init 33 = .ok (.newarray .int, 2) := by decide +kernel
theorem dX4_init_35 : decode cX4_init 35 = .ok (.putfield 21, 3) := by decide +kernel
theorem dX4_init_38 : decode cX4_init 38 = .ok (.aload_n 0, 1) := by decide +kernel
theorem dX4_init_39 : decode cX4_init 39 = .ok (.sipush 5600, 3) := by decide +kernel
theorem dX4_init_42 : decode cX4_init 42 = .ok (.newarray .int, 2) := by decide +kernel
theorem dX4_init_44 : decode cX4_init 44 = .ok (.putfield 25, 3) := by decide +kernel
theorem dX4_init_47 : decode cX4_init 47 = .ok (.aload_n 0, 1) := by decide +kernel
theorem dX4_init_48 : decode cX4_init 48 = .ok (.sipush 4096, 3) := by decide +kernel
theorem dX4_init_51 : decode cX4_init 51 = .ok (.newarray .int, 2) := by decide +kernel
theorem dX4_init_53 : decode cX4_init 53 = .ok (.putfield 28, 3) := by decide +kernel
theorem dX4_init_56 : decode cX4_init 56 = .ok (.aload_n 0, 1) := by decide +kernel
theorem dX4_init_57 : decode cX4_init 57 = .ok (.sipush 5600, 3) := by decide +kernel
theorem dX4_init_60 : decode cX4_init 60 = .ok (.newarray .int, 2) := by decide +kernel
theorem dX4_init_62 : decode cX4_init 62 = .ok (.putfield 31, 3) := by decide +kernel
theorem dX4_init_65 : decode cX4_init 65 = .ok (.aload_n 0, 1) := by decide +kernel
theorem dX4_init_66 : decode cX4_init 66 = .ok (.sipush 5600, 3) := by decide +kernel
theorem dX4_init_69 : decode cX4_init 69 = .ok (.newarray .int, 2) := by decide +kernel
theorem dX4_init_71 : decode cX4_init 71 = .ok (.putfield 34, 3) := by decide +kernel
theorem dX4_init_74 : decode cX4_init 74 = .ok (.aload_n 0, 1) := by decide +kernel
theorem dX4_init_75 : decode cX4_init 75 = .ok (.sipush 5600, 3) := by decide +kernel
theorem dX4_init_78 : decode cX4_init 78 = .ok (.newarray .int, 2) := by decide +kernel
theorem dX4_init_80 : decode cX4_init 80 = .ok (.putfield 37, 3) := by decide +kernel
theorem dX4_init_83 : decode cX4_init 83 = .ok (.aload_n 0, 1) := by decide +kernel
theorem dX4_init_84 : decode cX4_init 84 = .ok (.sipush 5600, 3) := by decide +kernel
theorem dX4_init_87 : decode cX4_init 87 = .ok (.newarray .int, 2) := by decide +kernel
theorem dX4_init_89 : decode cX4_init 89 = .ok (.putfield 40, 3) := by decide +kernel
theorem dX4_init_92 : decode cX4_init 92 = .ok (.aload_n 0, 1) := by decide +kernel
theorem dX4_init_93 : decode cX4_init 93 = .ok (.aload_n 1, 1) := by decide +kernel
theorem dX4_init_94 : decode cX4_init 94 = .ok (.putfield 43, 3) := by decide +kernel
theorem dX4_init_97 : decode cX4_init 97 = .ok (.aload_n 0, 1) := by decide +kernel
theorem dX4_init_98 : decode cX4_init 98 = .ok (.aload_n 2, 1) := by decide +kernel
theorem dX4_init_99 : decode cX4_init 99 = .ok (.putfield 47, 3) := by decide +kernel
theorem dX4_init_102 : decode cX4_init 102 = .ok (.return_, 1) := by decide +kernel
theorem dX7_init_0 : decode cX7_init 0 = .ok (.aload_n 0, 1) := by decide +kernel
theorem dX7_init_1 : decode cX7_init 1 = .ok (.invokespecial 3, 3) := by decide +kernel
theorem dX7_init_4 : decode cX7_init 4 = .ok (.aload_n 0, 1) := by decide +kernel
theorem dX7_init_5 : decode cX7_init 5 = .ok (.sipush 4000, 3) := by decide +kernel
theorem dX7_init_8 : decode cX7_init 8 = .ok (.newarray .long, 2) := by decide +kernel
theorem dX7_init_10 : decode cX7_init 10 = .ok (.putfield 11, 3) := by decide +kernel
theorem dX7_init_13 : decode cX7_init 13 = .ok (.aload_n 0, 1) := by decide +kernel
theorem dX7_init_14 : decode cX7_init 14 = .ok (.sipush 4000, 3) := by decide +kernel
theorem dX7_init_17 : decode cX7_init 17 = .ok (.newarray .long, 2) := by decide +kernel
theorem dX7_init_19 : decode cX7_init 19 = .ok (.putfield 15, 3) := by decide +kernel
theorem dX7_init_22 : decode cX7_init 22 = .ok (.aload_n 0, 1) := by decide +kernel
theorem dX7_init_23 : decode cX7_init 23 = .ok (.sipush 300, 3) := by decide +kernel
theorem dX7_init_26 : decode cX7_init 26 = .ok (.newarray .long, 2) := by decide +kernel
theorem dX7_init_28 : decode cX7_init 28 = .ok (.putfield 20, 3) := by decide +kernel
theorem dX7_init_31 : decode cX7_init 31 = .ok (.aload_n 0, 1) := by decide +kernel
theorem dX7_init_32 : decode cX7_init 32 = .ok (.bipush 16, 2) := by decide +kernel
theorem dX7_init_34 : decode cX7_init 34 = .ok (.newarray .long, 2) := by decide +kernel
theorem dX7_init_36 : decode cX7_init 36 = .ok (.putfield 23, 3) := by decide +kernel
theorem dX7_init_39 : decode cX7_init 39 = .ok (.aload_n 0, 1) := by decide +kernel
theorem dX7_init_40 : decode cX7_init 40 = .ok (.sipush 1000, 3) := by decide +kernel
theorem dX7_init_43 : decode cX7_init 43 = .ok (.newarray .int, 2) := by decide +kernel
theorem dX7_init_45 : decode cX7_init 45 = .ok (.putfield 26, 3) := by decide +kernel
theorem dX7_init_48 : decode cX7_init 48 = .ok (.aload_n 0, 1) := by decide +kernel
theorem dX7_init_49 : decode cX7_init 49 = .ok (.sipush 1000, 3) := by decide +kernel
theorem dX7_init_52 : decode cX7_init 52 = .ok (.newarray .int, 2) := by decide +kernel
theorem dX7_init_54 : decode cX7_init 54 = .ok (.putfield 30, 3) := by decide +kernel
theorem dX7_init_57 : decode cX7_init 57 = .ok (.aload_n 0, 1) := by decide +kernel
theorem dX7_init_58 : decode cX7_init 58 = .ok (.sipush 8192, 3) := by decide +kernel
theorem dX7_init_61 : decode cX7_init 61 = .ok (.newarray .long, 2) := by decide +kernel
theorem dX7_init_63 : decode cX7_init 63 = .ok (.putfield 33, 3) := by decide +kernel
theorem dX7_init_66 : decode cX7_init 66 = .ok (.aload_n 0, 1) := by decide +kernel
theorem dX7_init_67 : decode cX7_init 67 = .ok (.bipush 60, 2) := by decide +kernel
theorem dX7_init_69 : decode cX7_init 69 = .ok (.newarray .int, 2) := by decide +kernel
theorem dX7_init_71 : decode cX7_init 71 = .ok (.putfield 36, 3) := by decide +kernel
theorem dX7_init_74 : decode cX7_init 74 = .ok (.aload_n 0, 1) := by decide +kernel
theorem dX7_init_75 : decode cX7_init 75 = .ok (.bipush 60, 2) := by decide +kernel
theorem dX7_init_77 : decode cX7_init 77 = .ok (.newarray .long, 2) := by decide +kernel
theorem dX7_init_79 : decode cX7_init 79 = .ok (.putfield 39, 3) := by decide +kernel
theorem dX7_init_82 : decode cX7_init 82 = .ok (.aload_n 0, 1) := by decide +kernel
theorem dX7_init_83 : decode cX7_init 83 = .ok (.sipush 8000, 3) := by decide +kernel
theorem dX7_init_86 : decode cX7_init 86 = .ok (.newarray .int, 2) := by decide +kernel
theorem dX7_init_88 : decode cX7_init 88 = .ok (.putfield 42, 3) := by decide +kernel
theorem dX7_init_91 : decode cX7_init 91 = .ok (.aload_n 0, 1) := by decide +kernel
theorem dX7_init_92 : decode cX7_init 92 = .ok (.aload_n 1, 1) := by decide +kernel
theorem dX7_init_93 : decode cX7_init 93 = .ok (.putfield 45, 3) := by decide +kernel
theorem dX7_init_96 : decode cX7_init 96 = .ok (.aload_n 0, 1) := by decide +kernel
theorem dX7_init_97 : decode cX7_init 97 = .ok (.aload_n 2, 1) := by decide +kernel
theorem dX7_init_98 : decode cX7_init 98 = .ok (.putfield 49, 3) := by decide +kernel
theorem dX7_init_101 : decode cX7_init 101 = .ok (.aload_n 0, 1) := by decide +kernel
theorem dX7_init_102 : decode cX7_init 102 = .ok (.aload_n 3, 1) := by decide +kernel
theorem dX7_init_103 : decode cX7_init 103 = .ok (.putfield 53, 3) := by decide +kernel
theorem dX7_init_106 : decode cX7_init 106 = .ok (.aload_n 0, 1) := by decide +kernel
theorem dX7_init_107 : decode cX7_init 107 = .ok (.aload 4, 2) := by decide +kernel
theorem dX7_init_109 : decode cX7_init 109 = .ok (.putfield 57, 3) := by decide +kernel
theorem dX7_init_112 : decode cX7_init 112 = .ok (.return_, 1) := by decide +kernel
theorem dX5_init_0 : decode cX5_init 0 = .ok (.aload_n 0, 1) := by decide +kernel
theorem dX5_init_1 : decode cX5_init 1 = .ok (.invokespecial 3, 3) := by decide +kernel
theorem dX5_init_4 : decode cX5_init 4 = .ok (.aload_n 0, 1) := by decide +kernel
theorem dX5_init_5 : decode cX5_init 5 = .ok (.sipush 4004, 3) := by decide +kernel
theorem dX5_init_8 : decode cX5_init 8 = .ok (.newarray .int, 2) := by decide +kernel
theorem dX5_init_10 : decode cX5_init 10 = .ok (.putfield 11, 3) := by decide +kernel
theorem dX5_init_13 : decode cX5_init 13 = .ok (.aload_n 0, 1) := by decide +kernel
theorem dX5_init_14 : decode cX5_init 14 = .ok (.sipush 4004, 3) := by decide +kernel
theorem dX5_init_17 : decode cX5_init 17 = .ok (.newarray .int, 2) := by decide +kernel
theorem dX5_init_19 : decode cX5_init 19 = .ok (.putfield 17, 3) := by decide +kernel
theorem dX5_init_22 : decode cX5_init 22 = .ok (.aload_n 0, 1) := by decide +kernel
theorem dX5_init_23 : decode cX5_init 23 = .ok (.sipush 336, 3) := by decide +kernel
theorem dX5_init_26 : decode cX5_init 26 = .ok (.newarray .int, 2) := by decide +kernel
theorem dX5_init_28 : decode cX5_init 28 = .ok (.putfield 20, 3) := by decide +kernel
theorem dX5_init_31 : decode cX5_init 31 = .ok (.aload_n 0, 1) := by decide +kernel
theorem dX5_init_32 : decode cX5_init 32 = .ok (.aload_n 1, 1) := by decide +kernel
theorem dX5_init_33 : decode cX5_init 33 = .ok (.putfield 23, 3) := by decide +kernel
theorem dX5_init_36 : decode cX5_init 36 = .ok (.aload_n 0, 1) := by decide +kernel
theorem dX5_init_37 : decode cX5_init 37 = .ok (.aload_n 2, 1) := by decide +kernel
theorem dX5_init_38 : decode cX5_init 38 = .ok (.putfield 27, 3) := by decide +kernel
theorem dX5_init_41 : decode cX5_init 41 = .ok (.aload_n 0, 1) := by decide +kernel
theorem dX5_init_42 : decode cX5_init 42 = .ok (.aload_n 3, 1) := by decide +kernel
theorem dX5_init_43 : decode cX5_init 43 = .ok (.putfield 31, 3) := by decide +kernel
theorem dX5_init_46 : decode cX5_init 46 = .ok (.aload_n 0, 1) := by decide +kernel
theorem dX5_init_47 : decode cX5_init 47 = .ok (.aload 4, 2) := by decide +kernel
theorem dX5_init_49 : decode cX5_init 49 = .ok (.putfield 35, 3) := by decide +kernel
theorem dX5_init_52 : decode cX5_init 52 = .ok (.aload_n 0, 1) := by decide +kernel
theorem dX5_init_53 : decode cX5_init 53 = .ok (.new 39, 3) := by decide +kernel
theorem dX5_init_56 : decode cX5_init 56 = .ok (.dup, 1) := by decide +kernel
theorem dX5_init_57 : decode cX5_init 57 = .ok (.aload_n 1, 1) := by decide +kernel
theorem dX5_init_58 : decode cX5_init 58 = .ok (.invokespecial 41, 3) := by decide +kernel
theorem dX5_init_61 : decode cX5_init 61 = .ok (.putfield 44, 3) := by decide +kernel
theorem dX5_init_64 : decode cX5_init 64 = .ok (.return_, 1) := by decide +kernel
theorem dX3_init_0 : decode cX3_init 0 = .ok (.aload_n 0, 1) := by decide +kernel
theorem dX3_init_1 : decode cX3_init 1 = .ok (.invokespecial 3, 3) := by decide +kernel
theorem dX3_init_4 : decode cX3_init 4 = .ok (.aload_n 0, 1) := by decide +kernel
theorem dX3_init_5 : decode cX3_init 5 = .ok (.sipush 500, 3) := by decide +kernel
theorem dX3_init_8 : decode cX3_init 8 = .ok (.newarray .int, 2) := by decide +kernel
theorem dX3_init_10 : decode cX3_init 10 = .ok (.putfield 11, 3) := by decide +kernel
theorem dX3_init_13 : decode cX3_init 13 = .ok (.aload_n 0, 1) := by decide +kernel
theorem dX3_init_14 : decode cX3_init 14 = .ok (.aload_n 2, 1) := by decide +kernel
theorem dX3_init_15 : decode cX3_init 15 = .ok (.putfield 15, 3) := by decide +kernel
theorem dX3_init_18 : decode cX3_init 18 = .ok (.aload_n 0, 1) := by decide +kernel
theorem dX3_init_19 : decode cX3_init 19 = .ok (.aload_n 3, 1) := by decide +kernel
theorem dX3_init_20 : decode cX3_init 20 = .ok (.putfield 19, 3) := by decide +kernel
theorem dX3_init_23 : decode cX3_init 23 = .ok (.aload_n 0, 1) := by decide +kernel
theorem dX3_init_24 : decode cX3_init 24 = .ok (.aload 4, 2) := by decide +kernel
theorem dX3_init_26 : decode cX3_init 26 = .ok (.putfield 23, 3) := by decide +kernel
theorem dX3_init_29 : decode cX3_init 29 = .ok (.aload_n 0, 1) := by decide +kernel
theorem dX3_init_30 : decode cX3_init 30 = .ok (.aload 5, 2) := by decide +kernel
theorem dX3_init_32 : decode cX3_init 32 = .ok (.putfield 27, 3) := by decide +kernel
theorem dX3_init_35 : decode cX3_init 35 = .ok (.aload_n 0, 1) := by decide +kernel
theorem dX3_init_36 : decode cX3_init 36 = .ok (.new 31, 3) := by decide +kernel
theorem dX3_init_39 : decode cX3_init 39 = .ok (.dup, 1) := by decide +kernel
theorem dX3_init_40 : decode cX3_init 40 = .ok (.aload_n 2, 1) := by decide +kernel
theorem dX3_init_41 : decode cX3_init 41 = .ok (.aload_n 3, 1) := by decide +kernel
theorem dX3_init_42 : decode cX3_init 42 = .ok (.aload 4, 2) := by decide +kernel
theorem dX3_init_44 : decode cX3_init 44 = .ok (.aload 5, 2) := by decide +kernel
theorem dX3_init_46 : decode cX3_init 46 = .ok (.invokespecial 33, 3) := by decide +kernel
theorem dX3_init_49 : decode cX3_init 49 = .ok (.putfield 36, 3) := by decide +kernel
theorem dX3_init_52 : decode cX3_init 52 = .ok (.aload_n 0, 1) := by decide +kernel
theorem dX3_init_53 : decode cX3_init 53 = .ok (.new 40, 3) := by decide +kernel
theorem dX3_init_56 : decode cX3_init 56 = .ok (.dup, 1) := by decide +kernel
theorem dX3_init_57 : decode cX3_init 57 = .ok (.aload_n 1, 1) := by decide +kernel
theorem dX3_init_58 : decode cX3_init 58 = .ok (.sipush 1000, 3) := by decide +kernel
theorem dX3_init_61 : decode cX3_init 61 = .ok (.invokespecial 42, 3) := by decide +kernel
theorem dX3_init_64 : decode cX3_init 64 = .ok (.putfield 45, 3) := by decide +kernel
theorem dX3_init_67 : decode cX3_init 67 = .ok (.return_, 1) := by decide +kernel
def pw_c_X2_init : List Cond := .code yX2_init cX2_init 1 none :: ([.code objectInit ⟨#[0xb1]⟩ 1 none, .methodLink RX2 5 objectInit, .instanceMethod objectInit, .arrayClass .int, .fieldLink RX2 11 "NeedHouse$Lexemes" "kind" "[I", .fieldLink RX2 15 "NeedHouse$Lexemes" "line" "[I", .fieldLink RX2 18 "NeedHouse$Lexemes" "column" "[I", .fieldLink RX2 21 "NeedHouse$Lexemes" "value" "[I", .arrayClass .long, .fieldLink RX2 24 "NeedHouse$Lexemes" "head" "[J", .fieldLink RX2 28 "NeedHouse$Lexemes" "tail" "[J", .fieldLink RX2 31 "NeedHouse$Lexemes" "table" "[I"] ++ (wsX20 ++ []))
set_option maxHeartbeats 4000000 in
set_option maxRecDepth 100000 in
theorem c_X2_init (l : Launch) (dC : Nat → ClassId) (dI : Nat → Nat → Nat) (sz : Nat) (h0 : Nat) (fs : List Value) (cI : ClassId) (cL : ClassId) (hF : hasF fs 12 [(7, .int 0), (8, .int 0), (9, .int 0), (10, .int 0), (11, .int 0)]) : Met l yX2_init pw_c_X2_init ({ frames := 1, cells := 7, slots := 28408, locals := 12 }) (va_Pc [.ref h0] (fun U => U.heap.size = sz ∧ va_P (dC, dI) vwCl [(h0, .inr (2, fs))] U.heap ∧ va_K (dC, dI) vwCl [(cI, .int), (cL, .long)] U ∧ va_D (fun _ => True) [(h0, .inr (2, fs))])) (va_Qv (fun (u : (List Value) × (Nat) × (Nat) × (Nat) × (Nat) × (Nat) × (Nat) × (Nat)) => hasF u.1 12 [(0, .ref u.2.1), (1, .ref u.2.2.1), (2, .ref u.2.2.2.1), (3, .ref u.2.2.2.2.1), (4, .ref u.2.2.2.2.2.1), (5, .ref u.2.2.2.2.2.2.1), (6, .ref u.2.2.2.2.2.2.2), (7, .int 0), (8, .int 0), (9, .int 0), (10, .int 0), (11, .int 0)]) (fun (u : (List Value) × (Nat) × (Nat) × (Nat) × (Nat) × (Nat) × (Nat) × (Nat)) (t : State) => va_P (dC, dI) vwCl [(h0, .inr (2, u.1)), (u.2.1, .inl (cI, 4004, .inl (fun _ => 0))), (u.2.2.1, .inl (cI, 4004, .inl (fun _ => 0))), (u.2.2.2.1, .inl (cI, 4004, .inl (fun _ => 0))), (u.2.2.2.2.1, .inl (cI, 4004, .inl (fun _ => 0))), (u.2.2.2.2.2.1, .inl (cL, 2100, .inr (.inl (fun _ => 0)))), (u.2.2.2.2.2.2.1, .inl (cL, 2100, .inr (.inl (fun _ => 0)))), (u.2.2.2.2.2.2.2, .inl (cI, 8192, .inl (fun _ => 0)))] t.heap ∧ va_K (dC, dI) vwCl [(cI, .int), (cL, .long)] t ∧ va_D (va_A [(h0, .inr (2, fs))] sz) [(h0, .inr (2, u.1)), (u.2.1, .inl (cI, 4004, .inl (fun _ => 0))), (u.2.2.1, .inl (cI, 4004, .inl (fun _ => 0))), (u.2.2.2.1, .inl (cI, 4004, .inl (fun _ => 0))), (u.2.2.2.2.1, .inl (cI, 4004, .inl (fun _ => 0))), (u.2.2.2.2.2.1, .inl (cL, 2100, .inr (.inl (fun _ => 0)))), (u.2.2.2.2.2.2.1, .inl (cL, 2100, .inr (.inl (fun _ => 0)))), (u.2.2.2.2.2.2.2, .inl (cI, 8192, .inl (fun _ => 0)))]) (va_A [(h0, .inr (2, fs))] sz)) 7 28408 (va_A [(h0, .inr (2, fs))] sz) := by
  refine Met.ofW (cc := cX2_init) (maxL := 1) (ret := none) (by decide) rfl ?_
  intro p e s m args below meth c s₁ B hml hv
  obtain ⟨rfl, hsz, hP, hK, hD0⟩ := hv
  have hx := B.exec
  have hb := B.bytes
  have hr := B.returns
  have hts := atoms_spec (ws := pw_c_X2_init) B.pre
  have hown : s.vm.findClass RX2 = some m.cls := findClass_of_methodNamed B.named
  have hlocks := B.notSynchronized
  have hin : meth.name = "<init>" := (name_of_methodNamed B.named B.method).1
  have hin_X2 : ∀ w ∈ u_ws RX2 TX2 12, w ∈ pw_c_X2_init := fun w h => List.mem_cons_of_mem _ (List.mem_append_right _ (List.mem_append_left _ h))
  subst hsz
  have hD := hD0.self (sz := s.heap.size)
  generalize hAe : va_A [(h0, .inr (2, fs))] s.heap.size = A at hD ⊢
  have hA : ∀ q : Nat, s.heap.size ≤ q → A q := fun q h => by rw [← hAe]; exact Or.inr h
  have hS : va_S A s.heap s.heap [] := va_S.rf
  have hP : va_P (dC, dI) vwCl [(h0, .inr (2, fs))] s.heap := hP
  have hl := lv_entry ([.ref h0]) (n := 1) (Nat.le_of_ble_eq_true rfl)
  rw [lg_entry_eq]
  generalize (lg_sl ([.ref h0]) ++ List.replicate (1 - (lg_sl ([.ref h0])).length) Slot.unset).toArray = ls at hl ⊢
  have hl : lv_has ls 1 [(0, .ref h0)] := hl
  refine lv_aload_n hx hb dX2_init_0 rfl (lv_at hl 0 rfl) ?_
  refine W.objInit hx hb hown (hts (.methodLink RX2 5 objectInit) (List.mem_of_getElem? (i := 2) rfl)) (hts (.instanceMethod objectInit) (List.mem_of_getElem? (i := 3) rfl)) (hts _ (List.mem_of_getElem? (i := 1) rfl)) rfl (by rw [hml]; exact hl.1) rfl dX2_init_1 (Nat.le_of_ble_eq_true rfl) (Nat.le_of_ble_eq_true rfl) ?_
  refine W.eq (g2 := F0 m 4 ls []) rfl ?_
  refine lv_aload_n hx hb dX2_init_4 rfl (lv_at hl 0 rfl) ?_
  refine lv_sipush (v := 4004) hx hb dX2_init_5 (by decide) ?_
  refine va_newa (atype := .int) (a0 := (4004, .inl (fun _ => 0))) hx hb (hts (.arrayClass .int) (List.mem_of_getElem? (i := 4) rfl)) (ty := .int) rfl hK hP hD hS hA (na_int 4004) (by decide) (by decide +kernel) (show 4004 * 4 ≤ 536870912 by decide) (show 0 + 1 ≤ 7 by decide) (show 0 + 4004 ≤ 28408 by decide) dX2_init_8 (fun q_1 cA_2 H hK hP hD hS => ?_)
  have hK : va_K (dC, dI) vwCl [(cI, .int), (cL, .long), (cA_2, .int)] s := hK
  obtain rfl := kU_int hK 0 2 rfl rfl
  have hK := hK.sub (tys' := [(cI, .int), (cL, .long)]) [0, 1] rfl
  have hP : va_P (dC, dI) vwCl [(h0, .inr (2, fs)), (q_1, .inl (cI, 4004, .inl (fun _ => 0)))] H := hP
  have hD : va_D A [(h0, .inr (2, fs)), (q_1, .inl (cI, 4004, .inl (fun _ => 0)))] := hD
  refine W.widen (k := 1) (n := 4004) (by decide) (by decide) ?_
  refine va_putF (D := (dC, dI)) (ci := 2) (v := .ref q_1) (ty := (.array .int)) (C := RX2) (T := TX2) (N := 12) hx hb hts hin_X2 tyX2 tyX2_ok nmX2 hown hK hP hD hS 0 rfl rfl 0 (by decide) (hts (.fieldLink RX2 11 "NeedHouse$Lexemes" "kind" "[I") (List.mem_of_getElem? (i := 5) rfl)) (fun _ h9 => h9) rfl hin rfl (by decide +kernel) rfl rfl (by rw [hF.1]; decide) dX2_init_10 (fun H locs hP hD hS => ?_)
  have hP : va_P (dC, dI) vwCl [(h0, .inr (2, (fs.set 0 (.ref q_1)))), (q_1, .inl (cI, 4004, .inl (fun _ => 0)))] H := hP
  have hD : va_D A [(h0, .inr (2, (fs.set 0 (.ref q_1)))), (q_1, .inl (cI, 4004, .inl (fun _ => 0)))] := hD
  have hF_3 := hF.set 0 (.ref q_1) (l' := [(0, .ref q_1), (7, .int 0), (8, .int 0), (9, .int 0), (10, .int 0), (11, .int 0)]) (by decide) rfl
  generalize fs.set 0 (.ref q_1) = fs_4 at hP hD hF_3
  have hP : va_P (dC, dI) vwCl [(h0, .inr (2, fs_4)), (q_1, .inl (cI, 4004, .inl (fun _ => 0)))] H := hP
  have hD : va_D A [(h0, .inr (2, fs_4)), (q_1, .inl (cI, 4004, .inl (fun _ => 0)))] := hD
  refine lv_aload_n hx hb dX2_init_13 rfl (lv_at hl 0 rfl) ?_
  refine lv_sipush (v := 4004) hx hb dX2_init_14 (by decide) ?_
  refine va_newa (atype := .int) (a0 := (4004, .inl (fun _ => 0))) hx hb (hts (.arrayClass .int) (List.mem_of_getElem? (i := 4) rfl)) (ty := .int) rfl hK hP hD hS hA (na_int 4004) (by decide) (by decide +kernel) (show 4004 * 4 ≤ 536870912 by decide) (show 1 + 1 ≤ 7 by decide) (show 4004 + 4004 ≤ 28408 by decide) dX2_init_17 (fun q_5 cA_6 H hK hP hD hS => ?_)
  have hK : va_K (dC, dI) vwCl [(cI, .int), (cL, .long), (cA_6, .int)] s := hK
  obtain rfl := kU_int hK 0 2 rfl rfl
  have hK := hK.sub (tys' := [(cI, .int), (cL, .long)]) [0, 1] rfl
  have hP : va_P (dC, dI) vwCl [(h0, .inr (2, fs_4)), (q_1, .inl (cI, 4004, .inl (fun _ => 0))), (q_5, .inl (cI, 4004, .inl (fun _ => 0)))] H := hP
  have hD : va_D A [(h0, .inr (2, fs_4)), (q_1, .inl (cI, 4004, .inl (fun _ => 0))), (q_5, .inl (cI, 4004, .inl (fun _ => 0)))] := hD
  refine W.widen (k := 2) (n := 8008) (by decide) (by decide) ?_
  refine va_putF (D := (dC, dI)) (ci := 2) (v := .ref q_5) (ty := (.array .int)) (C := RX2) (T := TX2) (N := 12) hx hb hts hin_X2 tyX2 tyX2_ok nmX2 hown hK hP hD hS 0 rfl rfl 1 (by decide) (hts (.fieldLink RX2 15 "NeedHouse$Lexemes" "line" "[I") (List.mem_of_getElem? (i := 6) rfl)) (fun _ h9 => h9) rfl hin rfl (by decide +kernel) rfl rfl (by rw [hF_3.1]; decide) dX2_init_19 (fun H locs hP hD hS => ?_)
  have hP : va_P (dC, dI) vwCl [(h0, .inr (2, (fs_4.set 1 (.ref q_5)))), (q_1, .inl (cI, 4004, .inl (fun _ => 0))), (q_5, .inl (cI, 4004, .inl (fun _ => 0)))] H := hP
  have hD : va_D A [(h0, .inr (2, (fs_4.set 1 (.ref q_5)))), (q_1, .inl (cI, 4004, .inl (fun _ => 0))), (q_5, .inl (cI, 4004, .inl (fun _ => 0)))] := hD
  have hF_7 := hF_3.set 1 (.ref q_5) (l' := [(1, .ref q_5), (0, .ref q_1), (7, .int 0), (8, .int 0), (9, .int 0), (10, .int 0), (11, .int 0)]) (by decide) rfl
  generalize fs_4.set 1 (.ref q_5) = fs_8 at hP hD hF_7
  have hP : va_P (dC, dI) vwCl [(h0, .inr (2, fs_8)), (q_1, .inl (cI, 4004, .inl (fun _ => 0))), (q_5, .inl (cI, 4004, .inl (fun _ => 0)))] H := hP
  have hD : va_D A [(h0, .inr (2, fs_8)), (q_1, .inl (cI, 4004, .inl (fun _ => 0))), (q_5, .inl (cI, 4004, .inl (fun _ => 0)))] := hD
  refine lv_aload_n hx hb dX2_init_22 rfl (lv_at hl 0 rfl) ?_
  refine lv_sipush (v := 4004) hx hb dX2_init_23 (by decide) ?_
  refine va_newa (atype := .int) (a0 := (4004, .inl (fun _ => 0))) hx hb (hts (.arrayClass .int) (List.mem_of_getElem? (i := 4) rfl)) (ty := .int) rfl hK hP hD hS hA (na_int 4004) (by decide) (by decide +kernel) (show 4004 * 4 ≤ 536870912 by decide) (show 2 + 1 ≤ 7 by decide) (show 8008 + 4004 ≤ 28408 by decide) dX2_init_26 (fun q_9 cA_10 H hK hP hD hS => ?_)
  have hK : va_K (dC, dI) vwCl [(cI, .int), (cL, .long), (cA_10, .int)] s := hK
  obtain rfl := kU_int hK 0 2 rfl rfl
  have hK := hK.sub (tys' := [(cI, .int), (cL, .long)]) [0, 1] rfl
  have hP : va_P (dC, dI) vwCl [(h0, .inr (2, fs_8)), (q_1, .inl (cI, 4004, .inl (fun _ => 0))), (q_5, .inl (cI, 4004, .inl (fun _ => 0))), (q_9, .inl (cI, 4004, .inl (fun _ => 0)))] H := hP
  have hD : va_D A [(h0, .inr (2, fs_8)), (q_1, .inl (cI, 4004, .inl (fun _ => 0))), (q_5, .inl (cI, 4004, .inl (fun _ => 0))), (q_9, .inl (cI, 4004, .inl (fun _ => 0)))] := hD
  refine W.widen (k := 3) (n := 12012) (by decide) (by decide) ?_
  refine va_putF (D := (dC, dI)) (ci := 2) (v := .ref q_9) (ty := (.array .int)) (C := RX2) (T := TX2) (N := 12) hx hb hts hin_X2 tyX2 tyX2_ok nmX2 hown hK hP hD hS 0 rfl rfl 2 (by decide) (hts (.fieldLink RX2 18 "NeedHouse$Lexemes" "column" "[I") (List.mem_of_getElem? (i := 7) rfl)) (fun _ h9 => h9) rfl hin rfl (by decide +kernel) rfl rfl (by rw [hF_7.1]; decide) dX2_init_28 (fun H locs hP hD hS => ?_)
  have hP : va_P (dC, dI) vwCl [(h0, .inr (2, (fs_8.set 2 (.ref q_9)))), (q_1, .inl (cI, 4004, .inl (fun _ => 0))), (q_5, .inl (cI, 4004, .inl (fun _ => 0))), (q_9, .inl (cI, 4004, .inl (fun _ => 0)))] H := hP
  have hD : va_D A [(h0, .inr (2, (fs_8.set 2 (.ref q_9)))), (q_1, .inl (cI, 4004, .inl (fun _ => 0))), (q_5, .inl (cI, 4004, .inl (fun _ => 0))), (q_9, .inl (cI, 4004, .inl (fun _ => 0)))] := hD
  have hF_11 := hF_7.set 2 (.ref q_9) (l' := [(2, .ref q_9), (1, .ref q_5), (0, .ref q_1), (7, .int 0), (8, .int 0), (9, .int 0), (10, .int 0), (11, .int 0)]) (by decide) rfl
  generalize fs_8.set 2 (.ref q_9) = fs_12 at hP hD hF_11
  have hP : va_P (dC, dI) vwCl [(h0, .inr (2, fs_12)), (q_1, .inl (cI, 4004, .inl (fun _ => 0))), (q_5, .inl (cI, 4004, .inl (fun _ => 0))), (q_9, .inl (cI, 4004, .inl (fun _ => 0)))] H := hP
  have hD : va_D A [(h0, .inr (2, fs_12)), (q_1, .inl (cI, 4004, .inl (fun _ => 0))), (q_5, .inl (cI, 4004, .inl (fun _ => 0))), (q_9, .inl (cI, 4004, .inl (fun _ => 0)))] := hD
  refine lv_aload_n hx hb dX2_init_31 rfl (lv_at hl 0 rfl) ?_
  refine lv_sipush (v := 4004) hx hb dX2_init_32 (by decide) ?_
  refine va_newa (atype := .int) (a0 := (4004, .inl (fun _ => 0))) hx hb (hts (.arrayClass .int) (List.mem_of_getElem? (i := 4) rfl)) (ty := .int) rfl hK hP hD hS hA (na_int 4004) (by decide) (by decide +kernel) (show 4004 * 4 ≤ 536870912 by decide) (show 3 + 1 ≤ 7 by decide) (show 12012 + 4004 ≤ 28408 by decide) dX2_init_35 (fun q_13 cA_14 H hK hP hD hS => ?_)
  have hK : va_K (dC, dI) vwCl [(cI, .int), (cL, .long), (cA_14, .int)] s := hK
  obtain rfl := kU_int hK 0 2 rfl rfl
  have hK := hK.sub (tys' := [(cI, .int), (cL, .long)]) [0, 1] rfl
  have hP : va_P (dC, dI) vwCl [(h0, .inr (2, fs_12)), (q_1, .inl (cI, 4004, .inl (fun _ => 0))), (q_5, .inl (cI, 4004, .inl (fun _ => 0))), (q_9, .inl (cI, 4004, .inl (fun _ => 0))), (q_13, .inl (cI, 4004, .inl (fun _ => 0)))] H := hP
  have hD : va_D A [(h0, .inr (2, fs_12)), (q_1, .inl (cI, 4004, .inl (fun _ => 0))), (q_5, .inl (cI, 4004, .inl (fun _ => 0))), (q_9, .inl (cI, 4004, .inl (fun _ => 0))), (q_13, .inl (cI, 4004, .inl (fun _ => 0)))] := hD
  refine W.widen (k := 4) (n := 16016) (by decide) (by decide) ?_
  refine va_putF (D := (dC, dI)) (ci := 2) (v := .ref q_13) (ty := (.array .int)) (C := RX2) (T := TX2) (N := 12) hx hb hts hin_X2 tyX2 tyX2_ok nmX2 hown hK hP hD hS 0 rfl rfl 3 (by decide) (hts (.fieldLink RX2 21 "NeedHouse$Lexemes" "value" "[I") (List.mem_of_getElem? (i := 8) rfl)) (fun _ h9 => h9) rfl hin rfl (by decide +kernel) rfl rfl (by rw [hF_11.1]; decide) dX2_init_37 (fun H locs hP hD hS => ?_)
  have hP : va_P (dC, dI) vwCl [(h0, .inr (2, (fs_12.set 3 (.ref q_13)))), (q_1, .inl (cI, 4004, .inl (fun _ => 0))), (q_5, .inl (cI, 4004, .inl (fun _ => 0))), (q_9, .inl (cI, 4004, .inl (fun _ => 0))), (q_13, .inl (cI, 4004, .inl (fun _ => 0)))] H := hP
  have hD : va_D A [(h0, .inr (2, (fs_12.set 3 (.ref q_13)))), (q_1, .inl (cI, 4004, .inl (fun _ => 0))), (q_5, .inl (cI, 4004, .inl (fun _ => 0))), (q_9, .inl (cI, 4004, .inl (fun _ => 0))), (q_13, .inl (cI, 4004, .inl (fun _ => 0)))] := hD
  have hF_15 := hF_11.set 3 (.ref q_13) (l' := [(3, .ref q_13), (2, .ref q_9), (1, .ref q_5), (0, .ref q_1), (7, .int 0), (8, .int 0), (9, .int 0), (10, .int 0), (11, .int 0)]) (by decide) rfl
  generalize fs_12.set 3 (.ref q_13) = fs_16 at hP hD hF_15
  have hP : va_P (dC, dI) vwCl [(h0, .inr (2, fs_16)), (q_1, .inl (cI, 4004, .inl (fun _ => 0))), (q_5, .inl (cI, 4004, .inl (fun _ => 0))), (q_9, .inl (cI, 4004, .inl (fun _ => 0))), (q_13, .inl (cI, 4004, .inl (fun _ => 0)))] H := hP
  have hD : va_D A [(h0, .inr (2, fs_16)), (q_1, .inl (cI, 4004, .inl (fun _ => 0))), (q_5, .inl (cI, 4004, .inl (fun _ => 0))), (q_9, .inl (cI, 4004, .inl (fun _ => 0))), (q_13, .inl (cI, 4004, .inl (fun _ => 0)))] := hD
  refine lv_aload_n hx hb dX2_init_40 rfl (lv_at hl 0 rfl) ?_
  refine lv_sipush (v := 2100) hx hb dX2_init_41 (by decide) ?_
  refine va_newa (atype := .long) (a0 := (2100, .inr (.inl (fun _ => 0)))) hx hb (hts (.arrayClass .long) (List.mem_of_getElem? (i := 9) rfl)) (ty := .long) rfl hK hP hD hS hA (na_long 2100) (by decide) (by decide +kernel) (show 2100 * 8 ≤ 536870912 by decide) (show 4 + 1 ≤ 7 by decide) (show 16016 + 2100 ≤ 28408 by decide) dX2_init_44 (fun q_17 cA_18 H hK hP hD hS => ?_)
  have hK : va_K (dC, dI) vwCl [(cI, .int), (cL, .long), (cA_18, .long)] s := hK
  obtain rfl := kU_long hK 1 2 rfl rfl
  have hK := hK.sub (tys' := [(cI, .int), (cL, .long)]) [0, 1] rfl
  have hP : va_P (dC, dI) vwCl [(h0, .inr (2, fs_16)), (q_1, .inl (cI, 4004, .inl (fun _ => 0))), (q_5, .inl (cI, 4004, .inl (fun _ => 0))), (q_9, .inl (cI, 4004, .inl (fun _ => 0))), (q_13, .inl (cI, 4004, .inl (fun _ => 0))), (q_17, .inl (cL, 2100, .inr (.inl (fun _ => 0))))] H := hP
  have hD : va_D A [(h0, .inr (2, fs_16)), (q_1, .inl (cI, 4004, .inl (fun _ => 0))), (q_5, .inl (cI, 4004, .inl (fun _ => 0))), (q_9, .inl (cI, 4004, .inl (fun _ => 0))), (q_13, .inl (cI, 4004, .inl (fun _ => 0))), (q_17, .inl (cL, 2100, .inr (.inl (fun _ => 0))))] := hD
  refine W.widen (k := 5) (n := 18116) (by decide) (by decide) ?_
  refine va_putF (D := (dC, dI)) (ci := 2) (v := .ref q_17) (ty := (.array .long)) (C := RX2) (T := TX2) (N := 12) hx hb hts hin_X2 tyX2 tyX2_ok nmX2 hown hK hP hD hS 0 rfl rfl 4 (by decide) (hts (.fieldLink RX2 24 "NeedHouse$Lexemes" "head" "[J") (List.mem_of_getElem? (i := 10) rfl)) (fun _ h9 => h9) rfl hin rfl (by decide +kernel) rfl rfl (by rw [hF_15.1]; decide) dX2_init_46 (fun H locs hP hD hS => ?_)
  have hP : va_P (dC, dI) vwCl [(h0, .inr (2, (fs_16.set 4 (.ref q_17)))), (q_1, .inl (cI, 4004, .inl (fun _ => 0))), (q_5, .inl (cI, 4004, .inl (fun _ => 0))), (q_9, .inl (cI, 4004, .inl (fun _ => 0))), (q_13, .inl (cI, 4004, .inl (fun _ => 0))), (q_17, .inl (cL, 2100, .inr (.inl (fun _ => 0))))] H := hP
  have hD : va_D A [(h0, .inr (2, (fs_16.set 4 (.ref q_17)))), (q_1, .inl (cI, 4004, .inl (fun _ => 0))), (q_5, .inl (cI, 4004, .inl (fun _ => 0))), (q_9, .inl (cI, 4004, .inl (fun _ => 0))), (q_13, .inl (cI, 4004, .inl (fun _ => 0))), (q_17, .inl (cL, 2100, .inr (.inl (fun _ => 0))))] := hD
  have hF_19 := hF_15.set 4 (.ref q_17) (l' := [(4, .ref q_17), (3, .ref q_13), (2, .ref q_9), (1, .ref q_5), (0, .ref q_1), (7, .int 0), (8, .int 0), (9, .int 0), (10, .int 0), (11, .int 0)]) (by decide) rfl
  generalize fs_16.set 4 (.ref q_17) = fs_20 at hP hD hF_19
  have hP : va_P (dC, dI) vwCl [(h0, .inr (2, fs_20)), (q_1, .inl (cI, 4004, .inl (fun _ => 0))), (q_5, .inl (cI, 4004, .inl (fun _ => 0))), (q_9, .inl (cI, 4004, .inl (fun _ => 0))), (q_13, .inl (cI, 4004, .inl (fun _ => 0))), (q_17, .inl (cL, 2100, .inr (.inl (fun _ => 0))))] H := hP
  have hD : va_D A [(h0, .inr (2, fs_20)), (q_1, .inl (cI, 4004, .inl (fun _ => 0))), (q_5, .inl (cI, 4004, .inl (fun _ => 0))), (q_9, .inl (cI, 4004, .inl (fun _ => 0))), (q_13, .inl (cI, 4004, .inl (fun _ => 0))), (q_17, .inl (cL, 2100, .inr (.inl (fun _ => 0))))] := hD
  refine lv_aload_n hx hb dX2_init_49 rfl (lv_at hl 0 rfl) ?_
  refine lv_sipush (v := 2100) hx hb dX2_init_50 (by decide) ?_
  refine va_newa (atype := .long) (a0 := (2100, .inr (.inl (fun _ => 0)))) hx hb (hts (.arrayClass .long) (List.mem_of_getElem? (i := 9) rfl)) (ty := .long) rfl hK hP hD hS hA (na_long 2100) (by decide) (by decide +kernel) (show 2100 * 8 ≤ 536870912 by decide) (show 5 + 1 ≤ 7 by decide) (show 18116 + 2100 ≤ 28408 by decide) dX2_init_53 (fun q_21 cA_22 H hK hP hD hS => ?_)
  have hK : va_K (dC, dI) vwCl [(cI, .int), (cL, .long), (cA_22, .long)] s := hK
  obtain rfl := kU_long hK 1 2 rfl rfl
  have hK := hK.sub (tys' := [(cI, .int), (cL, .long)]) [0, 1] rfl
  have hP : va_P (dC, dI) vwCl [(h0, .inr (2, fs_20)), (q_1, .inl (cI, 4004, .inl (fun _ => 0))), (q_5, .inl (cI, 4004, .inl (fun _ => 0))), (q_9, .inl (cI, 4004, .inl (fun _ => 0))), (q_13, .inl (cI, 4004, .inl (fun _ => 0))), (q_17, .inl (cL, 2100, .inr (.inl (fun _ => 0)))), (q_21, .inl (cL, 2100, .inr (.inl (fun _ => 0))))] H := hP
  have hD : va_D A [(h0, .inr (2, fs_20)), (q_1, .inl (cI, 4004, .inl (fun _ => 0))), (q_5, .inl (cI, 4004, .inl (fun _ => 0))), (q_9, .inl (cI, 4004, .inl (fun _ => 0))), (q_13, .inl (cI, 4004, .inl (fun _ => 0))), (q_17, .inl (cL, 2100, .inr (.inl (fun _ => 0)))), (q_21, .inl (cL, 2100, .inr (.inl (fun _ => 0))))] := hD
  refine W.widen (k := 6) (n := 20216) (by decide) (by decide) ?_
  refine va_putF (D := (dC, dI)) (ci := 2) (v := .ref q_21) (ty := (.array .long)) (C := RX2) (T := TX2) (N := 12) hx hb hts hin_X2 tyX2 tyX2_ok nmX2 hown hK hP hD hS 0 rfl rfl 5 (by decide) (hts (.fieldLink RX2 28 "NeedHouse$Lexemes" "tail" "[J") (List.mem_of_getElem? (i := 11) rfl)) (fun _ h9 => h9) rfl hin rfl (by decide +kernel) rfl rfl (by rw [hF_19.1]; decide) dX2_init_55 (fun H locs hP hD hS => ?_)
  have hP : va_P (dC, dI) vwCl [(h0, .inr (2, (fs_20.set 5 (.ref q_21)))), (q_1, .inl (cI, 4004, .inl (fun _ => 0))), (q_5, .inl (cI, 4004, .inl (fun _ => 0))), (q_9, .inl (cI, 4004, .inl (fun _ => 0))), (q_13, .inl (cI, 4004, .inl (fun _ => 0))), (q_17, .inl (cL, 2100, .inr (.inl (fun _ => 0)))), (q_21, .inl (cL, 2100, .inr (.inl (fun _ => 0))))] H := hP
  have hD : va_D A [(h0, .inr (2, (fs_20.set 5 (.ref q_21)))), (q_1, .inl (cI, 4004, .inl (fun _ => 0))), (q_5, .inl (cI, 4004, .inl (fun _ => 0))), (q_9, .inl (cI, 4004, .inl (fun _ => 0))), (q_13, .inl (cI, 4004, .inl (fun _ => 0))), (q_17, .inl (cL, 2100, .inr (.inl (fun _ => 0)))), (q_21, .inl (cL, 2100, .inr (.inl (fun _ => 0))))] := hD
  have hF_23 := hF_19.set 5 (.ref q_21) (l' := [(5, .ref q_21), (4, .ref q_17), (3, .ref q_13), (2, .ref q_9), (1, .ref q_5), (0, .ref q_1), (7, .int 0), (8, .int 0), (9, .int 0), (10, .int 0), (11, .int 0)]) (by decide) rfl
  generalize fs_20.set 5 (.ref q_21) = fs_24 at hP hD hF_23
  have hP : va_P (dC, dI) vwCl [(h0, .inr (2, fs_24)), (q_1, .inl (cI, 4004, .inl (fun _ => 0))), (q_5, .inl (cI, 4004, .inl (fun _ => 0))), (q_9, .inl (cI, 4004, .inl (fun _ => 0))), (q_13, .inl (cI, 4004, .inl (fun _ => 0))), (q_17, .inl (cL, 2100, .inr (.inl (fun _ => 0)))), (q_21, .inl (cL, 2100, .inr (.inl (fun _ => 0))))] H := hP
  have hD : va_D A [(h0, .inr (2, fs_24)), (q_1, .inl (cI, 4004, .inl (fun _ => 0))), (q_5, .inl (cI, 4004, .inl (fun _ => 0))), (q_9, .inl (cI, 4004, .inl (fun _ => 0))), (q_13, .inl (cI, 4004, .inl (fun _ => 0))), (q_17, .inl (cL, 2100, .inr (.inl (fun _ => 0)))), (q_21, .inl (cL, 2100, .inr (.inl (fun _ => 0))))] := hD
  refine lv_aload_n hx hb dX2_init_58 rfl (lv_at hl 0 rfl) ?_
  refine lv_sipush (v := 8192) hx hb dX2_init_59 (by decide) ?_
  refine va_newa (atype := .int) (a0 := (8192, .inl (fun _ => 0))) hx hb (hts (.arrayClass .int) (List.mem_of_getElem? (i := 4) rfl)) (ty := .int) rfl hK hP hD hS hA (na_int 8192) (by decide) (by decide +kernel) (show 8192 * 4 ≤ 536870912 by decide) (show 6 + 1 ≤ 7 by decide) (show 20216 + 8192 ≤ 28408 by decide) dX2_init_62 (fun q_25 cA_26 H hK hP hD hS => ?_)
  have hK : va_K (dC, dI) vwCl [(cI, .int), (cL, .long), (cA_26, .int)] s := hK
  obtain rfl := kU_int hK 0 2 rfl rfl
  have hK := hK.sub (tys' := [(cI, .int), (cL, .long)]) [0, 1] rfl
  have hP : va_P (dC, dI) vwCl [(h0, .inr (2, fs_24)), (q_1, .inl (cI, 4004, .inl (fun _ => 0))), (q_5, .inl (cI, 4004, .inl (fun _ => 0))), (q_9, .inl (cI, 4004, .inl (fun _ => 0))), (q_13, .inl (cI, 4004, .inl (fun _ => 0))), (q_17, .inl (cL, 2100, .inr (.inl (fun _ => 0)))), (q_21, .inl (cL, 2100, .inr (.inl (fun _ => 0)))), (q_25, .inl (cI, 8192, .inl (fun _ => 0)))] H := hP
  have hD : va_D A [(h0, .inr (2, fs_24)), (q_1, .inl (cI, 4004, .inl (fun _ => 0))), (q_5, .inl (cI, 4004, .inl (fun _ => 0))), (q_9, .inl (cI, 4004, .inl (fun _ => 0))), (q_13, .inl (cI, 4004, .inl (fun _ => 0))), (q_17, .inl (cL, 2100, .inr (.inl (fun _ => 0)))), (q_21, .inl (cL, 2100, .inr (.inl (fun _ => 0)))), (q_25, .inl (cI, 8192, .inl (fun _ => 0)))] := hD
  refine W.widen (k := 7) (n := 28408) (by decide) (by decide) ?_
  refine va_putF (D := (dC, dI)) (ci := 2) (v := .ref q_25) (ty := (.array .int)) (C := RX2) (T := TX2) (N := 12) hx hb hts hin_X2 tyX2 tyX2_ok nmX2 hown hK hP hD hS 0 rfl rfl 6 (by decide) (hts (.fieldLink RX2 31 "NeedHouse$Lexemes" "table" "[I") (List.mem_of_getElem? (i := 12) rfl)) (fun _ h9 => h9) rfl hin rfl (by decide +kernel) rfl rfl (by rw [hF_23.1]; decide) dX2_init_64 (fun H locs hP hD hS => ?_)
  have hP : va_P (dC, dI) vwCl [(h0, .inr (2, (fs_24.set 6 (.ref q_25)))), (q_1, .inl (cI, 4004, .inl (fun _ => 0))), (q_5, .inl (cI, 4004, .inl (fun _ => 0))), (q_9, .inl (cI, 4004, .inl (fun _ => 0))), (q_13, .inl (cI, 4004, .inl (fun _ => 0))), (q_17, .inl (cL, 2100, .inr (.inl (fun _ => 0)))), (q_21, .inl (cL, 2100, .inr (.inl (fun _ => 0)))), (q_25, .inl (cI, 8192, .inl (fun _ => 0)))] H := hP
  have hD : va_D A [(h0, .inr (2, (fs_24.set 6 (.ref q_25)))), (q_1, .inl (cI, 4004, .inl (fun _ => 0))), (q_5, .inl (cI, 4004, .inl (fun _ => 0))), (q_9, .inl (cI, 4004, .inl (fun _ => 0))), (q_13, .inl (cI, 4004, .inl (fun _ => 0))), (q_17, .inl (cL, 2100, .inr (.inl (fun _ => 0)))), (q_21, .inl (cL, 2100, .inr (.inl (fun _ => 0)))), (q_25, .inl (cI, 8192, .inl (fun _ => 0)))] := hD
  have hF_27 := hF_23.set 6 (.ref q_25) (l' := [(6, .ref q_25), (5, .ref q_21), (4, .ref q_17), (3, .ref q_13), (2, .ref q_9), (1, .ref q_5), (0, .ref q_1), (7, .int 0), (8, .int 0), (9, .int 0), (10, .int 0), (11, .int 0)]) (by decide) rfl
  generalize fs_24.set 6 (.ref q_25) = fs_28 at hP hD hF_27
  have hP : va_P (dC, dI) vwCl [(h0, .inr (2, fs_28)), (q_1, .inl (cI, 4004, .inl (fun _ => 0))), (q_5, .inl (cI, 4004, .inl (fun _ => 0))), (q_9, .inl (cI, 4004, .inl (fun _ => 0))), (q_13, .inl (cI, 4004, .inl (fun _ => 0))), (q_17, .inl (cL, 2100, .inr (.inl (fun _ => 0)))), (q_21, .inl (cL, 2100, .inr (.inl (fun _ => 0)))), (q_25, .inl (cI, 8192, .inl (fun _ => 0)))] H := hP
  have hD : va_D A [(h0, .inr (2, fs_28)), (q_1, .inl (cI, 4004, .inl (fun _ => 0))), (q_5, .inl (cI, 4004, .inl (fun _ => 0))), (q_9, .inl (cI, 4004, .inl (fun _ => 0))), (q_13, .inl (cI, 4004, .inl (fun _ => 0))), (q_17, .inl (cL, 2100, .inr (.inl (fun _ => 0)))), (q_21, .inl (cL, 2100, .inr (.inl (fun _ => 0)))), (q_25, .inl (cI, 8192, .inl (fun _ => 0)))] := hD
  have hP9 := hP.sub (ws' := [(h0, .inr (2, fs_28)), (q_1, .inl (cI, 4004, .inl (fun _ => 0))), (q_5, .inl (cI, 4004, .inl (fun _ => 0))), (q_9, .inl (cI, 4004, .inl (fun _ => 0))), (q_13, .inl (cI, 4004, .inl (fun _ => 0))), (q_17, .inl (cL, 2100, .inr (.inl (fun _ => 0)))), (q_21, .inl (cL, 2100, .inr (.inl (fun _ => 0)))), (q_25, .inl (cI, 8192, .inl (fun _ => 0)))]) [0, 1, 2, 3, 4, 5, 6, 7] rfl
  have hD9 := hD.sub (ws' := [(h0, .inr (2, fs_28)), (q_1, .inl (cI, 4004, .inl (fun _ => 0))), (q_5, .inl (cI, 4004, .inl (fun _ => 0))), (q_9, .inl (cI, 4004, .inl (fun _ => 0))), (q_13, .inl (cI, 4004, .inl (fun _ => 0))), (q_17, .inl (cL, 2100, .inr (.inl (fun _ => 0)))), (q_21, .inl (cL, 2100, .inr (.inl (fun _ => 0)))), (q_25, .inl (cI, 8192, .inl (fun _ => 0)))]) [0, 1, 2, 3, 4, 5, 6, 7] (by decide) rfl
  have hK9 := hK.sub (tys' := [(cI, .int), (cL, .long)]) [0, 1] rfl
  exact W.vret hx hb hr (fun t ht hW => ⟨⟨((fs_28, q_1, q_5, q_9, q_13, q_17, q_21, q_25)), rfl, hF_27.sub [6, 5, 4, 3, 2, 1, 0, 7, 8, 9, 10, 11] rfl, by rw [ht]; exact hP9, va_K.moved hW.alike hK9, hD9⟩, hS.F ht⟩) hS.2.2 dX2_init_67
def pw_c_X6_init_1000 : List Cond := .code yX6_init cX6_init 3 none :: ([.code objectInit ⟨#[0xb1]⟩ 1 none, .methodLink RX6 3 objectInit, .instanceMethod objectInit, .fieldLink RX6 9 "NeedHouse$Sheet" "lexemes" "LNeedHouse$Lexemes;", .arrayClass .byte, .fieldLink RX6 15 "NeedHouse$Sheet" "row" "[B", .fieldLink RX6 19 "NeedHouse$Sheet" "size" "I"] ++ (wsX60 ++ []))
set_option maxHeartbeats 4000000 in
set_option maxRecDepth 100000 in
theorem c_X6_init_1000 (l : Launch) (dC : Nat → ClassId) (dI : Nat → Nat → Nat) (sz : Nat) (h0 : Nat) (fs : List Value) (cB : ClassId) (p0 : Nat) (hF : hasF fs 3 [(2, .int 0)]) : Met l yX6_init pw_c_X6_init_1000 ({ frames := 1, cells := 1, slots := 1000, locals := 12 }) (va_Pc [.ref h0, .ref p0, .int 1000] (fun U => U.heap.size = sz ∧ va_P (dC, dI) vwCl [(h0, .inr (6, fs))] U.heap ∧ va_K (dC, dI) vwCl [(cB, .byte)] U ∧ va_D (fun _ => True) [(h0, .inr (6, fs))])) (va_Qv (fun (u : (List Value)) => hasF u 3 [(0, .ref p0), (2, .int 0)]) (fun (u : (List Value)) (t : State) => va_P (dC, dI) vwCl [(h0, .inr (6, u))] t.heap ∧ va_K (dC, dI) vwCl [(cB, .byte)] t ∧ va_D (va_A [(h0, .inr (6, fs))] sz) [(h0, .inr (6, u))]) (va_A [(h0, .inr (6, fs))] sz)) 1 1000 (va_A [(h0, .inr (6, fs))] sz) := by
  refine Met.ofW (cc := cX6_init) (maxL := 3) (ret := none) (by decide) rfl ?_
  intro p e s m args below meth c s₁ B hml hv
  obtain ⟨rfl, hsz, hP, hK, hD0⟩ := hv
  have hx := B.exec
  have hb := B.bytes
  have hr := B.returns
  have hts := atoms_spec (ws := pw_c_X6_init_1000) B.pre
  have hown : s.vm.findClass RX6 = some m.cls := findClass_of_methodNamed B.named
  have hlocks := B.notSynchronized
  have hin : meth.name = "<init>" := (name_of_methodNamed B.named B.method).1
  have hin_X6 : ∀ w ∈ u_ws RX6 TX6 3, w ∈ pw_c_X6_init_1000 := fun w h => List.mem_cons_of_mem _ (List.mem_append_right _ (List.mem_append_left _ h))
  subst hsz
  have hD := hD0.self (sz := s.heap.size)
  generalize hAe : va_A [(h0, .inr (6, fs))] s.heap.size = A at hD ⊢
  have hA : ∀ q : Nat, s.heap.size ≤ q → A q := fun q h => by rw [← hAe]; exact Or.inr h
  have hS : va_S A s.heap s.heap [] := va_S.rf
  have hP : va_P (dC, dI) vwCl [(h0, .inr (6, fs))] s.heap := hP
  have hl := lv_entry ([.ref h0, .ref p0, .int 1000]) (n := 3) (Nat.le_of_ble_eq_true rfl)
  rw [lg_entry_eq]
  generalize (lg_sl ([.ref h0, .ref p0, .int 1000]) ++ List.replicate (3 - (lg_sl ([.ref h0, .ref p0, .int 1000])).length) Slot.unset).toArray = ls at hl ⊢
  have hl : lv_has ls 3 [(0, .ref h0), (1, .ref p0), (2, .int 1000)] := hl
  refine lv_aload_n hx hb dX6_init_0 rfl (lv_at hl 0 rfl) ?_
  refine W.objInit hx hb hown (hts (.methodLink RX6 3 objectInit) (List.mem_of_getElem? (i := 2) rfl)) (hts (.instanceMethod objectInit) (List.mem_of_getElem? (i := 3) rfl)) (hts _ (List.mem_of_getElem? (i := 1) rfl)) rfl (by rw [hml]; exact hl.1) rfl dX6_init_1 (Nat.le_of_ble_eq_true rfl) (Nat.le_of_ble_eq_true rfl) ?_
  refine W.eq (g2 := F0 m 4 ls []) rfl ?_
  refine lv_aload_n hx hb dX6_init_4 rfl (lv_at hl 0 rfl) ?_
  refine lv_aload_n hx hb dX6_init_5 rfl (lv_at hl 1 rfl) ?_
  refine va_putF (D := (dC, dI)) (ci := 6) (v := .ref p0) (ty := (.object "NeedHouse$Lexemes")) (C := RX6) (T := TX6) (N := 3) hx hb hts hin_X6 tyX6 tyX6_ok nmX6 hown hK hP hD hS 0 rfl rfl 0 (by decide) (hts (.fieldLink RX6 9 "NeedHouse$Sheet" "lexemes" "LNeedHouse$Lexemes;") (List.mem_of_getElem? (i := 4) rfl)) (fun _ h9 => h9) rfl hin rfl (by decide +kernel) rfl rfl (by rw [hF.1]; decide) dX6_init_6 (fun H locs hP hD hS => ?_)
  have hP : va_P (dC, dI) vwCl [(h0, .inr (6, (fs.set 0 (.ref p0))))] H := hP
  have hD : va_D A [(h0, .inr (6, (fs.set 0 (.ref p0))))] := hD
  have hF_1 := hF.set 0 (.ref p0) (l' := [(0, .ref p0), (2, .int 0)]) (by decide) rfl
  generalize fs.set 0 (.ref p0) = fs_2 at hP hD hF_1
  have hP : va_P (dC, dI) vwCl [(h0, .inr (6, fs_2))] H := hP
  have hD : va_D A [(h0, .inr (6, fs_2))] := hD
  refine lv_aload_n hx hb dX6_init_9 rfl (lv_at hl 0 rfl) ?_
  refine lv_iload_n hx hb dX6_init_10 rfl (lv_at hl 2 rfl) ?_
  refine va_newa (atype := .byte) (a0 := (1000, .inl (fun _ => 0))) hx hb (hts (.arrayClass .byte) (List.mem_of_getElem? (i := 5) rfl)) (ty := .byte) rfl hK hP hD hS hA (na_byte 1000) (by decide) (by decide +kernel) (show 1000 * 1 ≤ 536870912 by decide) (show 0 + 1 ≤ 1 by decide) (show 0 + 1000 ≤ 1000 by decide) dX6_init_11 (fun q_3 cA_4 H hK hP hD hS => ?_)
  have hK : va_K (dC, dI) vwCl [(cB, .byte), (cA_4, .byte)] s := hK
  obtain rfl := kU_byte hK 0 1 rfl rfl
  have hK := hK.sub (tys' := [(cB, .byte)]) [0] rfl
  have hP : va_P (dC, dI) vwCl [(h0, .inr (6, fs_2)), (q_3, .inl (cB, 1000, .inl (fun _ => 0)))] H := hP
  have hD : va_D A [(h0, .inr (6, fs_2)), (q_3, .inl (cB, 1000, .inl (fun _ => 0)))] := hD
  refine W.widen (k := 1) (n := 1000) (by decide) (by decide) ?_
  refine va_putF (D := (dC, dI)) (ci := 6) (v := .ref q_3) (ty := (.array .byte)) (C := RX6) (T := TX6) (N := 3) hx hb hts hin_X6 tyX6 tyX6_ok nmX6 hown hK hP hD hS 0 rfl rfl 1 (by decide) (hts (.fieldLink RX6 15 "NeedHouse$Sheet" "row" "[B") (List.mem_of_getElem? (i := 6) rfl)) (fun _ h9 => h9) rfl hin rfl (by decide +kernel) rfl rfl (by rw [hF_1.1]; decide) dX6_init_13 (fun H locs hP hD hS => ?_)
  have hP : va_P (dC, dI) vwCl [(h0, .inr (6, (fs_2.set 1 (.ref q_3)))), (q_3, .inl (cB, 1000, .inl (fun _ => 0)))] H := hP
  have hD : va_D A [(h0, .inr (6, (fs_2.set 1 (.ref q_3)))), (q_3, .inl (cB, 1000, .inl (fun _ => 0)))] := hD
  have hF_5 := hF_1.set 1 (.ref q_3) (l' := [(1, .ref q_3), (0, .ref p0), (2, .int 0)]) (by decide) rfl
  generalize fs_2.set 1 (.ref q_3) = fs_6 at hP hD hF_5
  have hP : va_P (dC, dI) vwCl [(h0, .inr (6, fs_6)), (q_3, .inl (cB, 1000, .inl (fun _ => 0)))] H := hP
  have hD : va_D A [(h0, .inr (6, fs_6)), (q_3, .inl (cB, 1000, .inl (fun _ => 0)))] := hD
  have hP := hP.sub (ws' := [(h0, .inr (6, fs_6))]) [0] rfl
  have hD := hD.sub (ws' := [(h0, .inr (6, fs_6))]) [0] (by decide) rfl
  refine lv_aload_n hx hb dX6_init_16 rfl (lv_at hl 0 rfl) ?_
  refine lv_iconst (v := 0) hx hb dX6_init_17 (by decide) ?_
  refine va_put (D := (dC, dI)) (ci := 6) (v := .int 0) (ty := .int) (C := RX6) (T := TX6) (N := 3) hx hb hts hin_X6 tyX6 tyX6_ok nmX6 hown hK hP hD hS 0 rfl rfl 2 (by decide) (hts (.fieldLink RX6 19 "NeedHouse$Sheet" "size" "I") (List.mem_of_getElem? (i := 7) rfl)) (fun _ h9 => h9) rfl (by decide +kernel) rfl rfl (by rw [hF_5.1]; decide) dX6_init_18 (fun H locs hP hD hS => ?_)
  have hP : va_P (dC, dI) vwCl [(h0, .inr (6, (fs_6.set 2 (.int 0))))] H := hP
  have hD : va_D A [(h0, .inr (6, (fs_6.set 2 (.int 0))))] := hD
  have hF_7 := hF_5.set 2 (.int 0) (l' := [(2, .int 0), (1, .ref q_3), (0, .ref p0)]) (by decide) rfl
  generalize fs_6.set 2 (.int 0) = fs_8 at hP hD hF_7
  have hP : va_P (dC, dI) vwCl [(h0, .inr (6, fs_8))] H := hP
  have hD : va_D A [(h0, .inr (6, fs_8))] := hD
  have hP9 := hP.sub (ws' := [(h0, .inr (6, fs_8))]) [0] rfl
  have hD9 := hD.sub (ws' := [(h0, .inr (6, fs_8))]) [0] (by decide) rfl
  have hK9 := hK.sub (tys' := [(cB, .byte)]) [0] rfl
  exact W.vret hx hb hr (fun t ht hW => ⟨⟨(fs_8), rfl, hF_7.sub [2, 0] rfl, by rw [ht]; exact hP9, va_K.moved hW.alike hK9, hD9⟩, hS.F ht⟩) hS.2.2 dX6_init_21
def pw_c_X6_init_1200 : List Cond := .code yX6_init cX6_init 3 none :: ([.code objectInit ⟨#[0xb1]⟩ 1 none, .methodLink RX6 3 objectInit, .instanceMethod objectInit, .fieldLink RX6 9 "NeedHouse$Sheet" "lexemes" "LNeedHouse$Lexemes;", .arrayClass .byte, .fieldLink RX6 15 "NeedHouse$Sheet" "row" "[B", .fieldLink RX6 19 "NeedHouse$Sheet" "size" "I"] ++ (wsX60 ++ []))
set_option maxHeartbeats 4000000 in
set_option maxRecDepth 100000 in
theorem c_X6_init_1200 (l : Launch) (dC : Nat → ClassId) (dI : Nat → Nat → Nat) (sz : Nat) (h0 : Nat) (fs : List Value) (cB : ClassId) (p0 : Nat) (hF : hasF fs 3 [(2, .int 0)]) : Met l yX6_init pw_c_X6_init_1200 ({ frames := 1, cells := 1, slots := 1200, locals := 12 }) (va_Pc [.ref h0, .ref p0, .int 1200] (fun U => U.heap.size = sz ∧ va_P (dC, dI) vwCl [(h0, .inr (6, fs))] U.heap ∧ va_K (dC, dI) vwCl [(cB, .byte)] U ∧ va_D (fun _ => True) [(h0, .inr (6, fs))])) (va_Qv (fun (u : (List Value)) => hasF u 3 [(0, .ref p0), (2, .int 0)]) (fun (u : (List Value)) (t : State) => va_P (dC, dI) vwCl [(h0, .inr (6, u))] t.heap ∧ va_K (dC, dI) vwCl [(cB, .byte)] t ∧ va_D (va_A [(h0, .inr (6, fs))] sz) [(h0, .inr (6, u))]) (va_A [(h0, .inr (6, fs))] sz)) 1 1200 (va_A [(h0, .inr (6, fs))] sz) := by
  refine Met.ofW (cc := cX6_init) (maxL := 3) (ret := none) (by decide) rfl ?_
  intro p e s m args below meth c s₁ B hml hv
  obtain ⟨rfl, hsz, hP, hK, hD0⟩ := hv
  have hx := B.exec
  have hb := B.bytes
  have hr := B.returns
  have hts := atoms_spec (ws := pw_c_X6_init_1200) B.pre
  have hown : s.vm.findClass RX6 = some m.cls := findClass_of_methodNamed B.named
  have hlocks := B.notSynchronized
  have hin : meth.name = "<init>" := (name_of_methodNamed B.named B.method).1
  have hin_X6 : ∀ w ∈ u_ws RX6 TX6 3, w ∈ pw_c_X6_init_1200 := fun w h => List.mem_cons_of_mem _ (List.mem_append_right _ (List.mem_append_left _ h))
  subst hsz
  have hD := hD0.self (sz := s.heap.size)
  generalize hAe : va_A [(h0, .inr (6, fs))] s.heap.size = A at hD ⊢
  have hA : ∀ q : Nat, s.heap.size ≤ q → A q := fun q h => by rw [← hAe]; exact Or.inr h
  have hS : va_S A s.heap s.heap [] := va_S.rf
  have hP : va_P (dC, dI) vwCl [(h0, .inr (6, fs))] s.heap := hP
  have hl := lv_entry ([.ref h0, .ref p0, .int 1200]) (n := 3) (Nat.le_of_ble_eq_true rfl)
  rw [lg_entry_eq]
  generalize (lg_sl ([.ref h0, .ref p0, .int 1200]) ++ List.replicate (3 - (lg_sl ([.ref h0, .ref p0, .int 1200])).length) Slot.unset).toArray = ls at hl ⊢
  have hl : lv_has ls 3 [(0, .ref h0), (1, .ref p0), (2, .int 1200)] := hl
  refine lv_aload_n hx hb dX6_init_0 rfl (lv_at hl 0 rfl) ?_
  refine W.objInit hx hb hown (hts (.methodLink RX6 3 objectInit) (List.mem_of_getElem? (i := 2) rfl)) (hts (.instanceMethod objectInit) (List.mem_of_getElem? (i := 3) rfl)) (hts _ (List.mem_of_getElem? (i := 1) rfl)) rfl (by rw [hml]; exact hl.1) rfl dX6_init_1 (Nat.le_of_ble_eq_true rfl) (Nat.le_of_ble_eq_true rfl) ?_
  refine W.eq (g2 := F0 m 4 ls []) rfl ?_
  refine lv_aload_n hx hb dX6_init_4 rfl (lv_at hl 0 rfl) ?_
  refine lv_aload_n hx hb dX6_init_5 rfl (lv_at hl 1 rfl) ?_
  refine va_putF (D := (dC, dI)) (ci := 6) (v := .ref p0) (ty := (.object "NeedHouse$Lexemes")) (C := RX6) (T := TX6) (N := 3) hx hb hts hin_X6 tyX6 tyX6_ok nmX6 hown hK hP hD hS 0 rfl rfl 0 (by decide) (hts (.fieldLink RX6 9 "NeedHouse$Sheet" "lexemes" "LNeedHouse$Lexemes;") (List.mem_of_getElem? (i := 4) rfl)) (fun _ h9 => h9) rfl hin rfl (by decide +kernel) rfl rfl (by rw [hF.1]; decide) dX6_init_6 (fun H locs hP hD hS => ?_)
  have hP : va_P (dC, dI) vwCl [(h0, .inr (6, (fs.set 0 (.ref p0))))] H := hP
  have hD : va_D A [(h0, .inr (6, (fs.set 0 (.ref p0))))] := hD
  have hF_1 := hF.set 0 (.ref p0) (l' := [(0, .ref p0), (2, .int 0)]) (by decide) rfl
  generalize fs.set 0 (.ref p0) = fs_2 at hP hD hF_1
  have hP : va_P (dC, dI) vwCl [(h0, .inr (6, fs_2))] H := hP
  have hD : va_D A [(h0, .inr (6, fs_2))] := hD
  refine lv_aload_n hx hb dX6_init_9 rfl (lv_at hl 0 rfl) ?_
  refine lv_iload_n hx hb dX6_init_10 rfl (lv_at hl 2 rfl) ?_
  refine va_newa (atype := .byte) (a0 := (1200, .inl (fun _ => 0))) hx hb (hts (.arrayClass .byte) (List.mem_of_getElem? (i := 5) rfl)) (ty := .byte) rfl hK hP hD hS hA (na_byte 1200) (by decide) (by decide +kernel) (show 1200 * 1 ≤ 536870912 by decide) (show 0 + 1 ≤ 1 by decide) (show 0 + 1200 ≤ 1200 by decide) dX6_init_11 (fun q_3 cA_4 H hK hP hD hS => ?_)
  have hK : va_K (dC, dI) vwCl [(cB, .byte), (cA_4, .byte)] s := hK
  obtain rfl := kU_byte hK 0 1 rfl rfl
  have hK := hK.sub (tys' := [(cB, .byte)]) [0] rfl
  have hP : va_P (dC, dI) vwCl [(h0, .inr (6, fs_2)), (q_3, .inl (cB, 1200, .inl (fun _ => 0)))] H := hP
  have hD : va_D A [(h0, .inr (6, fs_2)), (q_3, .inl (cB, 1200, .inl (fun _ => 0)))] := hD
  refine W.widen (k := 1) (n := 1200) (by decide) (by decide) ?_
  refine va_putF (D := (dC, dI)) (ci := 6) (v := .ref q_3) (ty := (.array .byte)) (C := RX6) (T := TX6) (N := 3) hx hb hts hin_X6 tyX6 tyX6_ok nmX6 hown hK hP hD hS 0 rfl rfl 1 (by decide) (hts (.fieldLink RX6 15 "NeedHouse$Sheet" "row" "[B") (List.mem_of_getElem? (i := 6) rfl)) (fun _ h9 => h9) rfl hin rfl (by decide +kernel) rfl rfl (by rw [hF_1.1]; decide) dX6_init_13 (fun H locs hP hD hS => ?_)
  have hP : va_P (dC, dI) vwCl [(h0, .inr (6, (fs_2.set 1 (.ref q_3)))), (q_3, .inl (cB, 1200, .inl (fun _ => 0)))] H := hP
  have hD : va_D A [(h0, .inr (6, (fs_2.set 1 (.ref q_3)))), (q_3, .inl (cB, 1200, .inl (fun _ => 0)))] := hD
  have hF_5 := hF_1.set 1 (.ref q_3) (l' := [(1, .ref q_3), (0, .ref p0), (2, .int 0)]) (by decide) rfl
  generalize fs_2.set 1 (.ref q_3) = fs_6 at hP hD hF_5
  have hP : va_P (dC, dI) vwCl [(h0, .inr (6, fs_6)), (q_3, .inl (cB, 1200, .inl (fun _ => 0)))] H := hP
  have hD : va_D A [(h0, .inr (6, fs_6)), (q_3, .inl (cB, 1200, .inl (fun _ => 0)))] := hD
  have hP := hP.sub (ws' := [(h0, .inr (6, fs_6))]) [0] rfl
  have hD := hD.sub (ws' := [(h0, .inr (6, fs_6))]) [0] (by decide) rfl
  refine lv_aload_n hx hb dX6_init_16 rfl (lv_at hl 0 rfl) ?_
  refine lv_iconst (v := 0) hx hb dX6_init_17 (by decide) ?_
  refine va_put (D := (dC, dI)) (ci := 6) (v := .int 0) (ty := .int) (C := RX6) (T := TX6) (N := 3) hx hb hts hin_X6 tyX6 tyX6_ok nmX6 hown hK hP hD hS 0 rfl rfl 2 (by decide) (hts (.fieldLink RX6 19 "NeedHouse$Sheet" "size" "I") (List.mem_of_getElem? (i := 7) rfl)) (fun _ h9 => h9) rfl (by decide +kernel) rfl rfl (by rw [hF_5.1]; decide) dX6_init_18 (fun H locs hP hD hS => ?_)
  have hP : va_P (dC, dI) vwCl [(h0, .inr (6, (fs_6.set 2 (.int 0))))] H := hP
  have hD : va_D A [(h0, .inr (6, (fs_6.set 2 (.int 0))))] := hD
  have hF_7 := hF_5.set 2 (.int 0) (l' := [(2, .int 0), (1, .ref q_3), (0, .ref p0)]) (by decide) rfl
  generalize fs_6.set 2 (.int 0) = fs_8 at hP hD hF_7
  have hP : va_P (dC, dI) vwCl [(h0, .inr (6, fs_8))] H := hP
  have hD : va_D A [(h0, .inr (6, fs_8))] := hD
  have hP9 := hP.sub (ws' := [(h0, .inr (6, fs_8))]) [0] rfl
  have hD9 := hD.sub (ws' := [(h0, .inr (6, fs_8))]) [0] (by decide) rfl
  have hK9 := hK.sub (tys' := [(cB, .byte)]) [0] rfl
  exact W.vret hx hb hr (fun t ht hW => ⟨⟨(fs_8), rfl, hF_7.sub [2, 0] rfl, by rw [ht]; exact hP9, va_K.moved hW.alike hK9, hD9⟩, hS.F ht⟩) hS.2.2 dX6_init_21
def pw_c_X0_init : List Cond := .code yX0_init cX0_init 2 none :: ([.code objectInit ⟨#[0xb1]⟩ 1 none, .methodLink RX0 3 objectInit, .instanceMethod objectInit, .arrayClass .int, .fieldLink RX0 11 "NeedHouse$Datas" "dataToken" "[I", .fieldLink RX0 15 "NeedHouse$Datas" "firstName" "[I", .fieldLink RX0 18 "NeedHouse$Datas" "nameCount" "[I", .fieldLink RX0 21 "NeedHouse$Datas" "nameToken" "[I", .fieldLink RX0 24 "NeedHouse$Datas" "conToken" "[I", .fieldLink RX0 27 "NeedHouse$Datas" "conData" "[I", .fieldLink RX0 30 "NeedHouse$Datas" "conFields" "[I", .fieldLink RX0 33 "NeedHouse$Datas" "conCode" "[I", .fieldLink RX0 36 "NeedHouse$Datas" "conCodes" "[I", .fieldLink RX0 39 "NeedHouse$Datas" "code" "[I", .fieldLink RX0 42 "NeedHouse$Datas" "codeToken" "[I", .fieldLink RX0 45 "NeedHouse$Datas" "codeParts" "[I", .fieldLink RX0 50 "NeedHouse$Datas" "typeOf" "[I", .fieldLink RX0 53 "NeedHouse$Datas" "conOf" "[I", .fieldLink RX0 56 "NeedHouse$Datas" "mark" "[I", .fieldLink RX0 59 "NeedHouse$Datas" "lexemes" "LNeedHouse$Lexemes;", .fieldLink RX0 63 "NeedHouse$Datas" "cons" "I"] ++ (wsX00 ++ []))
set_option maxHeartbeats 4000000 in
set_option maxRecDepth 100000 in
theorem c_X0_init (l : Launch) (dC : Nat → ClassId) (dI : Nat → Nat → Nat) (sz : Nat) (h0 : Nat) (fs : List Value) (cI : ClassId) (p0 : Nat) (hF : hasF fs 20 [(16, .int 0), (17, .int 0), (18, .int 0), (19, .int 0)]) : Met l yX0_init pw_c_X0_init ({ frames := 1, cells := 15, slots := 33000, locals := 12 }) (va_Pc [.ref h0, .ref p0] (fun U => U.heap.size = sz ∧ va_P (dC, dI) vwCl [(h0, .inr (0, fs))] U.heap ∧ va_K (dC, dI) vwCl [(cI, .int)] U ∧ va_D (fun _ => True) [(h0, .inr (0, fs))])) (va_Qv (fun (u : (List Value) × (Nat) × (Nat) × (Nat)) => hasF u.1 20 [(0, .ref p0), (13, .ref u.2.1), (14, .ref u.2.2.1), (15, .ref u.2.2.2), (16, .int 0), (17, .int 5), (18, .int 0), (19, .int 0)]) (fun (u : (List Value) × (Nat) × (Nat) × (Nat)) (t : State) => va_P (dC, dI) vwCl [(h0, .inr (0, u.1)), (u.2.1, .inl (cI, 2100, .inl (fun _ => 0))), (u.2.2.1, .inl (cI, 2100, .inl (fun _ => 0))), (u.2.2.2, .inl (cI, 2100, .inl (fun _ => 0)))] t.heap ∧ va_K (dC, dI) vwCl [(cI, .int)] t ∧ va_D (va_A [(h0, .inr (0, fs))] sz) [(h0, .inr (0, u.1)), (u.2.1, .inl (cI, 2100, .inl (fun _ => 0))), (u.2.2.1, .inl (cI, 2100, .inl (fun _ => 0))), (u.2.2.2, .inl (cI, 2100, .inl (fun _ => 0)))]) (va_A [(h0, .inr (0, fs))] sz)) 15 33000 (va_A [(h0, .inr (0, fs))] sz) := by
  refine Met.ofW (cc := cX0_init) (maxL := 2) (ret := none) (by decide) rfl ?_
  intro p e s m args below meth c s₁ B hml hv
  obtain ⟨rfl, hsz, hP, hK, hD0⟩ := hv
  have hx := B.exec
  have hb := B.bytes
  have hr := B.returns
  have hts := atoms_spec (ws := pw_c_X0_init) B.pre
  have hown : s.vm.findClass RX0 = some m.cls := findClass_of_methodNamed B.named
  have hlocks := B.notSynchronized
  have hin : meth.name = "<init>" := (name_of_methodNamed B.named B.method).1
  have hin_X0 : ∀ w ∈ u_ws RX0 TX0 20, w ∈ pw_c_X0_init := fun w h => List.mem_cons_of_mem _ (List.mem_append_right _ (List.mem_append_left _ h))
  subst hsz
  have hD := hD0.self (sz := s.heap.size)
  generalize hAe : va_A [(h0, .inr (0, fs))] s.heap.size = A at hD ⊢
  have hA : ∀ q : Nat, s.heap.size ≤ q → A q := fun q h => by rw [← hAe]; exact Or.inr h
  have hS : va_S A s.heap s.heap [] := va_S.rf
  have hP : va_P (dC, dI) vwCl [(h0, .inr (0, fs))] s.heap := hP
  have hl := lv_entry ([.ref h0, .ref p0]) (n := 2) (Nat.le_of_ble_eq_true rfl)
  rw [lg_entry_eq]
  generalize (lg_sl ([.ref h0, .ref p0]) ++ List.replicate (2 - (lg_sl ([.ref h0, .ref p0])).length) Slot.unset).toArray = ls at hl ⊢
  have hl : lv_has ls 2 [(0, .ref h0), (1, .ref p0)] := hl
  refine lv_aload_n hx hb dX0_init_0 rfl (lv_at hl 0 rfl) ?_
  refine W.objInit hx hb hown (hts (.methodLink RX0 3 objectInit) (List.mem_of_getElem? (i := 2) rfl)) (hts (.instanceMethod objectInit) (List.mem_of_getElem? (i := 3) rfl)) (hts _ (List.mem_of_getElem? (i := 1) rfl)) rfl (by rw [hml]; exact hl.1) rfl dX0_init_1 (Nat.le_of_ble_eq_true rfl) (Nat.le_of_ble_eq_true rfl) ?_
  refine W.eq (g2 := F0 m 4 ls []) rfl ?_
  refine lv_aload_n hx hb dX0_init_4 rfl (lv_at hl 0 rfl) ?_
  refine lv_sipush (v := 600) hx hb dX0_init_5 (by decide) ?_
  refine va_newa (atype := .int) (a0 := (600, .inl (fun _ => 0))) hx hb (hts (.arrayClass .int) (List.mem_of_getElem? (i := 4) rfl)) (ty := .int) rfl hK hP hD hS hA (na_int 600) (by decide) (by decide +kernel) (show 600 * 4 ≤ 536870912 by decide) (show 0 + 1 ≤ 15 by decide) (show 0 + 600 ≤ 33000 by decide) dX0_init_8 (fun q_1 cA_2 H hK hP hD hS => ?_)
  have hK : va_K (dC, dI) vwCl [(cI, .int), (cA_2, .int)] s := hK
  obtain rfl := kU_int hK 0 1 rfl rfl
  have hK := hK.sub (tys' := [(cI, .int)]) [0] rfl
  have hP : va_P (dC, dI) vwCl [(h0, .inr (0, fs)), (q_1, .inl (cI, 600, .inl (fun _ => 0)))] H := hP
  have hD : va_D A [(h0, .inr (0, fs)), (q_1, .inl (cI, 600, .inl (fun _ => 0)))] := hD
  refine W.widen (k := 1) (n := 600) (by decide) (by decide) ?_
  refine va_putF (D := (dC, dI)) (ci := 0) (v := .ref q_1) (ty := (.array .int)) (C := RX0) (T := TX0) (N := 20) hx hb hts hin_X0 tyX0 tyX0_ok nmX0 hown hK hP hD hS 0 rfl rfl 1 (by decide) (hts (.fieldLink RX0 11 "NeedHouse$Datas" "dataToken" "[I") (List.mem_of_getElem? (i := 5) rfl)) (fun _ h9 => h9) rfl hin rfl (by decide +kernel) rfl rfl (by rw [hF.1]; decide) dX0_init_10 (fun H locs hP hD hS => ?_)
  have hP : va_P (dC, dI) vwCl [(h0, .inr (0, (fs.set 1 (.ref q_1)))), (q_1, .inl (cI, 600, .inl (fun _ => 0)))] H := hP
  have hD : va_D A [(h0, .inr (0, (fs.set 1 (.ref q_1)))), (q_1, .inl (cI, 600, .inl (fun _ => 0)))] := hD
  have hF_3 := hF.set 1 (.ref q_1) (l' := [(1, .ref q_1), (16, .int 0), (17, .int 0), (18, .int 0), (19, .int 0)]) (by decide) rfl
  generalize fs.set 1 (.ref q_1) = fs_4 at hP hD hF_3
  have hP : va_P (dC, dI) vwCl [(h0, .inr (0, fs_4)), (q_1, .inl (cI, 600, .inl (fun _ => 0)))] H := hP
  have hD : va_D A [(h0, .inr (0, fs_4)), (q_1, .inl (cI, 600, .inl (fun _ => 0)))] := hD
  have hP := hP.sub (ws' := [(h0, .inr (0, fs_4))]) [0] rfl
  have hD := hD.sub (ws' := [(h0, .inr (0, fs_4))]) [0] (by decide) rfl
  refine lv_aload_n hx hb dX0_init_13 rfl (lv_at hl 0 rfl) ?_
  refine lv_sipush (v := 600) hx hb dX0_init_14 (by decide) ?_
  refine va_newa (atype := .int) (a0 := (600, .inl (fun _ => 0))) hx hb (hts (.arrayClass .int) (List.mem_of_getElem? (i := 4) rfl)) (ty := .int) rfl hK hP hD hS hA (na_int 600) (by decide) (by decide +kernel) (show 600 * 4 ≤ 536870912 by decide) (show 1 + 1 ≤ 15 by decide) (show 600 + 600 ≤ 33000 by decide) dX0_init_17 (fun q_5 cA_6 H hK hP hD hS => ?_)
  have hK : va_K (dC, dI) vwCl [(cI, .int), (cA_6, .int)] s := hK
  obtain rfl := kU_int hK 0 1 rfl rfl
  have hK := hK.sub (tys' := [(cI, .int)]) [0] rfl
  have hP : va_P (dC, dI) vwCl [(h0, .inr (0, fs_4)), (q_5, .inl (cI, 600, .inl (fun _ => 0)))] H := hP
  have hD : va_D A [(h0, .inr (0, fs_4)), (q_5, .inl (cI, 600, .inl (fun _ => 0)))] := hD
  refine W.widen (k := 2) (n := 1200) (by decide) (by decide) ?_
  refine va_putF (D := (dC, dI)) (ci := 0) (v := .ref q_5) (ty := (.array .int)) (C := RX0) (T := TX0) (N := 20) hx hb hts hin_X0 tyX0 tyX0_ok nmX0 hown hK hP hD hS 0 rfl rfl 2 (by decide) (hts (.fieldLink RX0 15 "NeedHouse$Datas" "firstName" "[I") (List.mem_of_getElem? (i := 6) rfl)) (fun _ h9 => h9) rfl hin rfl (by decide +kernel) rfl rfl (by rw [hF_3.1]; decide) dX0_init_19 (fun H locs hP hD hS => ?_)
  have hP : va_P (dC, dI) vwCl [(h0, .inr (0, (fs_4.set 2 (.ref q_5)))), (q_5, .inl (cI, 600, .inl (fun _ => 0)))] H := hP
  have hD : va_D A [(h0, .inr (0, (fs_4.set 2 (.ref q_5)))), (q_5, .inl (cI, 600, .inl (fun _ => 0)))] := hD
  have hF_7 := hF_3.set 2 (.ref q_5) (l' := [(2, .ref q_5), (1, .ref q_1), (16, .int 0), (17, .int 0), (18, .int 0), (19, .int 0)]) (by decide) rfl
  generalize fs_4.set 2 (.ref q_5) = fs_8 at hP hD hF_7
  have hP : va_P (dC, dI) vwCl [(h0, .inr (0, fs_8)), (q_5, .inl (cI, 600, .inl (fun _ => 0)))] H := hP
  have hD : va_D A [(h0, .inr (0, fs_8)), (q_5, .inl (cI, 600, .inl (fun _ => 0)))] := hD
  have hP := hP.sub (ws' := [(h0, .inr (0, fs_8))]) [0] rfl
  have hD := hD.sub (ws' := [(h0, .inr (0, fs_8))]) [0] (by decide) rfl
  refine lv_aload_n hx hb dX0_init_22 rfl (lv_at hl 0 rfl) ?_
  refine lv_sipush (v := 600) hx hb dX0_init_23 (by decide) ?_
  refine va_newa (atype := .int) (a0 := (600, .inl (fun _ => 0))) hx hb (hts (.arrayClass .int) (List.mem_of_getElem? (i := 4) rfl)) (ty := .int) rfl hK hP hD hS hA (na_int 600) (by decide) (by decide +kernel) (show 600 * 4 ≤ 536870912 by decide) (show 2 + 1 ≤ 15 by decide) (show 1200 + 600 ≤ 33000 by decide) dX0_init_26 (fun q_9 cA_10 H hK hP hD hS => ?_)
  have hK : va_K (dC, dI) vwCl [(cI, .int), (cA_10, .int)] s := hK
  obtain rfl := kU_int hK 0 1 rfl rfl
  have hK := hK.sub (tys' := [(cI, .int)]) [0] rfl
  have hP : va_P (dC, dI) vwCl [(h0, .inr (0, fs_8)), (q_9, .inl (cI, 600, .inl (fun _ => 0)))] H := hP
  have hD : va_D A [(h0, .inr (0, fs_8)), (q_9, .inl (cI, 600, .inl (fun _ => 0)))] := hD
  refine W.widen (k := 3) (n := 1800) (by decide) (by decide) ?_
  refine va_putF (D := (dC, dI)) (ci := 0) (v := .ref q_9) (ty := (.array .int)) (C := RX0) (T := TX0) (N := 20) hx hb hts hin_X0 tyX0 tyX0_ok nmX0 hown hK hP hD hS 0 rfl rfl 3 (by decide) (hts (.fieldLink RX0 18 "NeedHouse$Datas" "nameCount" "[I") (List.mem_of_getElem? (i := 7) rfl)) (fun _ h9 => h9) rfl hin rfl (by decide +kernel) rfl rfl (by rw [hF_7.1]; decide) dX0_init_28 (fun H locs hP hD hS => ?_)
  have hP : va_P (dC, dI) vwCl [(h0, .inr (0, (fs_8.set 3 (.ref q_9)))), (q_9, .inl (cI, 600, .inl (fun _ => 0)))] H := hP
  have hD : va_D A [(h0, .inr (0, (fs_8.set 3 (.ref q_9)))), (q_9, .inl (cI, 600, .inl (fun _ => 0)))] := hD
  have hF_11 := hF_7.set 3 (.ref q_9) (l' := [(3, .ref q_9), (2, .ref q_5), (1, .ref q_1), (16, .int 0), (17, .int 0), (18, .int 0), (19, .int 0)]) (by decide) rfl
  generalize fs_8.set 3 (.ref q_9) = fs_12 at hP hD hF_11
  have hP : va_P (dC, dI) vwCl [(h0, .inr (0, fs_12)), (q_9, .inl (cI, 600, .inl (fun _ => 0)))] H := hP
  have hD : va_D A [(h0, .inr (0, fs_12)), (q_9, .inl (cI, 600, .inl (fun _ => 0)))] := hD
  have hP := hP.sub (ws' := [(h0, .inr (0, fs_12))]) [0] rfl
  have hD := hD.sub (ws' := [(h0, .inr (0, fs_12))]) [0] (by decide) rfl
  refine lv_aload_n hx hb dX0_init_31 rfl (lv_at hl 0 rfl) ?_
  refine lv_sipush (v := 2100) hx hb dX0_init_32 (by decide) ?_
  refine va_newa (atype := .int) (a0 := (2100, .inl (fun _ => 0))) hx hb (hts (.arrayClass .int) (List.mem_of_getElem? (i := 4) rfl)) (ty := .int) rfl hK hP hD hS hA (na_int 2100) (by decide) (by decide +kernel) (show 2100 * 4 ≤ 536870912 by decide) (show 3 + 1 ≤ 15 by decide) (show 1800 + 2100 ≤ 33000 by decide) dX0_init_35 (fun q_13 cA_14 H hK hP hD hS => ?_)
  have hK : va_K (dC, dI) vwCl [(cI, .int), (cA_14, .int)] s := hK
  obtain rfl := kU_int hK 0 1 rfl rfl
  have hK := hK.sub (tys' := [(cI, .int)]) [0] rfl
  have hP : va_P (dC, dI) vwCl [(h0, .inr (0, fs_12)), (q_13, .inl (cI, 2100, .inl (fun _ => 0)))] H := hP
  have hD : va_D A [(h0, .inr (0, fs_12)), (q_13, .inl (cI, 2100, .inl (fun _ => 0)))] := hD
  refine W.widen (k := 4) (n := 3900) (by decide) (by decide) ?_
  refine va_putF (D := (dC, dI)) (ci := 0) (v := .ref q_13) (ty := (.array .int)) (C := RX0) (T := TX0) (N := 20) hx hb hts hin_X0 tyX0 tyX0_ok nmX0 hown hK hP hD hS 0 rfl rfl 4 (by decide) (hts (.fieldLink RX0 21 "NeedHouse$Datas" "nameToken" "[I") (List.mem_of_getElem? (i := 8) rfl)) (fun _ h9 => h9) rfl hin rfl (by decide +kernel) rfl rfl (by rw [hF_11.1]; decide) dX0_init_37 (fun H locs hP hD hS => ?_)
  have hP : va_P (dC, dI) vwCl [(h0, .inr (0, (fs_12.set 4 (.ref q_13)))), (q_13, .inl (cI, 2100, .inl (fun _ => 0)))] H := hP
  have hD : va_D A [(h0, .inr (0, (fs_12.set 4 (.ref q_13)))), (q_13, .inl (cI, 2100, .inl (fun _ => 0)))] := hD
  have hF_15 := hF_11.set 4 (.ref q_13) (l' := [(4, .ref q_13), (3, .ref q_9), (2, .ref q_5), (1, .ref q_1), (16, .int 0), (17, .int 0), (18, .int 0), (19, .int 0)]) (by decide) rfl
  generalize fs_12.set 4 (.ref q_13) = fs_16 at hP hD hF_15
  have hP : va_P (dC, dI) vwCl [(h0, .inr (0, fs_16)), (q_13, .inl (cI, 2100, .inl (fun _ => 0)))] H := hP
  have hD : va_D A [(h0, .inr (0, fs_16)), (q_13, .inl (cI, 2100, .inl (fun _ => 0)))] := hD
  have hP := hP.sub (ws' := [(h0, .inr (0, fs_16))]) [0] rfl
  have hD := hD.sub (ws' := [(h0, .inr (0, fs_16))]) [0] (by decide) rfl
  refine lv_aload_n hx hb dX0_init_40 rfl (lv_at hl 0 rfl) ?_
  refine lv_sipush (v := 2100) hx hb dX0_init_41 (by decide) ?_
  refine va_newa (atype := .int) (a0 := (2100, .inl (fun _ => 0))) hx hb (hts (.arrayClass .int) (List.mem_of_getElem? (i := 4) rfl)) (ty := .int) rfl hK hP hD hS hA (na_int 2100) (by decide) (by decide +kernel) (show 2100 * 4 ≤ 536870912 by decide) (show 4 + 1 ≤ 15 by decide) (show 3900 + 2100 ≤ 33000 by decide) dX0_init_44 (fun q_17 cA_18 H hK hP hD hS => ?_)
  have hK : va_K (dC, dI) vwCl [(cI, .int), (cA_18, .int)] s := hK
  obtain rfl := kU_int hK 0 1 rfl rfl
  have hK := hK.sub (tys' := [(cI, .int)]) [0] rfl
  have hP : va_P (dC, dI) vwCl [(h0, .inr (0, fs_16)), (q_17, .inl (cI, 2100, .inl (fun _ => 0)))] H := hP
  have hD : va_D A [(h0, .inr (0, fs_16)), (q_17, .inl (cI, 2100, .inl (fun _ => 0)))] := hD
  refine W.widen (k := 5) (n := 6000) (by decide) (by decide) ?_
  refine va_putF (D := (dC, dI)) (ci := 0) (v := .ref q_17) (ty := (.array .int)) (C := RX0) (T := TX0) (N := 20) hx hb hts hin_X0 tyX0 tyX0_ok nmX0 hown hK hP hD hS 0 rfl rfl 5 (by decide) (hts (.fieldLink RX0 24 "NeedHouse$Datas" "conToken" "[I") (List.mem_of_getElem? (i := 9) rfl)) (fun _ h9 => h9) rfl hin rfl (by decide +kernel) rfl rfl (by rw [hF_15.1]; decide) dX0_init_46 (fun H locs hP hD hS => ?_)
  have hP : va_P (dC, dI) vwCl [(h0, .inr (0, (fs_16.set 5 (.ref q_17)))), (q_17, .inl (cI, 2100, .inl (fun _ => 0)))] H := hP
  have hD : va_D A [(h0, .inr (0, (fs_16.set 5 (.ref q_17)))), (q_17, .inl (cI, 2100, .inl (fun _ => 0)))] := hD
  have hF_19 := hF_15.set 5 (.ref q_17) (l' := [(5, .ref q_17), (4, .ref q_13), (3, .ref q_9), (2, .ref q_5), (1, .ref q_1), (16, .int 0), (17, .int 0), (18, .int 0), (19, .int 0)]) (by decide) rfl
  generalize fs_16.set 5 (.ref q_17) = fs_20 at hP hD hF_19
  have hP : va_P (dC, dI) vwCl [(h0, .inr (0, fs_20)), (q_17, .inl (cI, 2100, .inl (fun _ => 0)))] H := hP
  have hD : va_D A [(h0, .inr (0, fs_20)), (q_17, .inl (cI, 2100, .inl (fun _ => 0)))] := hD
  have hP := hP.sub (ws' := [(h0, .inr (0, fs_20))]) [0] rfl
  have hD := hD.sub (ws' := [(h0, .inr (0, fs_20))]) [0] (by decide) rfl
  refine lv_aload_n hx hb dX0_init_49 rfl (lv_at hl 0 rfl) ?_
  refine lv_sipush (v := 2100) hx hb dX0_init_50 (by decide) ?_
  refine va_newa (atype := .int) (a0 := (2100, .inl (fun _ => 0))) hx hb (hts (.arrayClass .int) (List.mem_of_getElem? (i := 4) rfl)) (ty := .int) rfl hK hP hD hS hA (na_int 2100) (by decide) (by decide +kernel) (show 2100 * 4 ≤ 536870912 by decide) (show 5 + 1 ≤ 15 by decide) (show 6000 + 2100 ≤ 33000 by decide) dX0_init_53 (fun q_21 cA_22 H hK hP hD hS => ?_)
  have hK : va_K (dC, dI) vwCl [(cI, .int), (cA_22, .int)] s := hK
  obtain rfl := kU_int hK 0 1 rfl rfl
  have hK := hK.sub (tys' := [(cI, .int)]) [0] rfl
  have hP : va_P (dC, dI) vwCl [(h0, .inr (0, fs_20)), (q_21, .inl (cI, 2100, .inl (fun _ => 0)))] H := hP
  have hD : va_D A [(h0, .inr (0, fs_20)), (q_21, .inl (cI, 2100, .inl (fun _ => 0)))] := hD
  refine W.widen (k := 6) (n := 8100) (by decide) (by decide) ?_
  refine va_putF (D := (dC, dI)) (ci := 0) (v := .ref q_21) (ty := (.array .int)) (C := RX0) (T := TX0) (N := 20) hx hb hts hin_X0 tyX0 tyX0_ok nmX0 hown hK hP hD hS 0 rfl rfl 6 (by decide) (hts (.fieldLink RX0 27 "NeedHouse$Datas" "conData" "[I") (List.mem_of_getElem? (i := 10) rfl)) (fun _ h9 => h9) rfl hin rfl (by decide +kernel) rfl rfl (by rw [hF_19.1]; decide) dX0_init_55 (fun H locs hP hD hS => ?_)
  have hP : va_P (dC, dI) vwCl [(h0, .inr (0, (fs_20.set 6 (.ref q_21)))), (q_21, .inl (cI, 2100, .inl (fun _ => 0)))] H := hP
  have hD : va_D A [(h0, .inr (0, (fs_20.set 6 (.ref q_21)))), (q_21, .inl (cI, 2100, .inl (fun _ => 0)))] := hD
  have hF_23 := hF_19.set 6 (.ref q_21) (l' := [(6, .ref q_21), (5, .ref q_17), (4, .ref q_13), (3, .ref q_9), (2, .ref q_5), (1, .ref q_1), (16, .int 0), (17, .int 0), (18, .int 0), (19, .int 0)]) (by decide) rfl
  generalize fs_20.set 6 (.ref q_21) = fs_24 at hP hD hF_23
  have hP : va_P (dC, dI) vwCl [(h0, .inr (0, fs_24)), (q_21, .inl (cI, 2100, .inl (fun _ => 0)))] H := hP
  have hD : va_D A [(h0, .inr (0, fs_24)), (q_21, .inl (cI, 2100, .inl (fun _ => 0)))] := hD
  have hP := hP.sub (ws' := [(h0, .inr (0, fs_24))]) [0] rfl
  have hD := hD.sub (ws' := [(h0, .inr (0, fs_24))]) [0] (by decide) rfl
  refine lv_aload_n hx hb dX0_init_58 rfl (lv_at hl 0 rfl) ?_
  refine lv_sipush (v := 2100) hx hb dX0_init_59 (by decide) ?_
  refine va_newa (atype := .int) (a0 := (2100, .inl (fun _ => 0))) hx hb (hts (.arrayClass .int) (List.mem_of_getElem? (i := 4) rfl)) (ty := .int) rfl hK hP hD hS hA (na_int 2100) (by decide) (by decide +kernel) (show 2100 * 4 ≤ 536870912 by decide) (show 6 + 1 ≤ 15 by decide) (show 8100 + 2100 ≤ 33000 by decide) dX0_init_62 (fun q_25 cA_26 H hK hP hD hS => ?_)
  have hK : va_K (dC, dI) vwCl [(cI, .int), (cA_26, .int)] s := hK
  obtain rfl := kU_int hK 0 1 rfl rfl
  have hK := hK.sub (tys' := [(cI, .int)]) [0] rfl
  have hP : va_P (dC, dI) vwCl [(h0, .inr (0, fs_24)), (q_25, .inl (cI, 2100, .inl (fun _ => 0)))] H := hP
  have hD : va_D A [(h0, .inr (0, fs_24)), (q_25, .inl (cI, 2100, .inl (fun _ => 0)))] := hD
  refine W.widen (k := 7) (n := 10200) (by decide) (by decide) ?_
  refine va_putF (D := (dC, dI)) (ci := 0) (v := .ref q_25) (ty := (.array .int)) (C := RX0) (T := TX0) (N := 20) hx hb hts hin_X0 tyX0 tyX0_ok nmX0 hown hK hP hD hS 0 rfl rfl 7 (by decide) (hts (.fieldLink RX0 30 "NeedHouse$Datas" "conFields" "[I") (List.mem_of_getElem? (i := 11) rfl)) (fun _ h9 => h9) rfl hin rfl (by decide +kernel) rfl rfl (by rw [hF_23.1]; decide) dX0_init_64 (fun H locs hP hD hS => ?_)
  have hP : va_P (dC, dI) vwCl [(h0, .inr (0, (fs_24.set 7 (.ref q_25)))), (q_25, .inl (cI, 2100, .inl (fun _ => 0)))] H := hP
  have hD : va_D A [(h0, .inr (0, (fs_24.set 7 (.ref q_25)))), (q_25, .inl (cI, 2100, .inl (fun _ => 0)))] := hD
  have hF_27 := hF_23.set 7 (.ref q_25) (l' := [(7, .ref q_25), (6, .ref q_21), (5, .ref q_17), (4, .ref q_13), (3, .ref q_9), (2, .ref q_5), (1, .ref q_1), (16, .int 0), (17, .int 0), (18, .int 0), (19, .int 0)]) (by decide) rfl
  generalize fs_24.set 7 (.ref q_25) = fs_28 at hP hD hF_27
  have hP : va_P (dC, dI) vwCl [(h0, .inr (0, fs_28)), (q_25, .inl (cI, 2100, .inl (fun _ => 0)))] H := hP
  have hD : va_D A [(h0, .inr (0, fs_28)), (q_25, .inl (cI, 2100, .inl (fun _ => 0)))] := hD
  refine lv_aload_n hx hb dX0_init_67 rfl (lv_at hl 0 rfl) ?_
  refine lv_sipush (v := 2100) hx hb dX0_init_68 (by decide) ?_
  refine va_newa (atype := .int) (a0 := (2100, .inl (fun _ => 0))) hx hb (hts (.arrayClass .int) (List.mem_of_getElem? (i := 4) rfl)) (ty := .int) rfl hK hP hD hS hA (na_int 2100) (by decide) (by decide +kernel) (show 2100 * 4 ≤ 536870912 by decide) (show 7 + 1 ≤ 15 by decide) (show 10200 + 2100 ≤ 33000 by decide) dX0_init_71 (fun q_29 cA_30 H hK hP hD hS => ?_)
  have hK : va_K (dC, dI) vwCl [(cI, .int), (cA_30, .int)] s := hK
  obtain rfl := kU_int hK 0 1 rfl rfl
  have hK := hK.sub (tys' := [(cI, .int)]) [0] rfl
  have hP : va_P (dC, dI) vwCl [(h0, .inr (0, fs_28)), (q_25, .inl (cI, 2100, .inl (fun _ => 0))), (q_29, .inl (cI, 2100, .inl (fun _ => 0)))] H := hP
  have hD : va_D A [(h0, .inr (0, fs_28)), (q_25, .inl (cI, 2100, .inl (fun _ => 0))), (q_29, .inl (cI, 2100, .inl (fun _ => 0)))] := hD
  refine W.widen (k := 8) (n := 12300) (by decide) (by decide) ?_
  refine va_putF (D := (dC, dI)) (ci := 0) (v := .ref q_29) (ty := (.array .int)) (C := RX0) (T := TX0) (N := 20) hx hb hts hin_X0 tyX0 tyX0_ok nmX0 hown hK hP hD hS 0 rfl rfl 8 (by decide) (hts (.fieldLink RX0 33 "NeedHouse$Datas" "conCode" "[I") (List.mem_of_getElem? (i := 12) rfl)) (fun _ h9 => h9) rfl hin rfl (by decide +kernel) rfl rfl (by rw [hF_27.1]; decide) dX0_init_73 (fun H locs hP hD hS => ?_)
  have hP : va_P (dC, dI) vwCl [(h0, .inr (0, (fs_28.set 8 (.ref q_29)))), (q_25, .inl (cI, 2100, .inl (fun _ => 0))), (q_29, .inl (cI, 2100, .inl (fun _ => 0)))] H := hP
  have hD : va_D A [(h0, .inr (0, (fs_28.set 8 (.ref q_29)))), (q_25, .inl (cI, 2100, .inl (fun _ => 0))), (q_29, .inl (cI, 2100, .inl (fun _ => 0)))] := hD
  have hF_31 := hF_27.set 8 (.ref q_29) (l' := [(8, .ref q_29), (7, .ref q_25), (6, .ref q_21), (5, .ref q_17), (4, .ref q_13), (3, .ref q_9), (2, .ref q_5), (1, .ref q_1), (16, .int 0), (17, .int 0), (18, .int 0), (19, .int 0)]) (by decide) rfl
  generalize fs_28.set 8 (.ref q_29) = fs_32 at hP hD hF_31
  have hP : va_P (dC, dI) vwCl [(h0, .inr (0, fs_32)), (q_25, .inl (cI, 2100, .inl (fun _ => 0))), (q_29, .inl (cI, 2100, .inl (fun _ => 0)))] H := hP
  have hD : va_D A [(h0, .inr (0, fs_32)), (q_25, .inl (cI, 2100, .inl (fun _ => 0))), (q_29, .inl (cI, 2100, .inl (fun _ => 0)))] := hD
  have hP := hP.sub (ws' := [(h0, .inr (0, fs_32)), (q_25, .inl (cI, 2100, .inl (fun _ => 0)))]) [0, 1] rfl
  have hD := hD.sub (ws' := [(h0, .inr (0, fs_32)), (q_25, .inl (cI, 2100, .inl (fun _ => 0)))]) [0, 1] (by decide) rfl
  refine lv_aload_n hx hb dX0_init_76 rfl (lv_at hl 0 rfl) ?_
  refine lv_sipush (v := 2100) hx hb dX0_init_77 (by decide) ?_
  refine va_newa (atype := .int) (a0 := (2100, .inl (fun _ => 0))) hx hb (hts (.arrayClass .int) (List.mem_of_getElem? (i := 4) rfl)) (ty := .int) rfl hK hP hD hS hA (na_int 2100) (by decide) (by decide +kernel) (show 2100 * 4 ≤ 536870912 by decide) (show 8 + 1 ≤ 15 by decide) (show 12300 + 2100 ≤ 33000 by decide) dX0_init_80 (fun q_33 cA_34 H hK hP hD hS => ?_)
  have hK : va_K (dC, dI) vwCl [(cI, .int), (cA_34, .int)] s := hK
  obtain rfl := kU_int hK 0 1 rfl rfl
  have hK := hK.sub (tys' := [(cI, .int)]) [0] rfl
  have hP : va_P (dC, dI) vwCl [(h0, .inr (0, fs_32)), (q_25, .inl (cI, 2100, .inl (fun _ => 0))), (q_33, .inl (cI, 2100, .inl (fun _ => 0)))] H := hP
  have hD : va_D A [(h0, .inr (0, fs_32)), (q_25, .inl (cI, 2100, .inl (fun _ => 0))), (q_33, .inl (cI, 2100, .inl (fun _ => 0)))] := hD
  refine W.widen (k := 9) (n := 14400) (by decide) (by decide) ?_
  refine va_putF (D := (dC, dI)) (ci := 0) (v := .ref q_33) (ty := (.array .int)) (C := RX0) (T := TX0) (N := 20) hx hb hts hin_X0 tyX0 tyX0_ok nmX0 hown hK hP hD hS 0 rfl rfl 9 (by decide) (hts (.fieldLink RX0 36 "NeedHouse$Datas" "conCodes" "[I") (List.mem_of_getElem? (i := 13) rfl)) (fun _ h9 => h9) rfl hin rfl (by decide +kernel) rfl rfl (by rw [hF_31.1]; decide) dX0_init_82 (fun H locs hP hD hS => ?_)
  have hP : va_P (dC, dI) vwCl [(h0, .inr (0, (fs_32.set 9 (.ref q_33)))), (q_25, .inl (cI, 2100, .inl (fun _ => 0))), (q_33, .inl (cI, 2100, .inl (fun _ => 0)))] H := hP
  have hD : va_D A [(h0, .inr (0, (fs_32.set 9 (.ref q_33)))), (q_25, .inl (cI, 2100, .inl (fun _ => 0))), (q_33, .inl (cI, 2100, .inl (fun _ => 0)))] := hD
  have hF_35 := hF_31.set 9 (.ref q_33) (l' := [(9, .ref q_33), (8, .ref q_29), (7, .ref q_25), (6, .ref q_21), (5, .ref q_17), (4, .ref q_13), (3, .ref q_9), (2, .ref q_5), (1, .ref q_1), (16, .int 0), (17, .int 0), (18, .int 0), (19, .int 0)]) (by decide) rfl
  generalize fs_32.set 9 (.ref q_33) = fs_36 at hP hD hF_35
  have hP : va_P (dC, dI) vwCl [(h0, .inr (0, fs_36)), (q_25, .inl (cI, 2100, .inl (fun _ => 0))), (q_33, .inl (cI, 2100, .inl (fun _ => 0)))] H := hP
  have hD : va_D A [(h0, .inr (0, fs_36)), (q_25, .inl (cI, 2100, .inl (fun _ => 0))), (q_33, .inl (cI, 2100, .inl (fun _ => 0)))] := hD
  have hP := hP.sub (ws' := [(h0, .inr (0, fs_36)), (q_25, .inl (cI, 2100, .inl (fun _ => 0)))]) [0, 1] rfl
  have hD := hD.sub (ws' := [(h0, .inr (0, fs_36)), (q_25, .inl (cI, 2100, .inl (fun _ => 0)))]) [0, 1] (by decide) rfl
  refine lv_aload_n hx hb dX0_init_85 rfl (lv_at hl 0 rfl) ?_
  refine lv_sipush (v := 4100) hx hb dX0_init_86 (by decide) ?_
  refine va_newa (atype := .int) (a0 := (4100, .inl (fun _ => 0))) hx hb (hts (.arrayClass .int) (List.mem_of_getElem? (i := 4) rfl)) (ty := .int) rfl hK hP hD hS hA (na_int 4100) (by decide) (by decide +kernel) (show 4100 * 4 ≤ 536870912 by decide) (show 9 + 1 ≤ 15 by decide) (show 14400 + 4100 ≤ 33000 by decide) dX0_init_89 (fun q_37 cA_38 H hK hP hD hS => ?_)
  have hK : va_K (dC, dI) vwCl [(cI, .int), (cA_38, .int)] s := hK
  obtain rfl := kU_int hK 0 1 rfl rfl
  have hK := hK.sub (tys' := [(cI, .int)]) [0] rfl
  have hP : va_P (dC, dI) vwCl [(h0, .inr (0, fs_36)), (q_25, .inl (cI, 2100, .inl (fun _ => 0))), (q_37, .inl (cI, 4100, .inl (fun _ => 0)))] H := hP
  have hD : va_D A [(h0, .inr (0, fs_36)), (q_25, .inl (cI, 2100, .inl (fun _ => 0))), (q_37, .inl (cI, 4100, .inl (fun _ => 0)))] := hD
  refine W.widen (k := 10) (n := 18500) (by decide) (by decide) ?_
  refine va_putF (D := (dC, dI)) (ci := 0) (v := .ref q_37) (ty := (.array .int)) (C := RX0) (T := TX0) (N := 20) hx hb hts hin_X0 tyX0 tyX0_ok nmX0 hown hK hP hD hS 0 rfl rfl 10 (by decide) (hts (.fieldLink RX0 39 "NeedHouse$Datas" "code" "[I") (List.mem_of_getElem? (i := 14) rfl)) (fun _ h9 => h9) rfl hin rfl (by decide +kernel) rfl rfl (by rw [hF_35.1]; decide) dX0_init_91 (fun H locs hP hD hS => ?_)
  have hP : va_P (dC, dI) vwCl [(h0, .inr (0, (fs_36.set 10 (.ref q_37)))), (q_25, .inl (cI, 2100, .inl (fun _ => 0))), (q_37, .inl (cI, 4100, .inl (fun _ => 0)))] H := hP
  have hD : va_D A [(h0, .inr (0, (fs_36.set 10 (.ref q_37)))), (q_25, .inl (cI, 2100, .inl (fun _ => 0))), (q_37, .inl (cI, 4100, .inl (fun _ => 0)))] := hD
  have hF_39 := hF_35.set 10 (.ref q_37) (l' := [(10, .ref q_37), (9, .ref q_33), (8, .ref q_29), (7, .ref q_25), (6, .ref q_21), (5, .ref q_17), (4, .ref q_13), (3, .ref q_9), (2, .ref q_5), (1, .ref q_1), (16, .int 0), (17, .int 0), (18, .int 0), (19, .int 0)]) (by decide) rfl
  generalize fs_36.set 10 (.ref q_37) = fs_40 at hP hD hF_39
  have hP : va_P (dC, dI) vwCl [(h0, .inr (0, fs_40)), (q_25, .inl (cI, 2100, .inl (fun _ => 0))), (q_37, .inl (cI, 4100, .inl (fun _ => 0)))] H := hP
  have hD : va_D A [(h0, .inr (0, fs_40)), (q_25, .inl (cI, 2100, .inl (fun _ => 0))), (q_37, .inl (cI, 4100, .inl (fun _ => 0)))] := hD
  have hP := hP.sub (ws' := [(h0, .inr (0, fs_40)), (q_25, .inl (cI, 2100, .inl (fun _ => 0)))]) [0, 1] rfl
  have hD := hD.sub (ws' := [(h0, .inr (0, fs_40)), (q_25, .inl (cI, 2100, .inl (fun _ => 0)))]) [0, 1] (by decide) rfl
  refine lv_aload_n hx hb dX0_init_94 rfl (lv_at hl 0 rfl) ?_
  refine lv_sipush (v := 4100) hx hb dX0_init_95 (by decide) ?_
  refine va_newa (atype := .int) (a0 := (4100, .inl (fun _ => 0))) hx hb (hts (.arrayClass .int) (List.mem_of_getElem? (i := 4) rfl)) (ty := .int) rfl hK hP hD hS hA (na_int 4100) (by decide) (by decide +kernel) (show 4100 * 4 ≤ 536870912 by decide) (show 10 + 1 ≤ 15 by decide) (show 18500 + 4100 ≤ 33000 by decide) dX0_init_98 (fun q_41 cA_42 H hK hP hD hS => ?_)
  have hK : va_K (dC, dI) vwCl [(cI, .int), (cA_42, .int)] s := hK
  obtain rfl := kU_int hK 0 1 rfl rfl
  have hK := hK.sub (tys' := [(cI, .int)]) [0] rfl
  have hP : va_P (dC, dI) vwCl [(h0, .inr (0, fs_40)), (q_25, .inl (cI, 2100, .inl (fun _ => 0))), (q_41, .inl (cI, 4100, .inl (fun _ => 0)))] H := hP
  have hD : va_D A [(h0, .inr (0, fs_40)), (q_25, .inl (cI, 2100, .inl (fun _ => 0))), (q_41, .inl (cI, 4100, .inl (fun _ => 0)))] := hD
  refine W.widen (k := 11) (n := 22600) (by decide) (by decide) ?_
  refine va_putF (D := (dC, dI)) (ci := 0) (v := .ref q_41) (ty := (.array .int)) (C := RX0) (T := TX0) (N := 20) hx hb hts hin_X0 tyX0 tyX0_ok nmX0 hown hK hP hD hS 0 rfl rfl 11 (by decide) (hts (.fieldLink RX0 42 "NeedHouse$Datas" "codeToken" "[I") (List.mem_of_getElem? (i := 15) rfl)) (fun _ h9 => h9) rfl hin rfl (by decide +kernel) rfl rfl (by rw [hF_39.1]; decide) dX0_init_100 (fun H locs hP hD hS => ?_)
  have hP : va_P (dC, dI) vwCl [(h0, .inr (0, (fs_40.set 11 (.ref q_41)))), (q_25, .inl (cI, 2100, .inl (fun _ => 0))), (q_41, .inl (cI, 4100, .inl (fun _ => 0)))] H := hP
  have hD : va_D A [(h0, .inr (0, (fs_40.set 11 (.ref q_41)))), (q_25, .inl (cI, 2100, .inl (fun _ => 0))), (q_41, .inl (cI, 4100, .inl (fun _ => 0)))] := hD
  have hF_43 := hF_39.set 11 (.ref q_41) (l' := [(11, .ref q_41), (10, .ref q_37), (9, .ref q_33), (8, .ref q_29), (7, .ref q_25), (6, .ref q_21), (5, .ref q_17), (4, .ref q_13), (3, .ref q_9), (2, .ref q_5), (1, .ref q_1), (16, .int 0), (17, .int 0), (18, .int 0), (19, .int 0)]) (by decide) rfl
  generalize fs_40.set 11 (.ref q_41) = fs_44 at hP hD hF_43
  have hP : va_P (dC, dI) vwCl [(h0, .inr (0, fs_44)), (q_25, .inl (cI, 2100, .inl (fun _ => 0))), (q_41, .inl (cI, 4100, .inl (fun _ => 0)))] H := hP
  have hD : va_D A [(h0, .inr (0, fs_44)), (q_25, .inl (cI, 2100, .inl (fun _ => 0))), (q_41, .inl (cI, 4100, .inl (fun _ => 0)))] := hD
  have hP := hP.sub (ws' := [(h0, .inr (0, fs_44)), (q_25, .inl (cI, 2100, .inl (fun _ => 0)))]) [0, 1] rfl
  have hD := hD.sub (ws' := [(h0, .inr (0, fs_44)), (q_25, .inl (cI, 2100, .inl (fun _ => 0)))]) [0, 1] (by decide) rfl
  refine lv_aload_n hx hb dX0_init_103 rfl (lv_at hl 0 rfl) ?_
  refine lv_sipush (v := 4100) hx hb dX0_init_104 (by decide) ?_
  refine va_newa (atype := .int) (a0 := (4100, .inl (fun _ => 0))) hx hb (hts (.arrayClass .int) (List.mem_of_getElem? (i := 4) rfl)) (ty := .int) rfl hK hP hD hS hA (na_int 4100) (by decide) (by decide +kernel) (show 4100 * 4 ≤ 536870912 by decide) (show 11 + 1 ≤ 15 by decide) (show 22600 + 4100 ≤ 33000 by decide) dX0_init_107 (fun q_45 cA_46 H hK hP hD hS => ?_)
  have hK : va_K (dC, dI) vwCl [(cI, .int), (cA_46, .int)] s := hK
  obtain rfl := kU_int hK 0 1 rfl rfl
  have hK := hK.sub (tys' := [(cI, .int)]) [0] rfl
  have hP : va_P (dC, dI) vwCl [(h0, .inr (0, fs_44)), (q_25, .inl (cI, 2100, .inl (fun _ => 0))), (q_45, .inl (cI, 4100, .inl (fun _ => 0)))] H := hP
  have hD : va_D A [(h0, .inr (0, fs_44)), (q_25, .inl (cI, 2100, .inl (fun _ => 0))), (q_45, .inl (cI, 4100, .inl (fun _ => 0)))] := hD
  refine W.widen (k := 12) (n := 26700) (by decide) (by decide) ?_
  refine va_putF (D := (dC, dI)) (ci := 0) (v := .ref q_45) (ty := (.array .int)) (C := RX0) (T := TX0) (N := 20) hx hb hts hin_X0 tyX0 tyX0_ok nmX0 hown hK hP hD hS 0 rfl rfl 12 (by decide) (hts (.fieldLink RX0 45 "NeedHouse$Datas" "codeParts" "[I") (List.mem_of_getElem? (i := 16) rfl)) (fun _ h9 => h9) rfl hin rfl (by decide +kernel) rfl rfl (by rw [hF_43.1]; decide) dX0_init_109 (fun H locs hP hD hS => ?_)
  have hP : va_P (dC, dI) vwCl [(h0, .inr (0, (fs_44.set 12 (.ref q_45)))), (q_25, .inl (cI, 2100, .inl (fun _ => 0))), (q_45, .inl (cI, 4100, .inl (fun _ => 0)))] H := hP
  have hD : va_D A [(h0, .inr (0, (fs_44.set 12 (.ref q_45)))), (q_25, .inl (cI, 2100, .inl (fun _ => 0))), (q_45, .inl (cI, 4100, .inl (fun _ => 0)))] := hD
  have hF_47 := hF_43.set 12 (.ref q_45) (l' := [(12, .ref q_45), (11, .ref q_41), (10, .ref q_37), (9, .ref q_33), (8, .ref q_29), (7, .ref q_25), (6, .ref q_21), (5, .ref q_17), (4, .ref q_13), (3, .ref q_9), (2, .ref q_5), (1, .ref q_1), (16, .int 0), (17, .int 0), (18, .int 0), (19, .int 0)]) (by decide) rfl
  generalize fs_44.set 12 (.ref q_45) = fs_48 at hP hD hF_47
  have hP : va_P (dC, dI) vwCl [(h0, .inr (0, fs_48)), (q_25, .inl (cI, 2100, .inl (fun _ => 0))), (q_45, .inl (cI, 4100, .inl (fun _ => 0)))] H := hP
  have hD : va_D A [(h0, .inr (0, fs_48)), (q_25, .inl (cI, 2100, .inl (fun _ => 0))), (q_45, .inl (cI, 4100, .inl (fun _ => 0)))] := hD
  have hP := hP.sub (ws' := [(h0, .inr (0, fs_48)), (q_25, .inl (cI, 2100, .inl (fun _ => 0)))]) [0, 1] rfl
  have hD := hD.sub (ws' := [(h0, .inr (0, fs_48)), (q_25, .inl (cI, 2100, .inl (fun _ => 0)))]) [0, 1] (by decide) rfl
  refine lv_aload_n hx hb dX0_init_112 rfl (lv_at hl 0 rfl) ?_
  refine lv_sipush (v := 2100) hx hb dX0_init_113 (by decide) ?_
  refine va_newa (atype := .int) (a0 := (2100, .inl (fun _ => 0))) hx hb (hts (.arrayClass .int) (List.mem_of_getElem? (i := 4) rfl)) (ty := .int) rfl hK hP hD hS hA (na_int 2100) (by decide) (by decide +kernel) (show 2100 * 4 ≤ 536870912 by decide) (show 12 + 1 ≤ 15 by decide) (show 26700 + 2100 ≤ 33000 by decide) dX0_init_116 (fun q_49 cA_50 H hK hP hD hS => ?_)
  have hK : va_K (dC, dI) vwCl [(cI, .int), (cA_50, .int)] s := hK
  obtain rfl := kU_int hK 0 1 rfl rfl
  have hK := hK.sub (tys' := [(cI, .int)]) [0] rfl
  have hP : va_P (dC, dI) vwCl [(h0, .inr (0, fs_48)), (q_25, .inl (cI, 2100, .inl (fun _ => 0))), (q_49, .inl (cI, 2100, .inl (fun _ => 0)))] H := hP
  have hD : va_D A [(h0, .inr (0, fs_48)), (q_25, .inl (cI, 2100, .inl (fun _ => 0))), (q_49, .inl (cI, 2100, .inl (fun _ => 0)))] := hD
  refine W.widen (k := 13) (n := 28800) (by decide) (by decide) ?_
  refine va_putF (D := (dC, dI)) (ci := 0) (v := .ref q_49) (ty := (.array .int)) (C := RX0) (T := TX0) (N := 20) hx hb hts hin_X0 tyX0 tyX0_ok nmX0 hown hK hP hD hS 0 rfl rfl 13 (by decide) (hts (.fieldLink RX0 50 "NeedHouse$Datas" "typeOf" "[I") (List.mem_of_getElem? (i := 17) rfl)) (fun _ h9 => h9) rfl hin rfl (by decide +kernel) rfl rfl (by rw [hF_47.1]; decide) dX0_init_118 (fun H locs hP hD hS => ?_)
  have hP : va_P (dC, dI) vwCl [(h0, .inr (0, (fs_48.set 13 (.ref q_49)))), (q_25, .inl (cI, 2100, .inl (fun _ => 0))), (q_49, .inl (cI, 2100, .inl (fun _ => 0)))] H := hP
  have hD : va_D A [(h0, .inr (0, (fs_48.set 13 (.ref q_49)))), (q_25, .inl (cI, 2100, .inl (fun _ => 0))), (q_49, .inl (cI, 2100, .inl (fun _ => 0)))] := hD
  have hF_51 := hF_47.set 13 (.ref q_49) (l' := [(13, .ref q_49), (12, .ref q_45), (11, .ref q_41), (10, .ref q_37), (9, .ref q_33), (8, .ref q_29), (7, .ref q_25), (6, .ref q_21), (5, .ref q_17), (4, .ref q_13), (3, .ref q_9), (2, .ref q_5), (1, .ref q_1), (16, .int 0), (17, .int 0), (18, .int 0), (19, .int 0)]) (by decide) rfl
  generalize fs_48.set 13 (.ref q_49) = fs_52 at hP hD hF_51
  have hP : va_P (dC, dI) vwCl [(h0, .inr (0, fs_52)), (q_25, .inl (cI, 2100, .inl (fun _ => 0))), (q_49, .inl (cI, 2100, .inl (fun _ => 0)))] H := hP
  have hD : va_D A [(h0, .inr (0, fs_52)), (q_25, .inl (cI, 2100, .inl (fun _ => 0))), (q_49, .inl (cI, 2100, .inl (fun _ => 0)))] := hD
  refine lv_aload_n hx hb dX0_init_121 rfl (lv_at hl 0 rfl) ?_
  refine lv_sipush (v := 2100) hx hb dX0_init_122 (by decide) ?_
  refine va_newa (atype := .int) (a0 := (2100, .inl (fun _ => 0))) hx hb (hts (.arrayClass .int) (List.mem_of_getElem? (i := 4) rfl)) (ty := .int) rfl hK hP hD hS hA (na_int 2100) (by decide) (by decide +kernel) (show 2100 * 4 ≤ 536870912 by decide) (show 13 + 1 ≤ 15 by decide) (show 28800 + 2100 ≤ 33000 by decide) dX0_init_125 (fun q_53 cA_54 H hK hP hD hS => ?_)
  have hK : va_K (dC, dI) vwCl [(cI, .int), (cA_54, .int)] s := hK
  obtain rfl := kU_int hK 0 1 rfl rfl
  have hK := hK.sub (tys' := [(cI, .int)]) [0] rfl
  have hP : va_P (dC, dI) vwCl [(h0, .inr (0, fs_52)), (q_25, .inl (cI, 2100, .inl (fun _ => 0))), (q_49, .inl (cI, 2100, .inl (fun _ => 0))), (q_53, .inl (cI, 2100, .inl (fun _ => 0)))] H := hP
  have hD : va_D A [(h0, .inr (0, fs_52)), (q_25, .inl (cI, 2100, .inl (fun _ => 0))), (q_49, .inl (cI, 2100, .inl (fun _ => 0))), (q_53, .inl (cI, 2100, .inl (fun _ => 0)))] := hD
  refine W.widen (k := 14) (n := 30900) (by decide) (by decide) ?_
  refine va_putF (D := (dC, dI)) (ci := 0) (v := .ref q_53) (ty := (.array .int)) (C := RX0) (T := TX0) (N := 20) hx hb hts hin_X0 tyX0 tyX0_ok nmX0 hown hK hP hD hS 0 rfl rfl 14 (by decide) (hts (.fieldLink RX0 53 "NeedHouse$Datas" "conOf" "[I") (List.mem_of_getElem? (i := 18) rfl)) (fun _ h9 => h9) rfl hin rfl (by decide +kernel) rfl rfl (by rw [hF_51.1]; decide) dX0_init_127 (fun H locs hP hD hS => ?_)
  have hP : va_P (dC, dI) vwCl [(h0, .inr (0, (fs_52.set 14 (.ref q_53)))), (q_25, .inl (cI, 2100, .inl (fun _ => 0))), (q_49, .inl (cI, 2100, .inl (fun _ => 0))), (q_53, .inl (cI, 2100, .inl (fun _ => 0)))] H := hP
  have hD : va_D A [(h0, .inr (0, (fs_52.set 14 (.ref q_53)))), (q_25, .inl (cI, 2100, .inl (fun _ => 0))), (q_49, .inl (cI, 2100, .inl (fun _ => 0))), (q_53, .inl (cI, 2100, .inl (fun _ => 0)))] := hD
  have hF_55 := hF_51.set 14 (.ref q_53) (l' := [(14, .ref q_53), (13, .ref q_49), (12, .ref q_45), (11, .ref q_41), (10, .ref q_37), (9, .ref q_33), (8, .ref q_29), (7, .ref q_25), (6, .ref q_21), (5, .ref q_17), (4, .ref q_13), (3, .ref q_9), (2, .ref q_5), (1, .ref q_1), (16, .int 0), (17, .int 0), (18, .int 0), (19, .int 0)]) (by decide) rfl
  generalize fs_52.set 14 (.ref q_53) = fs_56 at hP hD hF_55
  have hP : va_P (dC, dI) vwCl [(h0, .inr (0, fs_56)), (q_25, .inl (cI, 2100, .inl (fun _ => 0))), (q_49, .inl (cI, 2100, .inl (fun _ => 0))), (q_53, .inl (cI, 2100, .inl (fun _ => 0)))] H := hP
  have hD : va_D A [(h0, .inr (0, fs_56)), (q_25, .inl (cI, 2100, .inl (fun _ => 0))), (q_49, .inl (cI, 2100, .inl (fun _ => 0))), (q_53, .inl (cI, 2100, .inl (fun _ => 0)))] := hD
  refine lv_aload_n hx hb dX0_init_130 rfl (lv_at hl 0 rfl) ?_
  refine lv_sipush (v := 2100) hx hb dX0_init_131 (by decide) ?_
  refine va_newa (atype := .int) (a0 := (2100, .inl (fun _ => 0))) hx hb (hts (.arrayClass .int) (List.mem_of_getElem? (i := 4) rfl)) (ty := .int) rfl hK hP hD hS hA (na_int 2100) (by decide) (by decide +kernel) (show 2100 * 4 ≤ 536870912 by decide) (show 14 + 1 ≤ 15 by decide) (show 30900 + 2100 ≤ 33000 by decide) dX0_init_134 (fun q_57 cA_58 H hK hP hD hS => ?_)
  have hK : va_K (dC, dI) vwCl [(cI, .int), (cA_58, .int)] s := hK
  obtain rfl := kU_int hK 0 1 rfl rfl
  have hK := hK.sub (tys' := [(cI, .int)]) [0] rfl
  have hP : va_P (dC, dI) vwCl [(h0, .inr (0, fs_56)), (q_25, .inl (cI, 2100, .inl (fun _ => 0))), (q_49, .inl (cI, 2100, .inl (fun _ => 0))), (q_53, .inl (cI, 2100, .inl (fun _ => 0))), (q_57, .inl (cI, 2100, .inl (fun _ => 0)))] H := hP
  have hD : va_D A [(h0, .inr (0, fs_56)), (q_25, .inl (cI, 2100, .inl (fun _ => 0))), (q_49, .inl (cI, 2100, .inl (fun _ => 0))), (q_53, .inl (cI, 2100, .inl (fun _ => 0))), (q_57, .inl (cI, 2100, .inl (fun _ => 0)))] := hD
  refine W.widen (k := 15) (n := 33000) (by decide) (by decide) ?_
  refine va_putF (D := (dC, dI)) (ci := 0) (v := .ref q_57) (ty := (.array .int)) (C := RX0) (T := TX0) (N := 20) hx hb hts hin_X0 tyX0 tyX0_ok nmX0 hown hK hP hD hS 0 rfl rfl 15 (by decide) (hts (.fieldLink RX0 56 "NeedHouse$Datas" "mark" "[I") (List.mem_of_getElem? (i := 19) rfl)) (fun _ h9 => h9) rfl hin rfl (by decide +kernel) rfl rfl (by rw [hF_55.1]; decide) dX0_init_136 (fun H locs hP hD hS => ?_)
  have hP : va_P (dC, dI) vwCl [(h0, .inr (0, (fs_56.set 15 (.ref q_57)))), (q_25, .inl (cI, 2100, .inl (fun _ => 0))), (q_49, .inl (cI, 2100, .inl (fun _ => 0))), (q_53, .inl (cI, 2100, .inl (fun _ => 0))), (q_57, .inl (cI, 2100, .inl (fun _ => 0)))] H := hP
  have hD : va_D A [(h0, .inr (0, (fs_56.set 15 (.ref q_57)))), (q_25, .inl (cI, 2100, .inl (fun _ => 0))), (q_49, .inl (cI, 2100, .inl (fun _ => 0))), (q_53, .inl (cI, 2100, .inl (fun _ => 0))), (q_57, .inl (cI, 2100, .inl (fun _ => 0)))] := hD
  have hF_59 := hF_55.set 15 (.ref q_57) (l' := [(15, .ref q_57), (14, .ref q_53), (13, .ref q_49), (12, .ref q_45), (11, .ref q_41), (10, .ref q_37), (9, .ref q_33), (8, .ref q_29), (7, .ref q_25), (6, .ref q_21), (5, .ref q_17), (4, .ref q_13), (3, .ref q_9), (2, .ref q_5), (1, .ref q_1), (16, .int 0), (17, .int 0), (18, .int 0), (19, .int 0)]) (by decide) rfl
  generalize fs_56.set 15 (.ref q_57) = fs_60 at hP hD hF_59
  have hP : va_P (dC, dI) vwCl [(h0, .inr (0, fs_60)), (q_25, .inl (cI, 2100, .inl (fun _ => 0))), (q_49, .inl (cI, 2100, .inl (fun _ => 0))), (q_53, .inl (cI, 2100, .inl (fun _ => 0))), (q_57, .inl (cI, 2100, .inl (fun _ => 0)))] H := hP
  have hD : va_D A [(h0, .inr (0, fs_60)), (q_25, .inl (cI, 2100, .inl (fun _ => 0))), (q_49, .inl (cI, 2100, .inl (fun _ => 0))), (q_53, .inl (cI, 2100, .inl (fun _ => 0))), (q_57, .inl (cI, 2100, .inl (fun _ => 0)))] := hD
  refine lv_aload_n hx hb dX0_init_139 rfl (lv_at hl 0 rfl) ?_
  refine lv_aload_n hx hb dX0_init_140 rfl (lv_at hl 1 rfl) ?_
  refine va_putF (D := (dC, dI)) (ci := 0) (v := .ref p0) (ty := (.object "NeedHouse$Lexemes")) (C := RX0) (T := TX0) (N := 20) hx hb hts hin_X0 tyX0 tyX0_ok nmX0 hown hK hP hD hS 0 rfl rfl 0 (by decide) (hts (.fieldLink RX0 59 "NeedHouse$Datas" "lexemes" "LNeedHouse$Lexemes;") (List.mem_of_getElem? (i := 20) rfl)) (fun _ h9 => h9) rfl hin rfl (by decide +kernel) rfl rfl (by rw [hF_59.1]; decide) dX0_init_141 (fun H locs hP hD hS => ?_)
  have hP : va_P (dC, dI) vwCl [(h0, .inr (0, (fs_60.set 0 (.ref p0)))), (q_25, .inl (cI, 2100, .inl (fun _ => 0))), (q_49, .inl (cI, 2100, .inl (fun _ => 0))), (q_53, .inl (cI, 2100, .inl (fun _ => 0))), (q_57, .inl (cI, 2100, .inl (fun _ => 0)))] H := hP
  have hD : va_D A [(h0, .inr (0, (fs_60.set 0 (.ref p0)))), (q_25, .inl (cI, 2100, .inl (fun _ => 0))), (q_49, .inl (cI, 2100, .inl (fun _ => 0))), (q_53, .inl (cI, 2100, .inl (fun _ => 0))), (q_57, .inl (cI, 2100, .inl (fun _ => 0)))] := hD
  have hF_61 := hF_59.set 0 (.ref p0) (l' := [(0, .ref p0), (15, .ref q_57), (14, .ref q_53), (13, .ref q_49), (12, .ref q_45), (11, .ref q_41), (10, .ref q_37), (9, .ref q_33), (8, .ref q_29), (7, .ref q_25), (6, .ref q_21), (5, .ref q_17), (4, .ref q_13), (3, .ref q_9), (2, .ref q_5), (1, .ref q_1), (16, .int 0), (17, .int 0), (18, .int 0), (19, .int 0)]) (by decide) rfl
  generalize fs_60.set 0 (.ref p0) = fs_62 at hP hD hF_61
  have hP : va_P (dC, dI) vwCl [(h0, .inr (0, fs_62)), (q_25, .inl (cI, 2100, .inl (fun _ => 0))), (q_49, .inl (cI, 2100, .inl (fun _ => 0))), (q_53, .inl (cI, 2100, .inl (fun _ => 0))), (q_57, .inl (cI, 2100, .inl (fun _ => 0)))] H := hP
  have hD : va_D A [(h0, .inr (0, fs_62)), (q_25, .inl (cI, 2100, .inl (fun _ => 0))), (q_49, .inl (cI, 2100, .inl (fun _ => 0))), (q_53, .inl (cI, 2100, .inl (fun _ => 0))), (q_57, .inl (cI, 2100, .inl (fun _ => 0)))] := hD
  refine lv_aload_n hx hb dX0_init_144 rfl (lv_at hl 0 rfl) ?_
  refine va_get (D := (dC, dI)) (ci := 0) (v := .ref q_25) (C := RX0) (T := TX0) (N := 20) hx hb hts hin_X0 hown hK hP 0 rfl rfl 7 (by decide) (hts (.fieldLink RX0 30 "NeedHouse$Datas" "conFields" "[I") (List.mem_of_getElem? (i := 11) rfl)) (fun _ h9 => h9) (hF_61.at 9 rfl) dX0_init_145 ?_
  refine lv_iconst (v := 3) hx hb dX0_init_148 (by decide) ?_
  refine lv_iconst (v := 2) hx hb dX0_init_149 (by decide) ?_
  refine va_iast hx hb hK hP hD hS 1 0 rfl rfl (show vp_in (nI 3) 2100 from vp_in_nI (by decide) (by decide)) dX0_init_150 (fun H locs hP hD hS => ?_)
  have hP : va_P (dC, dI) vwCl [(h0, .inr (0, fs_62)), (q_25, .inl (cI, 2100, .inl (upd (fun _ => 0) (3 : Int32).toNatClampNeg 2))), (q_49, .inl (cI, 2100, .inl (fun _ => 0))), (q_53, .inl (cI, 2100, .inl (fun _ => 0))), (q_57, .inl (cI, 2100, .inl (fun _ => 0)))] H := hP
  have hD : va_D A [(h0, .inr (0, fs_62)), (q_25, .inl (cI, 2100, .inl (upd (fun _ => 0) (3 : Int32).toNatClampNeg 2))), (q_49, .inl (cI, 2100, .inl (fun _ => 0))), (q_53, .inl (cI, 2100, .inl (fun _ => 0))), (q_57, .inl (cI, 2100, .inl (fun _ => 0)))] := hD
  have hk_64 : (upd (fun _ => 0) (3 : Int32).toNatClampNeg 2) 3 = 2 := by rw [show (3 : Int32).toNatClampNeg = 3 from by decide]; exact pk_us
  generalize upd (fun _ => 0) (3 : Int32).toNatClampNeg 2 = f_63 at hP hD hk_64
  have hP : va_P (dC, dI) vwCl [(h0, .inr (0, fs_62)), (q_25, .inl (cI, 2100, .inl f_63)), (q_49, .inl (cI, 2100, .inl (fun _ => 0))), (q_53, .inl (cI, 2100, .inl (fun _ => 0))), (q_57, .inl (cI, 2100, .inl (fun _ => 0)))] H := hP
  have hD : va_D A [(h0, .inr (0, fs_62)), (q_25, .inl (cI, 2100, .inl f_63)), (q_49, .inl (cI, 2100, .inl (fun _ => 0))), (q_53, .inl (cI, 2100, .inl (fun _ => 0))), (q_57, .inl (cI, 2100, .inl (fun _ => 0)))] := hD
  refine lv_aload_n hx hb dX0_init_151 rfl (lv_at hl 0 rfl) ?_
  refine va_get (D := (dC, dI)) (ci := 0) (v := .ref q_25) (C := RX0) (T := TX0) (N := 20) hx hb hts hin_X0 hown hK hP 0 rfl rfl 7 (by decide) (hts (.fieldLink RX0 30 "NeedHouse$Datas" "conFields" "[I") (List.mem_of_getElem? (i := 11) rfl)) (fun _ h9 => h9) (hF_61.at 9 rfl) dX0_init_152 ?_
  refine lv_iconst (v := 4) hx hb dX0_init_155 (by decide) ?_
  refine lv_iconst (v := 2) hx hb dX0_init_156 (by decide) ?_
  refine va_iast hx hb hK hP hD hS 1 0 rfl rfl (show vp_in (nI 4) 2100 from vp_in_nI (by decide) (by decide)) dX0_init_157 (fun H locs hP hD hS => ?_)
  have hP : va_P (dC, dI) vwCl [(h0, .inr (0, fs_62)), (q_25, .inl (cI, 2100, .inl (upd f_63 (4 : Int32).toNatClampNeg 2))), (q_49, .inl (cI, 2100, .inl (fun _ => 0))), (q_53, .inl (cI, 2100, .inl (fun _ => 0))), (q_57, .inl (cI, 2100, .inl (fun _ => 0)))] H := hP
  have hD : va_D A [(h0, .inr (0, fs_62)), (q_25, .inl (cI, 2100, .inl (upd f_63 (4 : Int32).toNatClampNeg 2))), (q_49, .inl (cI, 2100, .inl (fun _ => 0))), (q_53, .inl (cI, 2100, .inl (fun _ => 0))), (q_57, .inl (cI, 2100, .inl (fun _ => 0)))] := hD
  have hk_66 : (upd f_63 (4 : Int32).toNatClampNeg 2) 4 = 2 := by rw [show (4 : Int32).toNatClampNeg = 4 from by decide]; exact pk_us
  have hk_67 : (upd f_63 (4 : Int32).toNatClampNeg 2) 3 = 2 := by rw [show (4 : Int32).toNatClampNeg = 4 from by decide, pk_un (by decide)]; exact hk_64
  generalize upd f_63 (4 : Int32).toNatClampNeg 2 = f_65 at hP hD hk_66 hk_67
  have hP : va_P (dC, dI) vwCl [(h0, .inr (0, fs_62)), (q_25, .inl (cI, 2100, .inl f_65)), (q_49, .inl (cI, 2100, .inl (fun _ => 0))), (q_53, .inl (cI, 2100, .inl (fun _ => 0))), (q_57, .inl (cI, 2100, .inl (fun _ => 0)))] H := hP
  have hD : va_D A [(h0, .inr (0, fs_62)), (q_25, .inl (cI, 2100, .inl f_65)), (q_49, .inl (cI, 2100, .inl (fun _ => 0))), (q_53, .inl (cI, 2100, .inl (fun _ => 0))), (q_57, .inl (cI, 2100, .inl (fun _ => 0)))] := hD
  refine lv_aload_n hx hb dX0_init_158 rfl (lv_at hl 0 rfl) ?_
  refine lv_iconst (v := 5) hx hb dX0_init_159 (by decide) ?_
  refine va_put (D := (dC, dI)) (ci := 0) (v := .int 5) (ty := .int) (C := RX0) (T := TX0) (N := 20) hx hb hts hin_X0 tyX0 tyX0_ok nmX0 hown hK hP hD hS 0 rfl rfl 17 (by decide) (hts (.fieldLink RX0 63 "NeedHouse$Datas" "cons" "I") (List.mem_of_getElem? (i := 21) rfl)) (fun _ h9 => h9) rfl (by decide +kernel) rfl rfl (by rw [hF_61.1]; decide) dX0_init_160 (fun H locs hP hD hS => ?_)
  have hP : va_P (dC, dI) vwCl [(h0, .inr (0, (fs_62.set 17 (.int 5)))), (q_25, .inl (cI, 2100, .inl f_65)), (q_49, .inl (cI, 2100, .inl (fun _ => 0))), (q_53, .inl (cI, 2100, .inl (fun _ => 0))), (q_57, .inl (cI, 2100, .inl (fun _ => 0)))] H := hP
  have hD : va_D A [(h0, .inr (0, (fs_62.set 17 (.int 5)))), (q_25, .inl (cI, 2100, .inl f_65)), (q_49, .inl (cI, 2100, .inl (fun _ => 0))), (q_53, .inl (cI, 2100, .inl (fun _ => 0))), (q_57, .inl (cI, 2100, .inl (fun _ => 0)))] := hD
  have hF_68 := hF_61.set 17 (.int 5) (l' := [(17, .int 5), (0, .ref p0), (15, .ref q_57), (14, .ref q_53), (13, .ref q_49), (12, .ref q_45), (11, .ref q_41), (10, .ref q_37), (9, .ref q_33), (8, .ref q_29), (7, .ref q_25), (6, .ref q_21), (5, .ref q_17), (4, .ref q_13), (3, .ref q_9), (2, .ref q_5), (1, .ref q_1), (16, .int 0), (18, .int 0), (19, .int 0)]) (by decide) rfl
  generalize fs_62.set 17 (.int 5) = fs_69 at hP hD hF_68
  have hP : va_P (dC, dI) vwCl [(h0, .inr (0, fs_69)), (q_25, .inl (cI, 2100, .inl f_65)), (q_49, .inl (cI, 2100, .inl (fun _ => 0))), (q_53, .inl (cI, 2100, .inl (fun _ => 0))), (q_57, .inl (cI, 2100, .inl (fun _ => 0)))] H := hP
  have hD : va_D A [(h0, .inr (0, fs_69)), (q_25, .inl (cI, 2100, .inl f_65)), (q_49, .inl (cI, 2100, .inl (fun _ => 0))), (q_53, .inl (cI, 2100, .inl (fun _ => 0))), (q_57, .inl (cI, 2100, .inl (fun _ => 0)))] := hD
  have hP9 := hP.sub (ws' := [(h0, .inr (0, fs_69)), (q_49, .inl (cI, 2100, .inl (fun _ => 0))), (q_53, .inl (cI, 2100, .inl (fun _ => 0))), (q_57, .inl (cI, 2100, .inl (fun _ => 0)))]) [0, 2, 3, 4] rfl
  have hD9 := hD.sub (ws' := [(h0, .inr (0, fs_69)), (q_49, .inl (cI, 2100, .inl (fun _ => 0))), (q_53, .inl (cI, 2100, .inl (fun _ => 0))), (q_57, .inl (cI, 2100, .inl (fun _ => 0)))]) [0, 2, 3, 4] (by decide) rfl
  have hK9 := hK.sub (tys' := [(cI, .int)]) [0] rfl
  exact W.vret hx hb hr (fun t ht hW => ⟨⟨((fs_69, q_49, q_53, q_57)), rfl, hF_68.sub [1, 4, 3, 2, 17, 0, 18, 19] rfl, by rw [ht]; exact hP9, va_K.moved hW.alike hK9, hD9⟩, hS.F ht⟩) hS.2.2 dX0_init_163
def pw_c_X8_init : List Cond := .code yX8_init cX8_init 2 none :: ([.code objectInit ⟨#[0xb1]⟩ 1 none, .methodLink RX8 3 objectInit, .instanceMethod objectInit, .arrayClass .int, .fieldLink RX8 11 "NeedHouse$Told" "symbol" "[I", .fieldLink RX8 15 "NeedHouse$Told" "token" "[I", .fieldLink RX8 18 "NeedHouse$Told" "scope" "[I", .fieldLink RX8 21 "NeedHouse$Told" "place" "[I", .fieldLink RX8 24 "NeedHouse$Told" "next" "[I", .fieldLink RX8 27 "NeedHouse$Told" "row" "[I", .fieldLink RX8 30 "NeedHouse$Told" "body" "[I", .fieldLink RX8 33 "NeedHouse$Told" "maker" "[I", .fieldLink RX8 36 "NeedHouse$Told" "parent" "[I", .fieldLink RX8 39 "NeedHouse$Told" "owner" "[I", .fieldLink RX8 42 "NeedHouse$Told" "first" "[I", .fieldLink RX8 45 "NeedHouse$Told" "last" "[I", .fieldLink RX8 48 "NeedHouse$Told" "width" "[I", .fieldLink RX8 51 "NeedHouse$Told" "globals" "[I", .fieldLink RX8 56 "NeedHouse$Told" "mark" "[I", .fieldLink RX8 59 "NeedHouse$Told" "lexemes" "LNeedHouse$Lexemes;"] ++ (wsX80 ++ []))
set_option maxHeartbeats 4000000 in
set_option maxRecDepth 100000 in
theorem c_X8_init (l : Launch) (dC : Nat → ClassId) (dI : Nat → Nat → Nat) (sz : Nat) (h0 : Nat) (fs : List Value) (cI : ClassId) (p0 : Nat) (hF : hasF fs 18 [(16, .int 0), (17, .int 0)]) : Met l yX8_init pw_c_X8_init ({ frames := 1, cells := 15, slots := 29460, locals := 12 }) (va_Pc [.ref h0, .ref p0] (fun U => U.heap.size = sz ∧ va_P (dC, dI) vwCl [(h0, .inr (8, fs))] U.heap ∧ va_K (dC, dI) vwCl [(cI, .int)] U ∧ va_D (fun _ => True) [(h0, .inr (8, fs))])) (va_Qv (fun (u : (List Value) × (Nat) × (Nat) × (Nat) × (Nat) × (Nat) × (Nat)) => hasF u.1 18 [(0, .ref p0), (9, .ref u.2.1), (10, .ref u.2.2.1), (11, .ref u.2.2.2.1), (12, .ref u.2.2.2.2.1), (13, .ref u.2.2.2.2.2.1), (15, .ref u.2.2.2.2.2.2), (16, .int 0), (17, .int 0)]) (fun (u : (List Value) × (Nat) × (Nat) × (Nat) × (Nat) × (Nat) × (Nat)) (t : State) => va_P (dC, dI) vwCl [(h0, .inr (8, u.1)), (u.2.1, .inl (cI, 2100, .inl (fun _ => 0))), (u.2.2.1, .inl (cI, 2100, .inl (fun _ => 0))), (u.2.2.2.1, .inl (cI, 2100, .inl (fun _ => 0))), (u.2.2.2.2.1, .inl (cI, 2100, .inl (fun _ => 0))), (u.2.2.2.2.2.1, .inl (cI, 2100, .inl (fun _ => 0))), (u.2.2.2.2.2.2, .inl (cI, 2100, .inl (fun _ => 0)))] t.heap ∧ va_K (dC, dI) vwCl [(cI, .int)] t ∧ va_D (va_A [(h0, .inr (8, fs))] sz) [(h0, .inr (8, u.1)), (u.2.1, .inl (cI, 2100, .inl (fun _ => 0))), (u.2.2.1, .inl (cI, 2100, .inl (fun _ => 0))), (u.2.2.2.1, .inl (cI, 2100, .inl (fun _ => 0))), (u.2.2.2.2.1, .inl (cI, 2100, .inl (fun _ => 0))), (u.2.2.2.2.2.1, .inl (cI, 2100, .inl (fun _ => 0))), (u.2.2.2.2.2.2, .inl (cI, 2100, .inl (fun _ => 0)))]) (va_A [(h0, .inr (8, fs))] sz)) 15 29460 (va_A [(h0, .inr (8, fs))] sz) := by
  refine Met.ofW (cc := cX8_init) (maxL := 2) (ret := none) (by decide) rfl ?_
  intro p e s m args below meth c s₁ B hml hv
  obtain ⟨rfl, hsz, hP, hK, hD0⟩ := hv
  have hx := B.exec
  have hb := B.bytes
  have hr := B.returns
  have hts := atoms_spec (ws := pw_c_X8_init) B.pre
  have hown : s.vm.findClass RX8 = some m.cls := findClass_of_methodNamed B.named
  have hlocks := B.notSynchronized
  have hin : meth.name = "<init>" := (name_of_methodNamed B.named B.method).1
  have hin_X8 : ∀ w ∈ u_ws RX8 TX8 18, w ∈ pw_c_X8_init := fun w h => List.mem_cons_of_mem _ (List.mem_append_right _ (List.mem_append_left _ h))
  subst hsz
  have hD := hD0.self (sz := s.heap.size)
  generalize hAe : va_A [(h0, .inr (8, fs))] s.heap.size = A at hD ⊢
  have hA : ∀ q : Nat, s.heap.size ≤ q → A q := fun q h => by rw [← hAe]; exact Or.inr h
  have hS : va_S A s.heap s.heap [] := va_S.rf
  have hP : va_P (dC, dI) vwCl [(h0, .inr (8, fs))] s.heap := hP
  have hl := lv_entry ([.ref h0, .ref p0]) (n := 2) (Nat.le_of_ble_eq_true rfl)
  rw [lg_entry_eq]
  generalize (lg_sl ([.ref h0, .ref p0]) ++ List.replicate (2 - (lg_sl ([.ref h0, .ref p0])).length) Slot.unset).toArray = ls at hl ⊢
  have hl : lv_has ls 2 [(0, .ref h0), (1, .ref p0)] := hl
  refine lv_aload_n hx hb dX8_init_0 rfl (lv_at hl 0 rfl) ?_
  refine W.objInit hx hb hown (hts (.methodLink RX8 3 objectInit) (List.mem_of_getElem? (i := 2) rfl)) (hts (.instanceMethod objectInit) (List.mem_of_getElem? (i := 3) rfl)) (hts _ (List.mem_of_getElem? (i := 1) rfl)) rfl (by rw [hml]; exact hl.1) rfl dX8_init_1 (Nat.le_of_ble_eq_true rfl) (Nat.le_of_ble_eq_true rfl) ?_
  refine W.eq (g2 := F0 m 4 ls []) rfl ?_
  refine lv_aload_n hx hb dX8_init_4 rfl (lv_at hl 0 rfl) ?_
  refine lv_sipush (v := 2100) hx hb dX8_init_5 (by decide) ?_
  refine va_newa (atype := .int) (a0 := (2100, .inl (fun _ => 0))) hx hb (hts (.arrayClass .int) (List.mem_of_getElem? (i := 4) rfl)) (ty := .int) rfl hK hP hD hS hA (na_int 2100) (by decide) (by decide +kernel) (show 2100 * 4 ≤ 536870912 by decide) (show 0 + 1 ≤ 15 by decide) (show 0 + 2100 ≤ 29460 by decide) dX8_init_8 (fun q_1 cA_2 H hK hP hD hS => ?_)
  have hK : va_K (dC, dI) vwCl [(cI, .int), (cA_2, .int)] s := hK
  obtain rfl := kU_int hK 0 1 rfl rfl
  have hK := hK.sub (tys' := [(cI, .int)]) [0] rfl
  have hP : va_P (dC, dI) vwCl [(h0, .inr (8, fs)), (q_1, .inl (cI, 2100, .inl (fun _ => 0)))] H := hP
  have hD : va_D A [(h0, .inr (8, fs)), (q_1, .inl (cI, 2100, .inl (fun _ => 0)))] := hD
  refine W.widen (k := 1) (n := 2100) (by decide) (by decide) ?_
  refine va_putF (D := (dC, dI)) (ci := 8) (v := .ref q_1) (ty := (.array .int)) (C := RX8) (T := TX8) (N := 18) hx hb hts hin_X8 tyX8 tyX8_ok nmX8 hown hK hP hD hS 0 rfl rfl 1 (by decide) (hts (.fieldLink RX8 11 "NeedHouse$Told" "symbol" "[I") (List.mem_of_getElem? (i := 5) rfl)) (fun _ h9 => h9) rfl hin rfl (by decide +kernel) rfl rfl (by rw [hF.1]; decide) dX8_init_10 (fun H locs hP hD hS => ?_)
  have hP : va_P (dC, dI) vwCl [(h0, .inr (8, (fs.set 1 (.ref q_1)))), (q_1, .inl (cI, 2100, .inl (fun _ => 0)))] H := hP
  have hD : va_D A [(h0, .inr (8, (fs.set 1 (.ref q_1)))), (q_1, .inl (cI, 2100, .inl (fun _ => 0)))] := hD
  have hF_3 := hF.set 1 (.ref q_1) (l' := [(1, .ref q_1), (16, .int 0), (17, .int 0)]) (by decide) rfl
  generalize fs.set 1 (.ref q_1) = fs_4 at hP hD hF_3
  have hP : va_P (dC, dI) vwCl [(h0, .inr (8, fs_4)), (q_1, .inl (cI, 2100, .inl (fun _ => 0)))] H := hP
  have hD : va_D A [(h0, .inr (8, fs_4)), (q_1, .inl (cI, 2100, .inl (fun _ => 0)))] := hD
  have hP := hP.sub (ws' := [(h0, .inr (8, fs_4))]) [0] rfl
  have hD := hD.sub (ws' := [(h0, .inr (8, fs_4))]) [0] (by decide) rfl
  refine lv_aload_n hx hb dX8_init_13 rfl (lv_at hl 0 rfl) ?_
  refine lv_sipush (v := 2100) hx hb dX8_init_14 (by decide) ?_
  refine va_newa (atype := .int) (a0 := (2100, .inl (fun _ => 0))) hx hb (hts (.arrayClass .int) (List.mem_of_getElem? (i := 4) rfl)) (ty := .int) rfl hK hP hD hS hA (na_int 2100) (by decide) (by decide +kernel) (show 2100 * 4 ≤ 536870912 by decide) (show 1 + 1 ≤ 15 by decide) (show 2100 + 2100 ≤ 29460 by decide) dX8_init_17 (fun q_5 cA_6 H hK hP hD hS => ?_)
  have hK : va_K (dC, dI) vwCl [(cI, .int), (cA_6, .int)] s := hK
  obtain rfl := kU_int hK 0 1 rfl rfl
  have hK := hK.sub (tys' := [(cI, .int)]) [0] rfl
  have hP : va_P (dC, dI) vwCl [(h0, .inr (8, fs_4)), (q_5, .inl (cI, 2100, .inl (fun _ => 0)))] H := hP
  have hD : va_D A [(h0, .inr (8, fs_4)), (q_5, .inl (cI, 2100, .inl (fun _ => 0)))] := hD
  refine W.widen (k := 2) (n := 4200) (by decide) (by decide) ?_
  refine va_putF (D := (dC, dI)) (ci := 8) (v := .ref q_5) (ty := (.array .int)) (C := RX8) (T := TX8) (N := 18) hx hb hts hin_X8 tyX8 tyX8_ok nmX8 hown hK hP hD hS 0 rfl rfl 2 (by decide) (hts (.fieldLink RX8 15 "NeedHouse$Told" "token" "[I") (List.mem_of_getElem? (i := 6) rfl)) (fun _ h9 => h9) rfl hin rfl (by decide +kernel) rfl rfl (by rw [hF_3.1]; decide) dX8_init_19 (fun H locs hP hD hS => ?_)
  have hP : va_P (dC, dI) vwCl [(h0, .inr (8, (fs_4.set 2 (.ref q_5)))), (q_5, .inl (cI, 2100, .inl (fun _ => 0)))] H := hP
  have hD : va_D A [(h0, .inr (8, (fs_4.set 2 (.ref q_5)))), (q_5, .inl (cI, 2100, .inl (fun _ => 0)))] := hD
  have hF_7 := hF_3.set 2 (.ref q_5) (l' := [(2, .ref q_5), (1, .ref q_1), (16, .int 0), (17, .int 0)]) (by decide) rfl
  generalize fs_4.set 2 (.ref q_5) = fs_8 at hP hD hF_7
  have hP : va_P (dC, dI) vwCl [(h0, .inr (8, fs_8)), (q_5, .inl (cI, 2100, .inl (fun _ => 0)))] H := hP
  have hD : va_D A [(h0, .inr (8, fs_8)), (q_5, .inl (cI, 2100, .inl (fun _ => 0)))] := hD
  have hP := hP.sub (ws' := [(h0, .inr (8, fs_8))]) [0] rfl
  have hD := hD.sub (ws' := [(h0, .inr (8, fs_8))]) [0] (by decide) rfl
  refine lv_aload_n hx hb dX8_init_22 rfl (lv_at hl 0 rfl) ?_
  refine lv_sipush (v := 2100) hx hb dX8_init_23 (by decide) ?_
  refine va_newa (atype := .int) (a0 := (2100, .inl (fun _ => 0))) hx hb (hts (.arrayClass .int) (List.mem_of_getElem? (i := 4) rfl)) (ty := .int) rfl hK hP hD hS hA (na_int 2100) (by decide) (by decide +kernel) (show 2100 * 4 ≤ 536870912 by decide) (show 2 + 1 ≤ 15 by decide) (show 4200 + 2100 ≤ 29460 by decide) dX8_init_26 (fun q_9 cA_10 H hK hP hD hS => ?_)
  have hK : va_K (dC, dI) vwCl [(cI, .int), (cA_10, .int)] s := hK
  obtain rfl := kU_int hK 0 1 rfl rfl
  have hK := hK.sub (tys' := [(cI, .int)]) [0] rfl
  have hP : va_P (dC, dI) vwCl [(h0, .inr (8, fs_8)), (q_9, .inl (cI, 2100, .inl (fun _ => 0)))] H := hP
  have hD : va_D A [(h0, .inr (8, fs_8)), (q_9, .inl (cI, 2100, .inl (fun _ => 0)))] := hD
  refine W.widen (k := 3) (n := 6300) (by decide) (by decide) ?_
  refine va_putF (D := (dC, dI)) (ci := 8) (v := .ref q_9) (ty := (.array .int)) (C := RX8) (T := TX8) (N := 18) hx hb hts hin_X8 tyX8 tyX8_ok nmX8 hown hK hP hD hS 0 rfl rfl 3 (by decide) (hts (.fieldLink RX8 18 "NeedHouse$Told" "scope" "[I") (List.mem_of_getElem? (i := 7) rfl)) (fun _ h9 => h9) rfl hin rfl (by decide +kernel) rfl rfl (by rw [hF_7.1]; decide) dX8_init_28 (fun H locs hP hD hS => ?_)
  have hP : va_P (dC, dI) vwCl [(h0, .inr (8, (fs_8.set 3 (.ref q_9)))), (q_9, .inl (cI, 2100, .inl (fun _ => 0)))] H := hP
  have hD : va_D A [(h0, .inr (8, (fs_8.set 3 (.ref q_9)))), (q_9, .inl (cI, 2100, .inl (fun _ => 0)))] := hD
  have hF_11 := hF_7.set 3 (.ref q_9) (l' := [(3, .ref q_9), (2, .ref q_5), (1, .ref q_1), (16, .int 0), (17, .int 0)]) (by decide) rfl
  generalize fs_8.set 3 (.ref q_9) = fs_12 at hP hD hF_11
  have hP : va_P (dC, dI) vwCl [(h0, .inr (8, fs_12)), (q_9, .inl (cI, 2100, .inl (fun _ => 0)))] H := hP
  have hD : va_D A [(h0, .inr (8, fs_12)), (q_9, .inl (cI, 2100, .inl (fun _ => 0)))] := hD
  have hP := hP.sub (ws' := [(h0, .inr (8, fs_12))]) [0] rfl
  have hD := hD.sub (ws' := [(h0, .inr (8, fs_12))]) [0] (by decide) rfl
  refine lv_aload_n hx hb dX8_init_31 rfl (lv_at hl 0 rfl) ?_
  refine lv_sipush (v := 2100) hx hb dX8_init_32 (by decide) ?_
  refine va_newa (atype := .int) (a0 := (2100, .inl (fun _ => 0))) hx hb (hts (.arrayClass .int) (List.mem_of_getElem? (i := 4) rfl)) (ty := .int) rfl hK hP hD hS hA (na_int 2100) (by decide) (by decide +kernel) (show 2100 * 4 ≤ 536870912 by decide) (show 3 + 1 ≤ 15 by decide) (show 6300 + 2100 ≤ 29460 by decide) dX8_init_35 (fun q_13 cA_14 H hK hP hD hS => ?_)
  have hK : va_K (dC, dI) vwCl [(cI, .int), (cA_14, .int)] s := hK
  obtain rfl := kU_int hK 0 1 rfl rfl
  have hK := hK.sub (tys' := [(cI, .int)]) [0] rfl
  have hP : va_P (dC, dI) vwCl [(h0, .inr (8, fs_12)), (q_13, .inl (cI, 2100, .inl (fun _ => 0)))] H := hP
  have hD : va_D A [(h0, .inr (8, fs_12)), (q_13, .inl (cI, 2100, .inl (fun _ => 0)))] := hD
  refine W.widen (k := 4) (n := 8400) (by decide) (by decide) ?_
  refine va_putF (D := (dC, dI)) (ci := 8) (v := .ref q_13) (ty := (.array .int)) (C := RX8) (T := TX8) (N := 18) hx hb hts hin_X8 tyX8 tyX8_ok nmX8 hown hK hP hD hS 0 rfl rfl 4 (by decide) (hts (.fieldLink RX8 21 "NeedHouse$Told" "place" "[I") (List.mem_of_getElem? (i := 8) rfl)) (fun _ h9 => h9) rfl hin rfl (by decide +kernel) rfl rfl (by rw [hF_11.1]; decide) dX8_init_37 (fun H locs hP hD hS => ?_)
  have hP : va_P (dC, dI) vwCl [(h0, .inr (8, (fs_12.set 4 (.ref q_13)))), (q_13, .inl (cI, 2100, .inl (fun _ => 0)))] H := hP
  have hD : va_D A [(h0, .inr (8, (fs_12.set 4 (.ref q_13)))), (q_13, .inl (cI, 2100, .inl (fun _ => 0)))] := hD
  have hF_15 := hF_11.set 4 (.ref q_13) (l' := [(4, .ref q_13), (3, .ref q_9), (2, .ref q_5), (1, .ref q_1), (16, .int 0), (17, .int 0)]) (by decide) rfl
  generalize fs_12.set 4 (.ref q_13) = fs_16 at hP hD hF_15
  have hP : va_P (dC, dI) vwCl [(h0, .inr (8, fs_16)), (q_13, .inl (cI, 2100, .inl (fun _ => 0)))] H := hP
  have hD : va_D A [(h0, .inr (8, fs_16)), (q_13, .inl (cI, 2100, .inl (fun _ => 0)))] := hD
  have hP := hP.sub (ws' := [(h0, .inr (8, fs_16))]) [0] rfl
  have hD := hD.sub (ws' := [(h0, .inr (8, fs_16))]) [0] (by decide) rfl
  refine lv_aload_n hx hb dX8_init_40 rfl (lv_at hl 0 rfl) ?_
  refine lv_sipush (v := 2100) hx hb dX8_init_41 (by decide) ?_
  refine va_newa (atype := .int) (a0 := (2100, .inl (fun _ => 0))) hx hb (hts (.arrayClass .int) (List.mem_of_getElem? (i := 4) rfl)) (ty := .int) rfl hK hP hD hS hA (na_int 2100) (by decide) (by decide +kernel) (show 2100 * 4 ≤ 536870912 by decide) (show 4 + 1 ≤ 15 by decide) (show 8400 + 2100 ≤ 29460 by decide) dX8_init_44 (fun q_17 cA_18 H hK hP hD hS => ?_)
  have hK : va_K (dC, dI) vwCl [(cI, .int), (cA_18, .int)] s := hK
  obtain rfl := kU_int hK 0 1 rfl rfl
  have hK := hK.sub (tys' := [(cI, .int)]) [0] rfl
  have hP : va_P (dC, dI) vwCl [(h0, .inr (8, fs_16)), (q_17, .inl (cI, 2100, .inl (fun _ => 0)))] H := hP
  have hD : va_D A [(h0, .inr (8, fs_16)), (q_17, .inl (cI, 2100, .inl (fun _ => 0)))] := hD
  refine W.widen (k := 5) (n := 10500) (by decide) (by decide) ?_
  refine va_putF (D := (dC, dI)) (ci := 8) (v := .ref q_17) (ty := (.array .int)) (C := RX8) (T := TX8) (N := 18) hx hb hts hin_X8 tyX8 tyX8_ok nmX8 hown hK hP hD hS 0 rfl rfl 5 (by decide) (hts (.fieldLink RX8 24 "NeedHouse$Told" "next" "[I") (List.mem_of_getElem? (i := 9) rfl)) (fun _ h9 => h9) rfl hin rfl (by decide +kernel) rfl rfl (by rw [hF_15.1]; decide) dX8_init_46 (fun H locs hP hD hS => ?_)
  have hP : va_P (dC, dI) vwCl [(h0, .inr (8, (fs_16.set 5 (.ref q_17)))), (q_17, .inl (cI, 2100, .inl (fun _ => 0)))] H := hP
  have hD : va_D A [(h0, .inr (8, (fs_16.set 5 (.ref q_17)))), (q_17, .inl (cI, 2100, .inl (fun _ => 0)))] := hD
  have hF_19 := hF_15.set 5 (.ref q_17) (l' := [(5, .ref q_17), (4, .ref q_13), (3, .ref q_9), (2, .ref q_5), (1, .ref q_1), (16, .int 0), (17, .int 0)]) (by decide) rfl
  generalize fs_16.set 5 (.ref q_17) = fs_20 at hP hD hF_19
  have hP : va_P (dC, dI) vwCl [(h0, .inr (8, fs_20)), (q_17, .inl (cI, 2100, .inl (fun _ => 0)))] H := hP
  have hD : va_D A [(h0, .inr (8, fs_20)), (q_17, .inl (cI, 2100, .inl (fun _ => 0)))] := hD
  have hP := hP.sub (ws' := [(h0, .inr (8, fs_20))]) [0] rfl
  have hD := hD.sub (ws' := [(h0, .inr (8, fs_20))]) [0] (by decide) rfl
  refine lv_aload_n hx hb dX8_init_49 rfl (lv_at hl 0 rfl) ?_
  refine lv_sipush (v := 2100) hx hb dX8_init_50 (by decide) ?_
  refine va_newa (atype := .int) (a0 := (2100, .inl (fun _ => 0))) hx hb (hts (.arrayClass .int) (List.mem_of_getElem? (i := 4) rfl)) (ty := .int) rfl hK hP hD hS hA (na_int 2100) (by decide) (by decide +kernel) (show 2100 * 4 ≤ 536870912 by decide) (show 5 + 1 ≤ 15 by decide) (show 10500 + 2100 ≤ 29460 by decide) dX8_init_53 (fun q_21 cA_22 H hK hP hD hS => ?_)
  have hK : va_K (dC, dI) vwCl [(cI, .int), (cA_22, .int)] s := hK
  obtain rfl := kU_int hK 0 1 rfl rfl
  have hK := hK.sub (tys' := [(cI, .int)]) [0] rfl
  have hP : va_P (dC, dI) vwCl [(h0, .inr (8, fs_20)), (q_21, .inl (cI, 2100, .inl (fun _ => 0)))] H := hP
  have hD : va_D A [(h0, .inr (8, fs_20)), (q_21, .inl (cI, 2100, .inl (fun _ => 0)))] := hD
  refine W.widen (k := 6) (n := 12600) (by decide) (by decide) ?_
  refine va_putF (D := (dC, dI)) (ci := 8) (v := .ref q_21) (ty := (.array .int)) (C := RX8) (T := TX8) (N := 18) hx hb hts hin_X8 tyX8 tyX8_ok nmX8 hown hK hP hD hS 0 rfl rfl 6 (by decide) (hts (.fieldLink RX8 27 "NeedHouse$Told" "row" "[I") (List.mem_of_getElem? (i := 10) rfl)) (fun _ h9 => h9) rfl hin rfl (by decide +kernel) rfl rfl (by rw [hF_19.1]; decide) dX8_init_55 (fun H locs hP hD hS => ?_)
  have hP : va_P (dC, dI) vwCl [(h0, .inr (8, (fs_20.set 6 (.ref q_21)))), (q_21, .inl (cI, 2100, .inl (fun _ => 0)))] H := hP
  have hD : va_D A [(h0, .inr (8, (fs_20.set 6 (.ref q_21)))), (q_21, .inl (cI, 2100, .inl (fun _ => 0)))] := hD
  have hF_23 := hF_19.set 6 (.ref q_21) (l' := [(6, .ref q_21), (5, .ref q_17), (4, .ref q_13), (3, .ref q_9), (2, .ref q_5), (1, .ref q_1), (16, .int 0), (17, .int 0)]) (by decide) rfl
  generalize fs_20.set 6 (.ref q_21) = fs_24 at hP hD hF_23
  have hP : va_P (dC, dI) vwCl [(h0, .inr (8, fs_24)), (q_21, .inl (cI, 2100, .inl (fun _ => 0)))] H := hP
  have hD : va_D A [(h0, .inr (8, fs_24)), (q_21, .inl (cI, 2100, .inl (fun _ => 0)))] := hD
  have hP := hP.sub (ws' := [(h0, .inr (8, fs_24))]) [0] rfl
  have hD := hD.sub (ws' := [(h0, .inr (8, fs_24))]) [0] (by decide) rfl
  refine lv_aload_n hx hb dX8_init_58 rfl (lv_at hl 0 rfl) ?_
  refine lv_sipush (v := 2100) hx hb dX8_init_59 (by decide) ?_
  refine va_newa (atype := .int) (a0 := (2100, .inl (fun _ => 0))) hx hb (hts (.arrayClass .int) (List.mem_of_getElem? (i := 4) rfl)) (ty := .int) rfl hK hP hD hS hA (na_int 2100) (by decide) (by decide +kernel) (show 2100 * 4 ≤ 536870912 by decide) (show 6 + 1 ≤ 15 by decide) (show 12600 + 2100 ≤ 29460 by decide) dX8_init_62 (fun q_25 cA_26 H hK hP hD hS => ?_)
  have hK : va_K (dC, dI) vwCl [(cI, .int), (cA_26, .int)] s := hK
  obtain rfl := kU_int hK 0 1 rfl rfl
  have hK := hK.sub (tys' := [(cI, .int)]) [0] rfl
  have hP : va_P (dC, dI) vwCl [(h0, .inr (8, fs_24)), (q_25, .inl (cI, 2100, .inl (fun _ => 0)))] H := hP
  have hD : va_D A [(h0, .inr (8, fs_24)), (q_25, .inl (cI, 2100, .inl (fun _ => 0)))] := hD
  refine W.widen (k := 7) (n := 14700) (by decide) (by decide) ?_
  refine va_putF (D := (dC, dI)) (ci := 8) (v := .ref q_25) (ty := (.array .int)) (C := RX8) (T := TX8) (N := 18) hx hb hts hin_X8 tyX8 tyX8_ok nmX8 hown hK hP hD hS 0 rfl rfl 7 (by decide) (hts (.fieldLink RX8 30 "NeedHouse$Told" "body" "[I") (List.mem_of_getElem? (i := 11) rfl)) (fun _ h9 => h9) rfl hin rfl (by decide +kernel) rfl rfl (by rw [hF_23.1]; decide) dX8_init_64 (fun H locs hP hD hS => ?_)
  have hP : va_P (dC, dI) vwCl [(h0, .inr (8, (fs_24.set 7 (.ref q_25)))), (q_25, .inl (cI, 2100, .inl (fun _ => 0)))] H := hP
  have hD : va_D A [(h0, .inr (8, (fs_24.set 7 (.ref q_25)))), (q_25, .inl (cI, 2100, .inl (fun _ => 0)))] := hD
  have hF_27 := hF_23.set 7 (.ref q_25) (l' := [(7, .ref q_25), (6, .ref q_21), (5, .ref q_17), (4, .ref q_13), (3, .ref q_9), (2, .ref q_5), (1, .ref q_1), (16, .int 0), (17, .int 0)]) (by decide) rfl
  generalize fs_24.set 7 (.ref q_25) = fs_28 at hP hD hF_27
  have hP : va_P (dC, dI) vwCl [(h0, .inr (8, fs_28)), (q_25, .inl (cI, 2100, .inl (fun _ => 0)))] H := hP
  have hD : va_D A [(h0, .inr (8, fs_28)), (q_25, .inl (cI, 2100, .inl (fun _ => 0)))] := hD
  have hP := hP.sub (ws' := [(h0, .inr (8, fs_28))]) [0] rfl
  have hD := hD.sub (ws' := [(h0, .inr (8, fs_28))]) [0] (by decide) rfl
  refine lv_aload_n hx hb dX8_init_67 rfl (lv_at hl 0 rfl) ?_
  refine lv_sipush (v := 2100) hx hb dX8_init_68 (by decide) ?_
  refine va_newa (atype := .int) (a0 := (2100, .inl (fun _ => 0))) hx hb (hts (.arrayClass .int) (List.mem_of_getElem? (i := 4) rfl)) (ty := .int) rfl hK hP hD hS hA (na_int 2100) (by decide) (by decide +kernel) (show 2100 * 4 ≤ 536870912 by decide) (show 7 + 1 ≤ 15 by decide) (show 14700 + 2100 ≤ 29460 by decide) dX8_init_71 (fun q_29 cA_30 H hK hP hD hS => ?_)
  have hK : va_K (dC, dI) vwCl [(cI, .int), (cA_30, .int)] s := hK
  obtain rfl := kU_int hK 0 1 rfl rfl
  have hK := hK.sub (tys' := [(cI, .int)]) [0] rfl
  have hP : va_P (dC, dI) vwCl [(h0, .inr (8, fs_28)), (q_29, .inl (cI, 2100, .inl (fun _ => 0)))] H := hP
  have hD : va_D A [(h0, .inr (8, fs_28)), (q_29, .inl (cI, 2100, .inl (fun _ => 0)))] := hD
  refine W.widen (k := 8) (n := 16800) (by decide) (by decide) ?_
  refine va_putF (D := (dC, dI)) (ci := 8) (v := .ref q_29) (ty := (.array .int)) (C := RX8) (T := TX8) (N := 18) hx hb hts hin_X8 tyX8 tyX8_ok nmX8 hown hK hP hD hS 0 rfl rfl 8 (by decide) (hts (.fieldLink RX8 33 "NeedHouse$Told" "maker" "[I") (List.mem_of_getElem? (i := 12) rfl)) (fun _ h9 => h9) rfl hin rfl (by decide +kernel) rfl rfl (by rw [hF_27.1]; decide) dX8_init_73 (fun H locs hP hD hS => ?_)
  have hP : va_P (dC, dI) vwCl [(h0, .inr (8, (fs_28.set 8 (.ref q_29)))), (q_29, .inl (cI, 2100, .inl (fun _ => 0)))] H := hP
  have hD : va_D A [(h0, .inr (8, (fs_28.set 8 (.ref q_29)))), (q_29, .inl (cI, 2100, .inl (fun _ => 0)))] := hD
  have hF_31 := hF_27.set 8 (.ref q_29) (l' := [(8, .ref q_29), (7, .ref q_25), (6, .ref q_21), (5, .ref q_17), (4, .ref q_13), (3, .ref q_9), (2, .ref q_5), (1, .ref q_1), (16, .int 0), (17, .int 0)]) (by decide) rfl
  generalize fs_28.set 8 (.ref q_29) = fs_32 at hP hD hF_31
  have hP : va_P (dC, dI) vwCl [(h0, .inr (8, fs_32)), (q_29, .inl (cI, 2100, .inl (fun _ => 0)))] H := hP
  have hD : va_D A [(h0, .inr (8, fs_32)), (q_29, .inl (cI, 2100, .inl (fun _ => 0)))] := hD
  have hP := hP.sub (ws' := [(h0, .inr (8, fs_32))]) [0] rfl
  have hD := hD.sub (ws' := [(h0, .inr (8, fs_32))]) [0] (by decide) rfl
  refine lv_aload_n hx hb dX8_init_76 rfl (lv_at hl 0 rfl) ?_
  refine lv_sipush (v := 2100) hx hb dX8_init_77 (by decide) ?_
  refine va_newa (atype := .int) (a0 := (2100, .inl (fun _ => 0))) hx hb (hts (.arrayClass .int) (List.mem_of_getElem? (i := 4) rfl)) (ty := .int) rfl hK hP hD hS hA (na_int 2100) (by decide) (by decide +kernel) (show 2100 * 4 ≤ 536870912 by decide) (show 8 + 1 ≤ 15 by decide) (show 16800 + 2100 ≤ 29460 by decide) dX8_init_80 (fun q_33 cA_34 H hK hP hD hS => ?_)
  have hK : va_K (dC, dI) vwCl [(cI, .int), (cA_34, .int)] s := hK
  obtain rfl := kU_int hK 0 1 rfl rfl
  have hK := hK.sub (tys' := [(cI, .int)]) [0] rfl
  have hP : va_P (dC, dI) vwCl [(h0, .inr (8, fs_32)), (q_33, .inl (cI, 2100, .inl (fun _ => 0)))] H := hP
  have hD : va_D A [(h0, .inr (8, fs_32)), (q_33, .inl (cI, 2100, .inl (fun _ => 0)))] := hD
  refine W.widen (k := 9) (n := 18900) (by decide) (by decide) ?_
  refine va_putF (D := (dC, dI)) (ci := 8) (v := .ref q_33) (ty := (.array .int)) (C := RX8) (T := TX8) (N := 18) hx hb hts hin_X8 tyX8 tyX8_ok nmX8 hown hK hP hD hS 0 rfl rfl 9 (by decide) (hts (.fieldLink RX8 36 "NeedHouse$Told" "parent" "[I") (List.mem_of_getElem? (i := 13) rfl)) (fun _ h9 => h9) rfl hin rfl (by decide +kernel) rfl rfl (by rw [hF_31.1]; decide) dX8_init_82 (fun H locs hP hD hS => ?_)
  have hP : va_P (dC, dI) vwCl [(h0, .inr (8, (fs_32.set 9 (.ref q_33)))), (q_33, .inl (cI, 2100, .inl (fun _ => 0)))] H := hP
  have hD : va_D A [(h0, .inr (8, (fs_32.set 9 (.ref q_33)))), (q_33, .inl (cI, 2100, .inl (fun _ => 0)))] := hD
  have hF_35 := hF_31.set 9 (.ref q_33) (l' := [(9, .ref q_33), (8, .ref q_29), (7, .ref q_25), (6, .ref q_21), (5, .ref q_17), (4, .ref q_13), (3, .ref q_9), (2, .ref q_5), (1, .ref q_1), (16, .int 0), (17, .int 0)]) (by decide) rfl
  generalize fs_32.set 9 (.ref q_33) = fs_36 at hP hD hF_35
  have hP : va_P (dC, dI) vwCl [(h0, .inr (8, fs_36)), (q_33, .inl (cI, 2100, .inl (fun _ => 0)))] H := hP
  have hD : va_D A [(h0, .inr (8, fs_36)), (q_33, .inl (cI, 2100, .inl (fun _ => 0)))] := hD
  refine lv_aload_n hx hb dX8_init_85 rfl (lv_at hl 0 rfl) ?_
  refine lv_sipush (v := 2100) hx hb dX8_init_86 (by decide) ?_
  refine va_newa (atype := .int) (a0 := (2100, .inl (fun _ => 0))) hx hb (hts (.arrayClass .int) (List.mem_of_getElem? (i := 4) rfl)) (ty := .int) rfl hK hP hD hS hA (na_int 2100) (by decide) (by decide +kernel) (show 2100 * 4 ≤ 536870912 by decide) (show 9 + 1 ≤ 15 by decide) (show 18900 + 2100 ≤ 29460 by decide) dX8_init_89 (fun q_37 cA_38 H hK hP hD hS => ?_)
  have hK : va_K (dC, dI) vwCl [(cI, .int), (cA_38, .int)] s := hK
  obtain rfl := kU_int hK 0 1 rfl rfl
  have hK := hK.sub (tys' := [(cI, .int)]) [0] rfl
  have hP : va_P (dC, dI) vwCl [(h0, .inr (8, fs_36)), (q_33, .inl (cI, 2100, .inl (fun _ => 0))), (q_37, .inl (cI, 2100, .inl (fun _ => 0)))] H := hP
  have hD : va_D A [(h0, .inr (8, fs_36)), (q_33, .inl (cI, 2100, .inl (fun _ => 0))), (q_37, .inl (cI, 2100, .inl (fun _ => 0)))] := hD
  refine W.widen (k := 10) (n := 21000) (by decide) (by decide) ?_
  refine va_putF (D := (dC, dI)) (ci := 8) (v := .ref q_37) (ty := (.array .int)) (C := RX8) (T := TX8) (N := 18) hx hb hts hin_X8 tyX8 tyX8_ok nmX8 hown hK hP hD hS 0 rfl rfl 10 (by decide) (hts (.fieldLink RX8 39 "NeedHouse$Told" "owner" "[I") (List.mem_of_getElem? (i := 14) rfl)) (fun _ h9 => h9) rfl hin rfl (by decide +kernel) rfl rfl (by rw [hF_35.1]; decide) dX8_init_91 (fun H locs hP hD hS => ?_)
  have hP : va_P (dC, dI) vwCl [(h0, .inr (8, (fs_36.set 10 (.ref q_37)))), (q_33, .inl (cI, 2100, .inl (fun _ => 0))), (q_37, .inl (cI, 2100, .inl (fun _ => 0)))] H := hP
  have hD : va_D A [(h0, .inr (8, (fs_36.set 10 (.ref q_37)))), (q_33, .inl (cI, 2100, .inl (fun _ => 0))), (q_37, .inl (cI, 2100, .inl (fun _ => 0)))] := hD
  have hF_39 := hF_35.set 10 (.ref q_37) (l' := [(10, .ref q_37), (9, .ref q_33), (8, .ref q_29), (7, .ref q_25), (6, .ref q_21), (5, .ref q_17), (4, .ref q_13), (3, .ref q_9), (2, .ref q_5), (1, .ref q_1), (16, .int 0), (17, .int 0)]) (by decide) rfl
  generalize fs_36.set 10 (.ref q_37) = fs_40 at hP hD hF_39
  have hP : va_P (dC, dI) vwCl [(h0, .inr (8, fs_40)), (q_33, .inl (cI, 2100, .inl (fun _ => 0))), (q_37, .inl (cI, 2100, .inl (fun _ => 0)))] H := hP
  have hD : va_D A [(h0, .inr (8, fs_40)), (q_33, .inl (cI, 2100, .inl (fun _ => 0))), (q_37, .inl (cI, 2100, .inl (fun _ => 0)))] := hD
  refine lv_aload_n hx hb dX8_init_94 rfl (lv_at hl 0 rfl) ?_
  refine lv_sipush (v := 2100) hx hb dX8_init_95 (by decide) ?_
  refine va_newa (atype := .int) (a0 := (2100, .inl (fun _ => 0))) hx hb (hts (.arrayClass .int) (List.mem_of_getElem? (i := 4) rfl)) (ty := .int) rfl hK hP hD hS hA (na_int 2100) (by decide) (by decide +kernel) (show 2100 * 4 ≤ 536870912 by decide) (show 10 + 1 ≤ 15 by decide) (show 21000 + 2100 ≤ 29460 by decide) dX8_init_98 (fun q_41 cA_42 H hK hP hD hS => ?_)
  have hK : va_K (dC, dI) vwCl [(cI, .int), (cA_42, .int)] s := hK
  obtain rfl := kU_int hK 0 1 rfl rfl
  have hK := hK.sub (tys' := [(cI, .int)]) [0] rfl
  have hP : va_P (dC, dI) vwCl [(h0, .inr (8, fs_40)), (q_33, .inl (cI, 2100, .inl (fun _ => 0))), (q_37, .inl (cI, 2100, .inl (fun _ => 0))), (q_41, .inl (cI, 2100, .inl (fun _ => 0)))] H := hP
  have hD : va_D A [(h0, .inr (8, fs_40)), (q_33, .inl (cI, 2100, .inl (fun _ => 0))), (q_37, .inl (cI, 2100, .inl (fun _ => 0))), (q_41, .inl (cI, 2100, .inl (fun _ => 0)))] := hD
  refine W.widen (k := 11) (n := 23100) (by decide) (by decide) ?_
  refine va_putF (D := (dC, dI)) (ci := 8) (v := .ref q_41) (ty := (.array .int)) (C := RX8) (T := TX8) (N := 18) hx hb hts hin_X8 tyX8 tyX8_ok nmX8 hown hK hP hD hS 0 rfl rfl 11 (by decide) (hts (.fieldLink RX8 42 "NeedHouse$Told" "first" "[I") (List.mem_of_getElem? (i := 15) rfl)) (fun _ h9 => h9) rfl hin rfl (by decide +kernel) rfl rfl (by rw [hF_39.1]; decide) dX8_init_100 (fun H locs hP hD hS => ?_)
  have hP : va_P (dC, dI) vwCl [(h0, .inr (8, (fs_40.set 11 (.ref q_41)))), (q_33, .inl (cI, 2100, .inl (fun _ => 0))), (q_37, .inl (cI, 2100, .inl (fun _ => 0))), (q_41, .inl (cI, 2100, .inl (fun _ => 0)))] H := hP
  have hD : va_D A [(h0, .inr (8, (fs_40.set 11 (.ref q_41)))), (q_33, .inl (cI, 2100, .inl (fun _ => 0))), (q_37, .inl (cI, 2100, .inl (fun _ => 0))), (q_41, .inl (cI, 2100, .inl (fun _ => 0)))] := hD
  have hF_43 := hF_39.set 11 (.ref q_41) (l' := [(11, .ref q_41), (10, .ref q_37), (9, .ref q_33), (8, .ref q_29), (7, .ref q_25), (6, .ref q_21), (5, .ref q_17), (4, .ref q_13), (3, .ref q_9), (2, .ref q_5), (1, .ref q_1), (16, .int 0), (17, .int 0)]) (by decide) rfl
  generalize fs_40.set 11 (.ref q_41) = fs_44 at hP hD hF_43
  have hP : va_P (dC, dI) vwCl [(h0, .inr (8, fs_44)), (q_33, .inl (cI, 2100, .inl (fun _ => 0))), (q_37, .inl (cI, 2100, .inl (fun _ => 0))), (q_41, .inl (cI, 2100, .inl (fun _ => 0)))] H := hP
  have hD : va_D A [(h0, .inr (8, fs_44)), (q_33, .inl (cI, 2100, .inl (fun _ => 0))), (q_37, .inl (cI, 2100, .inl (fun _ => 0))), (q_41, .inl (cI, 2100, .inl (fun _ => 0)))] := hD
  refine lv_aload_n hx hb dX8_init_103 rfl (lv_at hl 0 rfl) ?_
  refine lv_sipush (v := 2100) hx hb dX8_init_104 (by decide) ?_
  refine va_newa (atype := .int) (a0 := (2100, .inl (fun _ => 0))) hx hb (hts (.arrayClass .int) (List.mem_of_getElem? (i := 4) rfl)) (ty := .int) rfl hK hP hD hS hA (na_int 2100) (by decide) (by decide +kernel) (show 2100 * 4 ≤ 536870912 by decide) (show 11 + 1 ≤ 15 by decide) (show 23100 + 2100 ≤ 29460 by decide) dX8_init_107 (fun q_45 cA_46 H hK hP hD hS => ?_)
  have hK : va_K (dC, dI) vwCl [(cI, .int), (cA_46, .int)] s := hK
  obtain rfl := kU_int hK 0 1 rfl rfl
  have hK := hK.sub (tys' := [(cI, .int)]) [0] rfl
  have hP : va_P (dC, dI) vwCl [(h0, .inr (8, fs_44)), (q_33, .inl (cI, 2100, .inl (fun _ => 0))), (q_37, .inl (cI, 2100, .inl (fun _ => 0))), (q_41, .inl (cI, 2100, .inl (fun _ => 0))), (q_45, .inl (cI, 2100, .inl (fun _ => 0)))] H := hP
  have hD : va_D A [(h0, .inr (8, fs_44)), (q_33, .inl (cI, 2100, .inl (fun _ => 0))), (q_37, .inl (cI, 2100, .inl (fun _ => 0))), (q_41, .inl (cI, 2100, .inl (fun _ => 0))), (q_45, .inl (cI, 2100, .inl (fun _ => 0)))] := hD
  refine W.widen (k := 12) (n := 25200) (by decide) (by decide) ?_
  refine va_putF (D := (dC, dI)) (ci := 8) (v := .ref q_45) (ty := (.array .int)) (C := RX8) (T := TX8) (N := 18) hx hb hts hin_X8 tyX8 tyX8_ok nmX8 hown hK hP hD hS 0 rfl rfl 12 (by decide) (hts (.fieldLink RX8 45 "NeedHouse$Told" "last" "[I") (List.mem_of_getElem? (i := 16) rfl)) (fun _ h9 => h9) rfl hin rfl (by decide +kernel) rfl rfl (by rw [hF_43.1]; decide) dX8_init_109 (fun H locs hP hD hS => ?_)
  have hP : va_P (dC, dI) vwCl [(h0, .inr (8, (fs_44.set 12 (.ref q_45)))), (q_33, .inl (cI, 2100, .inl (fun _ => 0))), (q_37, .inl (cI, 2100, .inl (fun _ => 0))), (q_41, .inl (cI, 2100, .inl (fun _ => 0))), (q_45, .inl (cI, 2100, .inl (fun _ => 0)))] H := hP
  have hD : va_D A [(h0, .inr (8, (fs_44.set 12 (.ref q_45)))), (q_33, .inl (cI, 2100, .inl (fun _ => 0))), (q_37, .inl (cI, 2100, .inl (fun _ => 0))), (q_41, .inl (cI, 2100, .inl (fun _ => 0))), (q_45, .inl (cI, 2100, .inl (fun _ => 0)))] := hD
  have hF_47 := hF_43.set 12 (.ref q_45) (l' := [(12, .ref q_45), (11, .ref q_41), (10, .ref q_37), (9, .ref q_33), (8, .ref q_29), (7, .ref q_25), (6, .ref q_21), (5, .ref q_17), (4, .ref q_13), (3, .ref q_9), (2, .ref q_5), (1, .ref q_1), (16, .int 0), (17, .int 0)]) (by decide) rfl
  generalize fs_44.set 12 (.ref q_45) = fs_48 at hP hD hF_47
  have hP : va_P (dC, dI) vwCl [(h0, .inr (8, fs_48)), (q_33, .inl (cI, 2100, .inl (fun _ => 0))), (q_37, .inl (cI, 2100, .inl (fun _ => 0))), (q_41, .inl (cI, 2100, .inl (fun _ => 0))), (q_45, .inl (cI, 2100, .inl (fun _ => 0)))] H := hP
  have hD : va_D A [(h0, .inr (8, fs_48)), (q_33, .inl (cI, 2100, .inl (fun _ => 0))), (q_37, .inl (cI, 2100, .inl (fun _ => 0))), (q_41, .inl (cI, 2100, .inl (fun _ => 0))), (q_45, .inl (cI, 2100, .inl (fun _ => 0)))] := hD
  refine lv_aload_n hx hb dX8_init_112 rfl (lv_at hl 0 rfl) ?_
  refine lv_sipush (v := 2100) hx hb dX8_init_113 (by decide) ?_
  refine va_newa (atype := .int) (a0 := (2100, .inl (fun _ => 0))) hx hb (hts (.arrayClass .int) (List.mem_of_getElem? (i := 4) rfl)) (ty := .int) rfl hK hP hD hS hA (na_int 2100) (by decide) (by decide +kernel) (show 2100 * 4 ≤ 536870912 by decide) (show 12 + 1 ≤ 15 by decide) (show 25200 + 2100 ≤ 29460 by decide) dX8_init_116 (fun q_49 cA_50 H hK hP hD hS => ?_)
  have hK : va_K (dC, dI) vwCl [(cI, .int), (cA_50, .int)] s := hK
  obtain rfl := kU_int hK 0 1 rfl rfl
  have hK := hK.sub (tys' := [(cI, .int)]) [0] rfl
  have hP : va_P (dC, dI) vwCl [(h0, .inr (8, fs_48)), (q_33, .inl (cI, 2100, .inl (fun _ => 0))), (q_37, .inl (cI, 2100, .inl (fun _ => 0))), (q_41, .inl (cI, 2100, .inl (fun _ => 0))), (q_45, .inl (cI, 2100, .inl (fun _ => 0))), (q_49, .inl (cI, 2100, .inl (fun _ => 0)))] H := hP
  have hD : va_D A [(h0, .inr (8, fs_48)), (q_33, .inl (cI, 2100, .inl (fun _ => 0))), (q_37, .inl (cI, 2100, .inl (fun _ => 0))), (q_41, .inl (cI, 2100, .inl (fun _ => 0))), (q_45, .inl (cI, 2100, .inl (fun _ => 0))), (q_49, .inl (cI, 2100, .inl (fun _ => 0)))] := hD
  refine W.widen (k := 13) (n := 27300) (by decide) (by decide) ?_
  refine va_putF (D := (dC, dI)) (ci := 8) (v := .ref q_49) (ty := (.array .int)) (C := RX8) (T := TX8) (N := 18) hx hb hts hin_X8 tyX8 tyX8_ok nmX8 hown hK hP hD hS 0 rfl rfl 13 (by decide) (hts (.fieldLink RX8 48 "NeedHouse$Told" "width" "[I") (List.mem_of_getElem? (i := 17) rfl)) (fun _ h9 => h9) rfl hin rfl (by decide +kernel) rfl rfl (by rw [hF_47.1]; decide) dX8_init_118 (fun H locs hP hD hS => ?_)
  have hP : va_P (dC, dI) vwCl [(h0, .inr (8, (fs_48.set 13 (.ref q_49)))), (q_33, .inl (cI, 2100, .inl (fun _ => 0))), (q_37, .inl (cI, 2100, .inl (fun _ => 0))), (q_41, .inl (cI, 2100, .inl (fun _ => 0))), (q_45, .inl (cI, 2100, .inl (fun _ => 0))), (q_49, .inl (cI, 2100, .inl (fun _ => 0)))] H := hP
  have hD : va_D A [(h0, .inr (8, (fs_48.set 13 (.ref q_49)))), (q_33, .inl (cI, 2100, .inl (fun _ => 0))), (q_37, .inl (cI, 2100, .inl (fun _ => 0))), (q_41, .inl (cI, 2100, .inl (fun _ => 0))), (q_45, .inl (cI, 2100, .inl (fun _ => 0))), (q_49, .inl (cI, 2100, .inl (fun _ => 0)))] := hD
  have hF_51 := hF_47.set 13 (.ref q_49) (l' := [(13, .ref q_49), (12, .ref q_45), (11, .ref q_41), (10, .ref q_37), (9, .ref q_33), (8, .ref q_29), (7, .ref q_25), (6, .ref q_21), (5, .ref q_17), (4, .ref q_13), (3, .ref q_9), (2, .ref q_5), (1, .ref q_1), (16, .int 0), (17, .int 0)]) (by decide) rfl
  generalize fs_48.set 13 (.ref q_49) = fs_52 at hP hD hF_51
  have hP : va_P (dC, dI) vwCl [(h0, .inr (8, fs_52)), (q_33, .inl (cI, 2100, .inl (fun _ => 0))), (q_37, .inl (cI, 2100, .inl (fun _ => 0))), (q_41, .inl (cI, 2100, .inl (fun _ => 0))), (q_45, .inl (cI, 2100, .inl (fun _ => 0))), (q_49, .inl (cI, 2100, .inl (fun _ => 0)))] H := hP
  have hD : va_D A [(h0, .inr (8, fs_52)), (q_33, .inl (cI, 2100, .inl (fun _ => 0))), (q_37, .inl (cI, 2100, .inl (fun _ => 0))), (q_41, .inl (cI, 2100, .inl (fun _ => 0))), (q_45, .inl (cI, 2100, .inl (fun _ => 0))), (q_49, .inl (cI, 2100, .inl (fun _ => 0)))] := hD
  refine lv_aload_n hx hb dX8_init_121 rfl (lv_at hl 0 rfl) ?_
  refine lv_bipush (v := 60) hx hb dX8_init_122 (by decide) ?_
  refine va_newa (atype := .int) (a0 := (60, .inl (fun _ => 0))) hx hb (hts (.arrayClass .int) (List.mem_of_getElem? (i := 4) rfl)) (ty := .int) rfl hK hP hD hS hA (na_int 60) (by decide) (by decide +kernel) (show 60 * 4 ≤ 536870912 by decide) (show 13 + 1 ≤ 15 by decide) (show 27300 + 60 ≤ 29460 by decide) dX8_init_124 (fun q_53 cA_54 H hK hP hD hS => ?_)
  have hK : va_K (dC, dI) vwCl [(cI, .int), (cA_54, .int)] s := hK
  obtain rfl := kU_int hK 0 1 rfl rfl
  have hK := hK.sub (tys' := [(cI, .int)]) [0] rfl
  have hP : va_P (dC, dI) vwCl [(h0, .inr (8, fs_52)), (q_33, .inl (cI, 2100, .inl (fun _ => 0))), (q_37, .inl (cI, 2100, .inl (fun _ => 0))), (q_41, .inl (cI, 2100, .inl (fun _ => 0))), (q_45, .inl (cI, 2100, .inl (fun _ => 0))), (q_49, .inl (cI, 2100, .inl (fun _ => 0))), (q_53, .inl (cI, 60, .inl (fun _ => 0)))] H := hP
  have hD : va_D A [(h0, .inr (8, fs_52)), (q_33, .inl (cI, 2100, .inl (fun _ => 0))), (q_37, .inl (cI, 2100, .inl (fun _ => 0))), (q_41, .inl (cI, 2100, .inl (fun _ => 0))), (q_45, .inl (cI, 2100, .inl (fun _ => 0))), (q_49, .inl (cI, 2100, .inl (fun _ => 0))), (q_53, .inl (cI, 60, .inl (fun _ => 0)))] := hD
  refine W.widen (k := 14) (n := 27360) (by decide) (by decide) ?_
  refine va_putF (D := (dC, dI)) (ci := 8) (v := .ref q_53) (ty := (.array .int)) (C := RX8) (T := TX8) (N := 18) hx hb hts hin_X8 tyX8 tyX8_ok nmX8 hown hK hP hD hS 0 rfl rfl 14 (by decide) (hts (.fieldLink RX8 51 "NeedHouse$Told" "globals" "[I") (List.mem_of_getElem? (i := 18) rfl)) (fun _ h9 => h9) rfl hin rfl (by decide +kernel) rfl rfl (by rw [hF_51.1]; decide) dX8_init_126 (fun H locs hP hD hS => ?_)
  have hP : va_P (dC, dI) vwCl [(h0, .inr (8, (fs_52.set 14 (.ref q_53)))), (q_33, .inl (cI, 2100, .inl (fun _ => 0))), (q_37, .inl (cI, 2100, .inl (fun _ => 0))), (q_41, .inl (cI, 2100, .inl (fun _ => 0))), (q_45, .inl (cI, 2100, .inl (fun _ => 0))), (q_49, .inl (cI, 2100, .inl (fun _ => 0))), (q_53, .inl (cI, 60, .inl (fun _ => 0)))] H := hP
  have hD : va_D A [(h0, .inr (8, (fs_52.set 14 (.ref q_53)))), (q_33, .inl (cI, 2100, .inl (fun _ => 0))), (q_37, .inl (cI, 2100, .inl (fun _ => 0))), (q_41, .inl (cI, 2100, .inl (fun _ => 0))), (q_45, .inl (cI, 2100, .inl (fun _ => 0))), (q_49, .inl (cI, 2100, .inl (fun _ => 0))), (q_53, .inl (cI, 60, .inl (fun _ => 0)))] := hD
  have hF_55 := hF_51.set 14 (.ref q_53) (l' := [(14, .ref q_53), (13, .ref q_49), (12, .ref q_45), (11, .ref q_41), (10, .ref q_37), (9, .ref q_33), (8, .ref q_29), (7, .ref q_25), (6, .ref q_21), (5, .ref q_17), (4, .ref q_13), (3, .ref q_9), (2, .ref q_5), (1, .ref q_1), (16, .int 0), (17, .int 0)]) (by decide) rfl
  generalize fs_52.set 14 (.ref q_53) = fs_56 at hP hD hF_55
  have hP : va_P (dC, dI) vwCl [(h0, .inr (8, fs_56)), (q_33, .inl (cI, 2100, .inl (fun _ => 0))), (q_37, .inl (cI, 2100, .inl (fun _ => 0))), (q_41, .inl (cI, 2100, .inl (fun _ => 0))), (q_45, .inl (cI, 2100, .inl (fun _ => 0))), (q_49, .inl (cI, 2100, .inl (fun _ => 0))), (q_53, .inl (cI, 60, .inl (fun _ => 0)))] H := hP
  have hD : va_D A [(h0, .inr (8, fs_56)), (q_33, .inl (cI, 2100, .inl (fun _ => 0))), (q_37, .inl (cI, 2100, .inl (fun _ => 0))), (q_41, .inl (cI, 2100, .inl (fun _ => 0))), (q_45, .inl (cI, 2100, .inl (fun _ => 0))), (q_49, .inl (cI, 2100, .inl (fun _ => 0))), (q_53, .inl (cI, 60, .inl (fun _ => 0)))] := hD
  have hP := hP.sub (ws' := [(h0, .inr (8, fs_56)), (q_33, .inl (cI, 2100, .inl (fun _ => 0))), (q_37, .inl (cI, 2100, .inl (fun _ => 0))), (q_41, .inl (cI, 2100, .inl (fun _ => 0))), (q_45, .inl (cI, 2100, .inl (fun _ => 0))), (q_49, .inl (cI, 2100, .inl (fun _ => 0)))]) [0, 1, 2, 3, 4, 5] rfl
  have hD := hD.sub (ws' := [(h0, .inr (8, fs_56)), (q_33, .inl (cI, 2100, .inl (fun _ => 0))), (q_37, .inl (cI, 2100, .inl (fun _ => 0))), (q_41, .inl (cI, 2100, .inl (fun _ => 0))), (q_45, .inl (cI, 2100, .inl (fun _ => 0))), (q_49, .inl (cI, 2100, .inl (fun _ => 0)))]) [0, 1, 2, 3, 4, 5] (by decide) rfl
  refine lv_aload_n hx hb dX8_init_129 rfl (lv_at hl 0 rfl) ?_
  refine lv_sipush (v := 2100) hx hb dX8_init_130 (by decide) ?_
  refine va_newa (atype := .int) (a0 := (2100, .inl (fun _ => 0))) hx hb (hts (.arrayClass .int) (List.mem_of_getElem? (i := 4) rfl)) (ty := .int) rfl hK hP hD hS hA (na_int 2100) (by decide) (by decide +kernel) (show 2100 * 4 ≤ 536870912 by decide) (show 14 + 1 ≤ 15 by decide) (show 27360 + 2100 ≤ 29460 by decide) dX8_init_133 (fun q_57 cA_58 H hK hP hD hS => ?_)
  have hK : va_K (dC, dI) vwCl [(cI, .int), (cA_58, .int)] s := hK
  obtain rfl := kU_int hK 0 1 rfl rfl
  have hK := hK.sub (tys' := [(cI, .int)]) [0] rfl
  have hP : va_P (dC, dI) vwCl [(h0, .inr (8, fs_56)), (q_33, .inl (cI, 2100, .inl (fun _ => 0))), (q_37, .inl (cI, 2100, .inl (fun _ => 0))), (q_41, .inl (cI, 2100, .inl (fun _ => 0))), (q_45, .inl (cI, 2100, .inl (fun _ => 0))), (q_49, .inl (cI, 2100, .inl (fun _ => 0))), (q_57, .inl (cI, 2100, .inl (fun _ => 0)))] H := hP
  have hD : va_D A [(h0, .inr (8, fs_56)), (q_33, .inl (cI, 2100, .inl (fun _ => 0))), (q_37, .inl (cI, 2100, .inl (fun _ => 0))), (q_41, .inl (cI, 2100, .inl (fun _ => 0))), (q_45, .inl (cI, 2100, .inl (fun _ => 0))), (q_49, .inl (cI, 2100, .inl (fun _ => 0))), (q_57, .inl (cI, 2100, .inl (fun _ => 0)))] := hD
  refine W.widen (k := 15) (n := 29460) (by decide) (by decide) ?_
  refine va_putF (D := (dC, dI)) (ci := 8) (v := .ref q_57) (ty := (.array .int)) (C := RX8) (T := TX8) (N := 18) hx hb hts hin_X8 tyX8 tyX8_ok nmX8 hown hK hP hD hS 0 rfl rfl 15 (by decide) (hts (.fieldLink RX8 56 "NeedHouse$Told" "mark" "[I") (List.mem_of_getElem? (i := 19) rfl)) (fun _ h9 => h9) rfl hin rfl (by decide +kernel) rfl rfl (by rw [hF_55.1]; decide) dX8_init_135 (fun H locs hP hD hS => ?_)
  have hP : va_P (dC, dI) vwCl [(h0, .inr (8, (fs_56.set 15 (.ref q_57)))), (q_33, .inl (cI, 2100, .inl (fun _ => 0))), (q_37, .inl (cI, 2100, .inl (fun _ => 0))), (q_41, .inl (cI, 2100, .inl (fun _ => 0))), (q_45, .inl (cI, 2100, .inl (fun _ => 0))), (q_49, .inl (cI, 2100, .inl (fun _ => 0))), (q_57, .inl (cI, 2100, .inl (fun _ => 0)))] H := hP
  have hD : va_D A [(h0, .inr (8, (fs_56.set 15 (.ref q_57)))), (q_33, .inl (cI, 2100, .inl (fun _ => 0))), (q_37, .inl (cI, 2100, .inl (fun _ => 0))), (q_41, .inl (cI, 2100, .inl (fun _ => 0))), (q_45, .inl (cI, 2100, .inl (fun _ => 0))), (q_49, .inl (cI, 2100, .inl (fun _ => 0))), (q_57, .inl (cI, 2100, .inl (fun _ => 0)))] := hD
  have hF_59 := hF_55.set 15 (.ref q_57) (l' := [(15, .ref q_57), (14, .ref q_53), (13, .ref q_49), (12, .ref q_45), (11, .ref q_41), (10, .ref q_37), (9, .ref q_33), (8, .ref q_29), (7, .ref q_25), (6, .ref q_21), (5, .ref q_17), (4, .ref q_13), (3, .ref q_9), (2, .ref q_5), (1, .ref q_1), (16, .int 0), (17, .int 0)]) (by decide) rfl
  generalize fs_56.set 15 (.ref q_57) = fs_60 at hP hD hF_59
  have hP : va_P (dC, dI) vwCl [(h0, .inr (8, fs_60)), (q_33, .inl (cI, 2100, .inl (fun _ => 0))), (q_37, .inl (cI, 2100, .inl (fun _ => 0))), (q_41, .inl (cI, 2100, .inl (fun _ => 0))), (q_45, .inl (cI, 2100, .inl (fun _ => 0))), (q_49, .inl (cI, 2100, .inl (fun _ => 0))), (q_57, .inl (cI, 2100, .inl (fun _ => 0)))] H := hP
  have hD : va_D A [(h0, .inr (8, fs_60)), (q_33, .inl (cI, 2100, .inl (fun _ => 0))), (q_37, .inl (cI, 2100, .inl (fun _ => 0))), (q_41, .inl (cI, 2100, .inl (fun _ => 0))), (q_45, .inl (cI, 2100, .inl (fun _ => 0))), (q_49, .inl (cI, 2100, .inl (fun _ => 0))), (q_57, .inl (cI, 2100, .inl (fun _ => 0)))] := hD
  refine lv_aload_n hx hb dX8_init_138 rfl (lv_at hl 0 rfl) ?_
  refine lv_aload_n hx hb dX8_init_139 rfl (lv_at hl 1 rfl) ?_
  refine va_putF (D := (dC, dI)) (ci := 8) (v := .ref p0) (ty := (.object "NeedHouse$Lexemes")) (C := RX8) (T := TX8) (N := 18) hx hb hts hin_X8 tyX8 tyX8_ok nmX8 hown hK hP hD hS 0 rfl rfl 0 (by decide) (hts (.fieldLink RX8 59 "NeedHouse$Told" "lexemes" "LNeedHouse$Lexemes;") (List.mem_of_getElem? (i := 20) rfl)) (fun _ h9 => h9) rfl hin rfl (by decide +kernel) rfl rfl (by rw [hF_59.1]; decide) dX8_init_140 (fun H locs hP hD hS => ?_)
  have hP : va_P (dC, dI) vwCl [(h0, .inr (8, (fs_60.set 0 (.ref p0)))), (q_33, .inl (cI, 2100, .inl (fun _ => 0))), (q_37, .inl (cI, 2100, .inl (fun _ => 0))), (q_41, .inl (cI, 2100, .inl (fun _ => 0))), (q_45, .inl (cI, 2100, .inl (fun _ => 0))), (q_49, .inl (cI, 2100, .inl (fun _ => 0))), (q_57, .inl (cI, 2100, .inl (fun _ => 0)))] H := hP
  have hD : va_D A [(h0, .inr (8, (fs_60.set 0 (.ref p0)))), (q_33, .inl (cI, 2100, .inl (fun _ => 0))), (q_37, .inl (cI, 2100, .inl (fun _ => 0))), (q_41, .inl (cI, 2100, .inl (fun _ => 0))), (q_45, .inl (cI, 2100, .inl (fun _ => 0))), (q_49, .inl (cI, 2100, .inl (fun _ => 0))), (q_57, .inl (cI, 2100, .inl (fun _ => 0)))] := hD
  have hF_61 := hF_59.set 0 (.ref p0) (l' := [(0, .ref p0), (15, .ref q_57), (14, .ref q_53), (13, .ref q_49), (12, .ref q_45), (11, .ref q_41), (10, .ref q_37), (9, .ref q_33), (8, .ref q_29), (7, .ref q_25), (6, .ref q_21), (5, .ref q_17), (4, .ref q_13), (3, .ref q_9), (2, .ref q_5), (1, .ref q_1), (16, .int 0), (17, .int 0)]) (by decide) rfl
  generalize fs_60.set 0 (.ref p0) = fs_62 at hP hD hF_61
  have hP : va_P (dC, dI) vwCl [(h0, .inr (8, fs_62)), (q_33, .inl (cI, 2100, .inl (fun _ => 0))), (q_37, .inl (cI, 2100, .inl (fun _ => 0))), (q_41, .inl (cI, 2100, .inl (fun _ => 0))), (q_45, .inl (cI, 2100, .inl (fun _ => 0))), (q_49, .inl (cI, 2100, .inl (fun _ => 0))), (q_57, .inl (cI, 2100, .inl (fun _ => 0)))] H := hP
  have hD : va_D A [(h0, .inr (8, fs_62)), (q_33, .inl (cI, 2100, .inl (fun _ => 0))), (q_37, .inl (cI, 2100, .inl (fun _ => 0))), (q_41, .inl (cI, 2100, .inl (fun _ => 0))), (q_45, .inl (cI, 2100, .inl (fun _ => 0))), (q_49, .inl (cI, 2100, .inl (fun _ => 0))), (q_57, .inl (cI, 2100, .inl (fun _ => 0)))] := hD
  have hP9 := hP.sub (ws' := [(h0, .inr (8, fs_62)), (q_33, .inl (cI, 2100, .inl (fun _ => 0))), (q_37, .inl (cI, 2100, .inl (fun _ => 0))), (q_41, .inl (cI, 2100, .inl (fun _ => 0))), (q_45, .inl (cI, 2100, .inl (fun _ => 0))), (q_49, .inl (cI, 2100, .inl (fun _ => 0))), (q_57, .inl (cI, 2100, .inl (fun _ => 0)))]) [0, 1, 2, 3, 4, 5, 6] rfl
  have hD9 := hD.sub (ws' := [(h0, .inr (8, fs_62)), (q_33, .inl (cI, 2100, .inl (fun _ => 0))), (q_37, .inl (cI, 2100, .inl (fun _ => 0))), (q_41, .inl (cI, 2100, .inl (fun _ => 0))), (q_45, .inl (cI, 2100, .inl (fun _ => 0))), (q_49, .inl (cI, 2100, .inl (fun _ => 0))), (q_57, .inl (cI, 2100, .inl (fun _ => 0)))]) [0, 1, 2, 3, 4, 5, 6] (by decide) rfl
  have hK9 := hK.sub (tys' := [(cI, .int)]) [0] rfl
  exact W.vret hx hb hr (fun t ht hW => ⟨⟨((fs_62, q_33, q_37, q_41, q_45, q_49, q_57)), rfl, hF_61.sub [0, 7, 6, 5, 4, 3, 1, 16, 17] rfl, by rw [ht]; exact hP9, va_K.moved hW.alike hK9, hD9⟩, hS.F ht⟩) hS.2.2 dX8_init_143
def pw_c_X9_init : List Cond := .code yX9_init cX9_init 4 none :: ([.code objectInit ⟨#[0xb1]⟩ 1 none, .methodLink RX9 5 objectInit, .instanceMethod objectInit, .arrayClass .int, .fieldLink RX9 13 "NeedHouse$Tree" "kind" "[I", .fieldLink RX9 17 "NeedHouse$Tree" "first" "[I", .fieldLink RX9 20 "NeedHouse$Tree" "a" "[I", .fieldLink RX9 23 "NeedHouse$Tree" "b" "[I", .fieldLink RX9 26 "NeedHouse$Tree" "c" "[I", .fieldLink RX9 29 "NeedHouse$Tree" "part" "[I", .fieldLink RX9 32 "NeedHouse$Tree" "partOwner" "[I", .fieldLink RX9 35 "NeedHouse$Tree" "itemKind" "[I", .fieldLink RX9 38 "NeedHouse$Tree" "itemToken" "[I", .fieldLink RX9 41 "NeedHouse$Tree" "itemWant" "[I", .fieldLink RX9 44 "NeedHouse$Tree" "itemRow" "[I", .fieldLink RX9 47 "NeedHouse$Tree" "itemBody" "[I", .fieldLink RX9 50 "NeedHouse$Tree" "itemNext" "[I", .fieldLink RX9 53 "NeedHouse$Tree" "itemOwner" "[I", .fieldLink RX9 56 "NeedHouse$Tree" "lexemes" "LNeedHouse$Lexemes;", .fieldLink RX9 60 "NeedHouse$Tree" "told" "LNeedHouse$Told;", .fieldLink RX9 64 "NeedHouse$Tree" "datas" "LNeedHouse$Datas;"] ++ (wsX90 ++ []))
set_option maxHeartbeats 4000000 in
set_option maxRecDepth 100000 in
theorem c_X9_init (l : Launch) (dC : Nat → ClassId) (dI : Nat → Nat → Nat) (sz : Nat) (h0 : Nat) (fs : List Value) (cI : ClassId) (p0 : Nat) (p1 : Nat) (p2 : Nat) (hF : hasF fs 20 [(17, .int 0), (18, .int 0), (19, .int 0)]) : Met l yX9_init pw_c_X9_init ({ frames := 1, cells := 14, slots := 64036, locals := 12 }) (va_Pc [.ref h0, .ref p0, .ref p1, .ref p2] (fun U => U.heap.size = sz ∧ va_P (dC, dI) vwCl [(h0, .inr (9, fs))] U.heap ∧ va_K (dC, dI) vwCl [(cI, .int)] U ∧ va_D (fun _ => True) [(h0, .inr (9, fs))])) (va_Qv (fun (u : (List Value)) => hasF u 20 [(0, .ref p0), (1, .ref p1), (2, .ref p2), (17, .int 0), (18, .int 0), (19, .int 0)]) (fun (u : (List Value)) (t : State) => va_P (dC, dI) vwCl [(h0, .inr (9, u))] t.heap ∧ va_K (dC, dI) vwCl [(cI, .int)] t ∧ va_D (va_A [(h0, .inr (9, fs))] sz) [(h0, .inr (9, u))]) (va_A [(h0, .inr (9, fs))] sz)) 14 64036 (va_A [(h0, .inr (9, fs))] sz) := by
  refine Met.ofW (cc := cX9_init) (maxL := 4) (ret := none) (by decide) rfl ?_
  intro p e s m args below meth c s₁ B hml hv
  obtain ⟨rfl, hsz, hP, hK, hD0⟩ := hv
  have hx := B.exec
  have hb := B.bytes
  have hr := B.returns
  have hts := atoms_spec (ws := pw_c_X9_init) B.pre
  have hown : s.vm.findClass RX9 = some m.cls := findClass_of_methodNamed B.named
  have hlocks := B.notSynchronized
  have hin : meth.name = "<init>" := (name_of_methodNamed B.named B.method).1
  have hin_X9 : ∀ w ∈ u_ws RX9 TX9 20, w ∈ pw_c_X9_init := fun w h => List.mem_cons_of_mem _ (List.mem_append_right _ (List.mem_append_left _ h))
  subst hsz
  have hD := hD0.self (sz := s.heap.size)
  generalize hAe : va_A [(h0, .inr (9, fs))] s.heap.size = A at hD ⊢
  have hA : ∀ q : Nat, s.heap.size ≤ q → A q := fun q h => by rw [← hAe]; exact Or.inr h
  have hS : va_S A s.heap s.heap [] := va_S.rf
  have hP : va_P (dC, dI) vwCl [(h0, .inr (9, fs))] s.heap := hP
  have hl := lv_entry ([.ref h0, .ref p0, .ref p1, .ref p2]) (n := 4) (Nat.le_of_ble_eq_true rfl)
  rw [lg_entry_eq]
  generalize (lg_sl ([.ref h0, .ref p0, .ref p1, .ref p2]) ++ List.replicate (4 - (lg_sl ([.ref h0, .ref p0, .ref p1, .ref p2])).length) Slot.unset).toArray = ls at hl ⊢
  have hl : lv_has ls 4 [(0, .ref h0), (1, .ref p0), (2, .ref p1), (3, .ref p2)] := hl
  refine lv_aload_n hx hb dX9_init_0 rfl (lv_at hl 0 rfl) ?_
  refine W.objInit hx hb hown (hts (.methodLink RX9 5 objectInit) (List.mem_of_getElem? (i := 2) rfl)) (hts (.instanceMethod objectInit) (List.mem_of_getElem? (i := 3) rfl)) (hts _ (List.mem_of_getElem? (i := 1) rfl)) rfl (by rw [hml]; exact hl.1) rfl dX9_init_1 (Nat.le_of_ble_eq_true rfl) (Nat.le_of_ble_eq_true rfl) ?_
  refine W.eq (g2 := F0 m 4 ls []) rfl ?_
  refine lv_aload_n hx hb dX9_init_4 rfl (lv_at hl 0 rfl) ?_
  refine lv_sipush (v := 5600) hx hb dX9_init_5 (by decide) ?_
  refine va_newa (atype := .int) (a0 := (5600, .inl (fun _ => 0))) hx hb (hts (.arrayClass .int) (List.mem_of_getElem? (i := 4) rfl)) (ty := .int) rfl hK hP hD hS hA (na_int 5600) (by decide) (by decide +kernel) (show 5600 * 4 ≤ 536870912 by decide) (show 0 + 1 ≤ 14 by decide) (show 0 + 5600 ≤ 64036 by decide) dX9_init_8 (fun q_1 cA_2 H hK hP hD hS => ?_)
  have hK : va_K (dC, dI) vwCl [(cI, .int), (cA_2, .int)] s := hK
  obtain rfl := kU_int hK 0 1 rfl rfl
  have hK := hK.sub (tys' := [(cI, .int)]) [0] rfl
  have hP : va_P (dC, dI) vwCl [(h0, .inr (9, fs)), (q_1, .inl (cI, 5600, .inl (fun _ => 0)))] H := hP
  have hD : va_D A [(h0, .inr (9, fs)), (q_1, .inl (cI, 5600, .inl (fun _ => 0)))] := hD
  refine W.widen (k := 1) (n := 5600) (by decide) (by decide) ?_
  refine va_putF (D := (dC, dI)) (ci := 9) (v := .ref q_1) (ty := (.array .int)) (C := RX9) (T := TX9) (N := 20) hx hb hts hin_X9 tyX9 tyX9_ok nmX9 hown hK hP hD hS 0 rfl rfl 3 (by decide) (hts (.fieldLink RX9 13 "NeedHouse$Tree" "kind" "[I") (List.mem_of_getElem? (i := 5) rfl)) (fun _ h9 => h9) rfl hin rfl (by decide +kernel) rfl rfl (by rw [hF.1]; decide) dX9_init_10 (fun H locs hP hD hS => ?_)
  have hP : va_P (dC, dI) vwCl [(h0, .inr (9, (fs.set 3 (.ref q_1)))), (q_1, .inl (cI, 5600, .inl (fun _ => 0)))] H := hP
  have hD : va_D A [(h0, .inr (9, (fs.set 3 (.ref q_1)))), (q_1, .inl (cI, 5600, .inl (fun _ => 0)))] := hD
  have hF_3 := hF.set 3 (.ref q_1) (l' := [(3, .ref q_1), (17, .int 0), (18, .int 0), (19, .int 0)]) (by decide) rfl
  generalize fs.set 3 (.ref q_1) = fs_4 at hP hD hF_3
  have hP : va_P (dC, dI) vwCl [(h0, .inr (9, fs_4)), (q_1, .inl (cI, 5600, .inl (fun _ => 0)))] H := hP
  have hD : va_D A [(h0, .inr (9, fs_4)), (q_1, .inl (cI, 5600, .inl (fun _ => 0)))] := hD
  have hP := hP.sub (ws' := [(h0, .inr (9, fs_4))]) [0] rfl
  have hD := hD.sub (ws' := [(h0, .inr (9, fs_4))]) [0] (by decide) rfl
  refine lv_aload_n hx hb dX9_init_13 rfl (lv_at hl 0 rfl) ?_
  refine lv_sipush (v := 5600) hx hb dX9_init_14 (by decide) ?_
  refine va_newa (atype := .int) (a0 := (5600, .inl (fun _ => 0))) hx hb (hts (.arrayClass .int) (List.mem_of_getElem? (i := 4) rfl)) (ty := .int) rfl hK hP hD hS hA (na_int 5600) (by decide) (by decide +kernel) (show 5600 * 4 ≤ 536870912 by decide) (show 1 + 1 ≤ 14 by decide) (show 5600 + 5600 ≤ 64036 by decide) dX9_init_17 (fun q_5 cA_6 H hK hP hD hS => ?_)
  have hK : va_K (dC, dI) vwCl [(cI, .int), (cA_6, .int)] s := hK
  obtain rfl := kU_int hK 0 1 rfl rfl
  have hK := hK.sub (tys' := [(cI, .int)]) [0] rfl
  have hP : va_P (dC, dI) vwCl [(h0, .inr (9, fs_4)), (q_5, .inl (cI, 5600, .inl (fun _ => 0)))] H := hP
  have hD : va_D A [(h0, .inr (9, fs_4)), (q_5, .inl (cI, 5600, .inl (fun _ => 0)))] := hD
  refine W.widen (k := 2) (n := 11200) (by decide) (by decide) ?_
  refine va_putF (D := (dC, dI)) (ci := 9) (v := .ref q_5) (ty := (.array .int)) (C := RX9) (T := TX9) (N := 20) hx hb hts hin_X9 tyX9 tyX9_ok nmX9 hown hK hP hD hS 0 rfl rfl 4 (by decide) (hts (.fieldLink RX9 17 "NeedHouse$Tree" "first" "[I") (List.mem_of_getElem? (i := 6) rfl)) (fun _ h9 => h9) rfl hin rfl (by decide +kernel) rfl rfl (by rw [hF_3.1]; decide) dX9_init_19 (fun H locs hP hD hS => ?_)
  have hP : va_P (dC, dI) vwCl [(h0, .inr (9, (fs_4.set 4 (.ref q_5)))), (q_5, .inl (cI, 5600, .inl (fun _ => 0)))] H := hP
  have hD : va_D A [(h0, .inr (9, (fs_4.set 4 (.ref q_5)))), (q_5, .inl (cI, 5600, .inl (fun _ => 0)))] := hD
  have hF_7 := hF_3.set 4 (.ref q_5) (l' := [(4, .ref q_5), (3, .ref q_1), (17, .int 0), (18, .int 0), (19, .int 0)]) (by decide) rfl
  generalize fs_4.set 4 (.ref q_5) = fs_8 at hP hD hF_7
  have hP : va_P (dC, dI) vwCl [(h0, .inr (9, fs_8)), (q_5, .inl (cI, 5600, .inl (fun _ => 0)))] H := hP
  have hD : va_D A [(h0, .inr (9, fs_8)), (q_5, .inl (cI, 5600, .inl (fun _ => 0)))] := hD
  have hP := hP.sub (ws' := [(h0, .inr (9, fs_8))]) [0] rfl
  have hD := hD.sub (ws' := [(h0, .inr (9, fs_8))]) [0] (by decide) rfl
  refine lv_aload_n hx hb dX9_init_22 rfl (lv_at hl 0 rfl) ?_
  refine lv_sipush (v := 5600) hx hb dX9_init_23 (by decide) ?_
  refine va_newa (atype := .int) (a0 := (5600, .inl (fun _ => 0))) hx hb (hts (.arrayClass .int) (List.mem_of_getElem? (i := 4) rfl)) (ty := .int) rfl hK hP hD hS hA (na_int 5600) (by decide) (by decide +kernel) (show 5600 * 4 ≤ 536870912 by decide) (show 2 + 1 ≤ 14 by decide) (show 11200 + 5600 ≤ 64036 by decide) dX9_init_26 (fun q_9 cA_10 H hK hP hD hS => ?_)
  have hK : va_K (dC, dI) vwCl [(cI, .int), (cA_10, .int)] s := hK
  obtain rfl := kU_int hK 0 1 rfl rfl
  have hK := hK.sub (tys' := [(cI, .int)]) [0] rfl
  have hP : va_P (dC, dI) vwCl [(h0, .inr (9, fs_8)), (q_9, .inl (cI, 5600, .inl (fun _ => 0)))] H := hP
  have hD : va_D A [(h0, .inr (9, fs_8)), (q_9, .inl (cI, 5600, .inl (fun _ => 0)))] := hD
  refine W.widen (k := 3) (n := 16800) (by decide) (by decide) ?_
  refine va_putF (D := (dC, dI)) (ci := 9) (v := .ref q_9) (ty := (.array .int)) (C := RX9) (T := TX9) (N := 20) hx hb hts hin_X9 tyX9 tyX9_ok nmX9 hown hK hP hD hS 0 rfl rfl 5 (by decide) (hts (.fieldLink RX9 20 "NeedHouse$Tree" "a" "[I") (List.mem_of_getElem? (i := 7) rfl)) (fun _ h9 => h9) rfl hin rfl (by decide +kernel) rfl rfl (by rw [hF_7.1]; decide) dX9_init_28 (fun H locs hP hD hS => ?_)
  have hP : va_P (dC, dI) vwCl [(h0, .inr (9, (fs_8.set 5 (.ref q_9)))), (q_9, .inl (cI, 5600, .inl (fun _ => 0)))] H := hP
  have hD : va_D A [(h0, .inr (9, (fs_8.set 5 (.ref q_9)))), (q_9, .inl (cI, 5600, .inl (fun _ => 0)))] := hD
  have hF_11 := hF_7.set 5 (.ref q_9) (l' := [(5, .ref q_9), (4, .ref q_5), (3, .ref q_1), (17, .int 0), (18, .int 0), (19, .int 0)]) (by decide) rfl
  generalize fs_8.set 5 (.ref q_9) = fs_12 at hP hD hF_11
  have hP : va_P (dC, dI) vwCl [(h0, .inr (9, fs_12)), (q_9, .inl (cI, 5600, .inl (fun _ => 0)))] H := hP
  have hD : va_D A [(h0, .inr (9, fs_12)), (q_9, .inl (cI, 5600, .inl (fun _ => 0)))] := hD
  have hP := hP.sub (ws' := [(h0, .inr (9, fs_12))]) [0] rfl
  have hD := hD.sub (ws' := [(h0, .inr (9, fs_12))]) [0] (by decide) rfl
  refine lv_aload_n hx hb dX9_init_31 rfl (lv_at hl 0 rfl) ?_
  refine lv_sipush (v := 5600) hx hb dX9_init_32 (by decide) ?_
  refine va_newa (atype := .int) (a0 := (5600, .inl (fun _ => 0))) hx hb (hts (.arrayClass .int) (List.mem_of_getElem? (i := 4) rfl)) (ty := .int) rfl hK hP hD hS hA (na_int 5600) (by decide) (by decide +kernel) (show 5600 * 4 ≤ 536870912 by decide) (show 3 + 1 ≤ 14 by decide) (show 16800 + 5600 ≤ 64036 by decide) dX9_init_35 (fun q_13 cA_14 H hK hP hD hS => ?_)
  have hK : va_K (dC, dI) vwCl [(cI, .int), (cA_14, .int)] s := hK
  obtain rfl := kU_int hK 0 1 rfl rfl
  have hK := hK.sub (tys' := [(cI, .int)]) [0] rfl
  have hP : va_P (dC, dI) vwCl [(h0, .inr (9, fs_12)), (q_13, .inl (cI, 5600, .inl (fun _ => 0)))] H := hP
  have hD : va_D A [(h0, .inr (9, fs_12)), (q_13, .inl (cI, 5600, .inl (fun _ => 0)))] := hD
  refine W.widen (k := 4) (n := 22400) (by decide) (by decide) ?_
  refine va_putF (D := (dC, dI)) (ci := 9) (v := .ref q_13) (ty := (.array .int)) (C := RX9) (T := TX9) (N := 20) hx hb hts hin_X9 tyX9 tyX9_ok nmX9 hown hK hP hD hS 0 rfl rfl 6 (by decide) (hts (.fieldLink RX9 23 "NeedHouse$Tree" "b" "[I") (List.mem_of_getElem? (i := 8) rfl)) (fun _ h9 => h9) rfl hin rfl (by decide +kernel) rfl rfl (by rw [hF_11.1]; decide) dX9_init_37 (fun H locs hP hD hS => ?_)
  have hP : va_P (dC, dI) vwCl [(h0, .inr (9, (fs_12.set 6 (.ref q_13)))), (q_13, .inl (cI, 5600, .inl (fun _ => 0)))] H := hP
  have hD : va_D A [(h0, .inr (9, (fs_12.set 6 (.ref q_13)))), (q_13, .inl (cI, 5600, .inl (fun _ => 0)))] := hD
  have hF_15 := hF_11.set 6 (.ref q_13) (l' := [(6, .ref q_13), (5, .ref q_9), (4, .ref q_5), (3, .ref q_1), (17, .int 0), (18, .int 0), (19, .int 0)]) (by decide) rfl
  generalize fs_12.set 6 (.ref q_13) = fs_16 at hP hD hF_15
  have hP : va_P (dC, dI) vwCl [(h0, .inr (9, fs_16)), (q_13, .inl (cI, 5600, .inl (fun _ => 0)))] H := hP
  have hD : va_D A [(h0, .inr (9, fs_16)), (q_13, .inl (cI, 5600, .inl (fun _ => 0)))] := hD
  have hP := hP.sub (ws' := [(h0, .inr (9, fs_16))]) [0] rfl
  have hD := hD.sub (ws' := [(h0, .inr (9, fs_16))]) [0] (by decide) rfl
  refine lv_aload_n hx hb dX9_init_40 rfl (lv_at hl 0 rfl) ?_
  refine lv_sipush (v := 5600) hx hb dX9_init_41 (by decide) ?_
  refine va_newa (atype := .int) (a0 := (5600, .inl (fun _ => 0))) hx hb (hts (.arrayClass .int) (List.mem_of_getElem? (i := 4) rfl)) (ty := .int) rfl hK hP hD hS hA (na_int 5600) (by decide) (by decide +kernel) (show 5600 * 4 ≤ 536870912 by decide) (show 4 + 1 ≤ 14 by decide) (show 22400 + 5600 ≤ 64036 by decide) dX9_init_44 (fun q_17 cA_18 H hK hP hD hS => ?_)
  have hK : va_K (dC, dI) vwCl [(cI, .int), (cA_18, .int)] s := hK
  obtain rfl := kU_int hK 0 1 rfl rfl
  have hK := hK.sub (tys' := [(cI, .int)]) [0] rfl
  have hP : va_P (dC, dI) vwCl [(h0, .inr (9, fs_16)), (q_17, .inl (cI, 5600, .inl (fun _ => 0)))] H := hP
  have hD : va_D A [(h0, .inr (9, fs_16)), (q_17, .inl (cI, 5600, .inl (fun _ => 0)))] := hD
  refine W.widen (k := 5) (n := 28000) (by decide) (by decide) ?_
  refine va_putF (D := (dC, dI)) (ci := 9) (v := .ref q_17) (ty := (.array .int)) (C := RX9) (T := TX9) (N := 20) hx hb hts hin_X9 tyX9 tyX9_ok nmX9 hown hK hP hD hS 0 rfl rfl 7 (by decide) (hts (.fieldLink RX9 26 "NeedHouse$Tree" "c" "[I") (List.mem_of_getElem? (i := 9) rfl)) (fun _ h9 => h9) rfl hin rfl (by decide +kernel) rfl rfl (by rw [hF_15.1]; decide) dX9_init_46 (fun H locs hP hD hS => ?_)
  have hP : va_P (dC, dI) vwCl [(h0, .inr (9, (fs_16.set 7 (.ref q_17)))), (q_17, .inl (cI, 5600, .inl (fun _ => 0)))] H := hP
  have hD : va_D A [(h0, .inr (9, (fs_16.set 7 (.ref q_17)))), (q_17, .inl (cI, 5600, .inl (fun _ => 0)))] := hD
  have hF_19 := hF_15.set 7 (.ref q_17) (l' := [(7, .ref q_17), (6, .ref q_13), (5, .ref q_9), (4, .ref q_5), (3, .ref q_1), (17, .int 0), (18, .int 0), (19, .int 0)]) (by decide) rfl
  generalize fs_16.set 7 (.ref q_17) = fs_20 at hP hD hF_19
  have hP : va_P (dC, dI) vwCl [(h0, .inr (9, fs_20)), (q_17, .inl (cI, 5600, .inl (fun _ => 0)))] H := hP
  have hD : va_D A [(h0, .inr (9, fs_20)), (q_17, .inl (cI, 5600, .inl (fun _ => 0)))] := hD
  have hP := hP.sub (ws' := [(h0, .inr (9, fs_20))]) [0] rfl
  have hD := hD.sub (ws' := [(h0, .inr (9, fs_20))]) [0] (by decide) rfl
  refine lv_aload_n hx hb dX9_init_49 rfl (lv_at hl 0 rfl) ?_
  refine lv_sipush (v := 4004) hx hb dX9_init_50 (by decide) ?_
  refine va_newa (atype := .int) (a0 := (4004, .inl (fun _ => 0))) hx hb (hts (.arrayClass .int) (List.mem_of_getElem? (i := 4) rfl)) (ty := .int) rfl hK hP hD hS hA (na_int 4004) (by decide) (by decide +kernel) (show 4004 * 4 ≤ 536870912 by decide) (show 5 + 1 ≤ 14 by decide) (show 28000 + 4004 ≤ 64036 by decide) dX9_init_53 (fun q_21 cA_22 H hK hP hD hS => ?_)
  have hK : va_K (dC, dI) vwCl [(cI, .int), (cA_22, .int)] s := hK
  obtain rfl := kU_int hK 0 1 rfl rfl
  have hK := hK.sub (tys' := [(cI, .int)]) [0] rfl
  have hP : va_P (dC, dI) vwCl [(h0, .inr (9, fs_20)), (q_21, .inl (cI, 4004, .inl (fun _ => 0)))] H := hP
  have hD : va_D A [(h0, .inr (9, fs_20)), (q_21, .inl (cI, 4004, .inl (fun _ => 0)))] := hD
  refine W.widen (k := 6) (n := 32004) (by decide) (by decide) ?_
  refine va_putF (D := (dC, dI)) (ci := 9) (v := .ref q_21) (ty := (.array .int)) (C := RX9) (T := TX9) (N := 20) hx hb hts hin_X9 tyX9 tyX9_ok nmX9 hown hK hP hD hS 0 rfl rfl 8 (by decide) (hts (.fieldLink RX9 29 "NeedHouse$Tree" "part" "[I") (List.mem_of_getElem? (i := 10) rfl)) (fun _ h9 => h9) rfl hin rfl (by decide +kernel) rfl rfl (by rw [hF_19.1]; decide) dX9_init_55 (fun H locs hP hD hS => ?_)
  have hP : va_P (dC, dI) vwCl [(h0, .inr (9, (fs_20.set 8 (.ref q_21)))), (q_21, .inl (cI, 4004, .inl (fun _ => 0)))] H := hP
  have hD : va_D A [(h0, .inr (9, (fs_20.set 8 (.ref q_21)))), (q_21, .inl (cI, 4004, .inl (fun _ => 0)))] := hD
  have hF_23 := hF_19.set 8 (.ref q_21) (l' := [(8, .ref q_21), (7, .ref q_17), (6, .ref q_13), (5, .ref q_9), (4, .ref q_5), (3, .ref q_1), (17, .int 0), (18, .int 0), (19, .int 0)]) (by decide) rfl
  generalize fs_20.set 8 (.ref q_21) = fs_24 at hP hD hF_23
  have hP : va_P (dC, dI) vwCl [(h0, .inr (9, fs_24)), (q_21, .inl (cI, 4004, .inl (fun _ => 0)))] H := hP
  have hD : va_D A [(h0, .inr (9, fs_24)), (q_21, .inl (cI, 4004, .inl (fun _ => 0)))] := hD
  have hP := hP.sub (ws' := [(h0, .inr (9, fs_24))]) [0] rfl
  have hD := hD.sub (ws' := [(h0, .inr (9, fs_24))]) [0] (by decide) rfl
  refine lv_aload_n hx hb dX9_init_58 rfl (lv_at hl 0 rfl) ?_
  refine lv_sipush (v := 4004) hx hb dX9_init_59 (by decide) ?_
  refine va_newa (atype := .int) (a0 := (4004, .inl (fun _ => 0))) hx hb (hts (.arrayClass .int) (List.mem_of_getElem? (i := 4) rfl)) (ty := .int) rfl hK hP hD hS hA (na_int 4004) (by decide) (by decide +kernel) (show 4004 * 4 ≤ 536870912 by decide) (show 6 + 1 ≤ 14 by decide) (show 32004 + 4004 ≤ 64036 by decide) dX9_init_62 (fun q_25 cA_26 H hK hP hD hS => ?_)
  have hK : va_K (dC, dI) vwCl [(cI, .int), (cA_26, .int)] s := hK
  obtain rfl := kU_int hK 0 1 rfl rfl
  have hK := hK.sub (tys' := [(cI, .int)]) [0] rfl
  have hP : va_P (dC, dI) vwCl [(h0, .inr (9, fs_24)), (q_25, .inl (cI, 4004, .inl (fun _ => 0)))] H := hP
  have hD : va_D A [(h0, .inr (9, fs_24)), (q_25, .inl (cI, 4004, .inl (fun _ => 0)))] := hD
  refine W.widen (k := 7) (n := 36008) (by decide) (by decide) ?_
  refine va_putF (D := (dC, dI)) (ci := 9) (v := .ref q_25) (ty := (.array .int)) (C := RX9) (T := TX9) (N := 20) hx hb hts hin_X9 tyX9 tyX9_ok nmX9 hown hK hP hD hS 0 rfl rfl 9 (by decide) (hts (.fieldLink RX9 32 "NeedHouse$Tree" "partOwner" "[I") (List.mem_of_getElem? (i := 11) rfl)) (fun _ h9 => h9) rfl hin rfl (by decide +kernel) rfl rfl (by rw [hF_23.1]; decide) dX9_init_64 (fun H locs hP hD hS => ?_)
  have hP : va_P (dC, dI) vwCl [(h0, .inr (9, (fs_24.set 9 (.ref q_25)))), (q_25, .inl (cI, 4004, .inl (fun _ => 0)))] H := hP
  have hD : va_D A [(h0, .inr (9, (fs_24.set 9 (.ref q_25)))), (q_25, .inl (cI, 4004, .inl (fun _ => 0)))] := hD
  have hF_27 := hF_23.set 9 (.ref q_25) (l' := [(9, .ref q_25), (8, .ref q_21), (7, .ref q_17), (6, .ref q_13), (5, .ref q_9), (4, .ref q_5), (3, .ref q_1), (17, .int 0), (18, .int 0), (19, .int 0)]) (by decide) rfl
  generalize fs_24.set 9 (.ref q_25) = fs_28 at hP hD hF_27
  have hP : va_P (dC, dI) vwCl [(h0, .inr (9, fs_28)), (q_25, .inl (cI, 4004, .inl (fun _ => 0)))] H := hP
  have hD : va_D A [(h0, .inr (9, fs_28)), (q_25, .inl (cI, 4004, .inl (fun _ => 0)))] := hD
  have hP := hP.sub (ws' := [(h0, .inr (9, fs_28))]) [0] rfl
  have hD := hD.sub (ws' := [(h0, .inr (9, fs_28))]) [0] (by decide) rfl
  refine lv_aload_n hx hb dX9_init_67 rfl (lv_at hl 0 rfl) ?_
  refine lv_sipush (v := 4004) hx hb dX9_init_68 (by decide) ?_
  refine va_newa (atype := .int) (a0 := (4004, .inl (fun _ => 0))) hx hb (hts (.arrayClass .int) (List.mem_of_getElem? (i := 4) rfl)) (ty := .int) rfl hK hP hD hS hA (na_int 4004) (by decide) (by decide +kernel) (show 4004 * 4 ≤ 536870912 by decide) (show 7 + 1 ≤ 14 by decide) (show 36008 + 4004 ≤ 64036 by decide) dX9_init_71 (fun q_29 cA_30 H hK hP hD hS => ?_)
  have hK : va_K (dC, dI) vwCl [(cI, .int), (cA_30, .int)] s := hK
  obtain rfl := kU_int hK 0 1 rfl rfl
  have hK := hK.sub (tys' := [(cI, .int)]) [0] rfl
  have hP : va_P (dC, dI) vwCl [(h0, .inr (9, fs_28)), (q_29, .inl (cI, 4004, .inl (fun _ => 0)))] H := hP
  have hD : va_D A [(h0, .inr (9, fs_28)), (q_29, .inl (cI, 4004, .inl (fun _ => 0)))] := hD
  refine W.widen (k := 8) (n := 40012) (by decide) (by decide) ?_
  refine va_putF (D := (dC, dI)) (ci := 9) (v := .ref q_29) (ty := (.array .int)) (C := RX9) (T := TX9) (N := 20) hx hb hts hin_X9 tyX9 tyX9_ok nmX9 hown hK hP hD hS 0 rfl rfl 10 (by decide) (hts (.fieldLink RX9 35 "NeedHouse$Tree" "itemKind" "[I") (List.mem_of_getElem? (i := 12) rfl)) (fun _ h9 => h9) rfl hin rfl (by decide +kernel) rfl rfl (by rw [hF_27.1]; decide) dX9_init_73 (fun H locs hP hD hS => ?_)
  have hP : va_P (dC, dI) vwCl [(h0, .inr (9, (fs_28.set 10 (.ref q_29)))), (q_29, .inl (cI, 4004, .inl (fun _ => 0)))] H := hP
  have hD : va_D A [(h0, .inr (9, (fs_28.set 10 (.ref q_29)))), (q_29, .inl (cI, 4004, .inl (fun _ => 0)))] := hD
  have hF_31 := hF_27.set 10 (.ref q_29) (l' := [(10, .ref q_29), (9, .ref q_25), (8, .ref q_21), (7, .ref q_17), (6, .ref q_13), (5, .ref q_9), (4, .ref q_5), (3, .ref q_1), (17, .int 0), (18, .int 0), (19, .int 0)]) (by decide) rfl
  generalize fs_28.set 10 (.ref q_29) = fs_32 at hP hD hF_31
  have hP : va_P (dC, dI) vwCl [(h0, .inr (9, fs_32)), (q_29, .inl (cI, 4004, .inl (fun _ => 0)))] H := hP
  have hD : va_D A [(h0, .inr (9, fs_32)), (q_29, .inl (cI, 4004, .inl (fun _ => 0)))] := hD
  have hP := hP.sub (ws' := [(h0, .inr (9, fs_32))]) [0] rfl
  have hD := hD.sub (ws' := [(h0, .inr (9, fs_32))]) [0] (by decide) rfl
  refine lv_aload_n hx hb dX9_init_76 rfl (lv_at hl 0 rfl) ?_
  refine lv_sipush (v := 4004) hx hb dX9_init_77 (by decide) ?_
  refine va_newa (atype := .int) (a0 := (4004, .inl (fun _ => 0))) hx hb (hts (.arrayClass .int) (List.mem_of_getElem? (i := 4) rfl)) (ty := .int) rfl hK hP hD hS hA (na_int 4004) (by decide) (by decide +kernel) (show 4004 * 4 ≤ 536870912 by decide) (show 8 + 1 ≤ 14 by decide) (show 40012 + 4004 ≤ 64036 by decide) dX9_init_80 (fun q_33 cA_34 H hK hP hD hS => ?_)
  have hK : va_K (dC, dI) vwCl [(cI, .int), (cA_34, .int)] s := hK
  obtain rfl := kU_int hK 0 1 rfl rfl
  have hK := hK.sub (tys' := [(cI, .int)]) [0] rfl
  have hP : va_P (dC, dI) vwCl [(h0, .inr (9, fs_32)), (q_33, .inl (cI, 4004, .inl (fun _ => 0)))] H := hP
  have hD : va_D A [(h0, .inr (9, fs_32)), (q_33, .inl (cI, 4004, .inl (fun _ => 0)))] := hD
  refine W.widen (k := 9) (n := 44016) (by decide) (by decide) ?_
  refine va_putF (D := (dC, dI)) (ci := 9) (v := .ref q_33) (ty := (.array .int)) (C := RX9) (T := TX9) (N := 20) hx hb hts hin_X9 tyX9 tyX9_ok nmX9 hown hK hP hD hS 0 rfl rfl 11 (by decide) (hts (.fieldLink RX9 38 "NeedHouse$Tree" "itemToken" "[I") (List.mem_of_getElem? (i := 13) rfl)) (fun _ h9 => h9) rfl hin rfl (by decide +kernel) rfl rfl (by rw [hF_31.1]; decide) dX9_init_82 (fun H locs hP hD hS => ?_)
  have hP : va_P (dC, dI) vwCl [(h0, .inr (9, (fs_32.set 11 (.ref q_33)))), (q_33, .inl (cI, 4004, .inl (fun _ => 0)))] H := hP
  have hD : va_D A [(h0, .inr (9, (fs_32.set 11 (.ref q_33)))), (q_33, .inl (cI, 4004, .inl (fun _ => 0)))] := hD
  have hF_35 := hF_31.set 11 (.ref q_33) (l' := [(11, .ref q_33), (10, .ref q_29), (9, .ref q_25), (8, .ref q_21), (7, .ref q_17), (6, .ref q_13), (5, .ref q_9), (4, .ref q_5), (3, .ref q_1), (17, .int 0), (18, .int 0), (19, .int 0)]) (by decide) rfl
  generalize fs_32.set 11 (.ref q_33) = fs_36 at hP hD hF_35
  have hP : va_P (dC, dI) vwCl [(h0, .inr (9, fs_36)), (q_33, .inl (cI, 4004, .inl (fun _ => 0)))] H := hP
  have hD : va_D A [(h0, .inr (9, fs_36)), (q_33, .inl (cI, 4004, .inl (fun _ => 0)))] := hD
  have hP := hP.sub (ws' := [(h0, .inr (9, fs_36))]) [0] rfl
  have hD := hD.sub (ws' := [(h0, .inr (9, fs_36))]) [0] (by decide) rfl
  refine lv_aload_n hx hb dX9_init_85 rfl (lv_at hl 0 rfl) ?_
  refine lv_sipush (v := 4004) hx hb dX9_init_86 (by decide) ?_
  refine va_newa (atype := .int) (a0 := (4004, .inl (fun _ => 0))) hx hb (hts (.arrayClass .int) (List.mem_of_getElem? (i := 4) rfl)) (ty := .int) rfl hK hP hD hS hA (na_int 4004) (by decide) (by decide +kernel) (show 4004 * 4 ≤ 536870912 by decide) (show 9 + 1 ≤ 14 by decide) (show 44016 + 4004 ≤ 64036 by decide) dX9_init_89 (fun q_37 cA_38 H hK hP hD hS => ?_)
  have hK : va_K (dC, dI) vwCl [(cI, .int), (cA_38, .int)] s := hK
  obtain rfl := kU_int hK 0 1 rfl rfl
  have hK := hK.sub (tys' := [(cI, .int)]) [0] rfl
  have hP : va_P (dC, dI) vwCl [(h0, .inr (9, fs_36)), (q_37, .inl (cI, 4004, .inl (fun _ => 0)))] H := hP
  have hD : va_D A [(h0, .inr (9, fs_36)), (q_37, .inl (cI, 4004, .inl (fun _ => 0)))] := hD
  refine W.widen (k := 10) (n := 48020) (by decide) (by decide) ?_
  refine va_putF (D := (dC, dI)) (ci := 9) (v := .ref q_37) (ty := (.array .int)) (C := RX9) (T := TX9) (N := 20) hx hb hts hin_X9 tyX9 tyX9_ok nmX9 hown hK hP hD hS 0 rfl rfl 12 (by decide) (hts (.fieldLink RX9 41 "NeedHouse$Tree" "itemWant" "[I") (List.mem_of_getElem? (i := 14) rfl)) (fun _ h9 => h9) rfl hin rfl (by decide +kernel) rfl rfl (by rw [hF_35.1]; decide) dX9_init_91 (fun H locs hP hD hS => ?_)
  have hP : va_P (dC, dI) vwCl [(h0, .inr (9, (fs_36.set 12 (.ref q_37)))), (q_37, .inl (cI, 4004, .inl (fun _ => 0)))] H := hP
  have hD : va_D A [(h0, .inr (9, (fs_36.set 12 (.ref q_37)))), (q_37, .inl (cI, 4004, .inl (fun _ => 0)))] := hD
  have hF_39 := hF_35.set 12 (.ref q_37) (l' := [(12, .ref q_37), (11, .ref q_33), (10, .ref q_29), (9, .ref q_25), (8, .ref q_21), (7, .ref q_17), (6, .ref q_13), (5, .ref q_9), (4, .ref q_5), (3, .ref q_1), (17, .int 0), (18, .int 0), (19, .int 0)]) (by decide) rfl
  generalize fs_36.set 12 (.ref q_37) = fs_40 at hP hD hF_39
  have hP : va_P (dC, dI) vwCl [(h0, .inr (9, fs_40)), (q_37, .inl (cI, 4004, .inl (fun _ => 0)))] H := hP
  have hD : va_D A [(h0, .inr (9, fs_40)), (q_37, .inl (cI, 4004, .inl (fun _ => 0)))] := hD
  have hP := hP.sub (ws' := [(h0, .inr (9, fs_40))]) [0] rfl
  have hD := hD.sub (ws' := [(h0, .inr (9, fs_40))]) [0] (by decide) rfl
  refine lv_aload_n hx hb dX9_init_94 rfl (lv_at hl 0 rfl) ?_
  refine lv_sipush (v := 4004) hx hb dX9_init_95 (by decide) ?_
  refine va_newa (atype := .int) (a0 := (4004, .inl (fun _ => 0))) hx hb (hts (.arrayClass .int) (List.mem_of_getElem? (i := 4) rfl)) (ty := .int) rfl hK hP hD hS hA (na_int 4004) (by decide) (by decide +kernel) (show 4004 * 4 ≤ 536870912 by decide) (show 10 + 1 ≤ 14 by decide) (show 48020 + 4004 ≤ 64036 by decide) dX9_init_98 (fun q_41 cA_42 H hK hP hD hS => ?_)
  have hK : va_K (dC, dI) vwCl [(cI, .int), (cA_42, .int)] s := hK
  obtain rfl := kU_int hK 0 1 rfl rfl
  have hK := hK.sub (tys' := [(cI, .int)]) [0] rfl
  have hP : va_P (dC, dI) vwCl [(h0, .inr (9, fs_40)), (q_41, .inl (cI, 4004, .inl (fun _ => 0)))] H := hP
  have hD : va_D A [(h0, .inr (9, fs_40)), (q_41, .inl (cI, 4004, .inl (fun _ => 0)))] := hD
  refine W.widen (k := 11) (n := 52024) (by decide) (by decide) ?_
  refine va_putF (D := (dC, dI)) (ci := 9) (v := .ref q_41) (ty := (.array .int)) (C := RX9) (T := TX9) (N := 20) hx hb hts hin_X9 tyX9 tyX9_ok nmX9 hown hK hP hD hS 0 rfl rfl 13 (by decide) (hts (.fieldLink RX9 44 "NeedHouse$Tree" "itemRow" "[I") (List.mem_of_getElem? (i := 15) rfl)) (fun _ h9 => h9) rfl hin rfl (by decide +kernel) rfl rfl (by rw [hF_39.1]; decide) dX9_init_100 (fun H locs hP hD hS => ?_)
  have hP : va_P (dC, dI) vwCl [(h0, .inr (9, (fs_40.set 13 (.ref q_41)))), (q_41, .inl (cI, 4004, .inl (fun _ => 0)))] H := hP
  have hD : va_D A [(h0, .inr (9, (fs_40.set 13 (.ref q_41)))), (q_41, .inl (cI, 4004, .inl (fun _ => 0)))] := hD
  have hF_43 := hF_39.set 13 (.ref q_41) (l' := [(13, .ref q_41), (12, .ref q_37), (11, .ref q_33), (10, .ref q_29), (9, .ref q_25), (8, .ref q_21), (7, .ref q_17), (6, .ref q_13), (5, .ref q_9), (4, .ref q_5), (3, .ref q_1), (17, .int 0), (18, .int 0), (19, .int 0)]) (by decide) rfl
  generalize fs_40.set 13 (.ref q_41) = fs_44 at hP hD hF_43
  have hP : va_P (dC, dI) vwCl [(h0, .inr (9, fs_44)), (q_41, .inl (cI, 4004, .inl (fun _ => 0)))] H := hP
  have hD : va_D A [(h0, .inr (9, fs_44)), (q_41, .inl (cI, 4004, .inl (fun _ => 0)))] := hD
  have hP := hP.sub (ws' := [(h0, .inr (9, fs_44))]) [0] rfl
  have hD := hD.sub (ws' := [(h0, .inr (9, fs_44))]) [0] (by decide) rfl
  refine lv_aload_n hx hb dX9_init_103 rfl (lv_at hl 0 rfl) ?_
  refine lv_sipush (v := 4004) hx hb dX9_init_104 (by decide) ?_
  refine va_newa (atype := .int) (a0 := (4004, .inl (fun _ => 0))) hx hb (hts (.arrayClass .int) (List.mem_of_getElem? (i := 4) rfl)) (ty := .int) rfl hK hP hD hS hA (na_int 4004) (by decide) (by decide +kernel) (show 4004 * 4 ≤ 536870912 by decide) (show 11 + 1 ≤ 14 by decide) (show 52024 + 4004 ≤ 64036 by decide) dX9_init_107 (fun q_45 cA_46 H hK hP hD hS => ?_)
  have hK : va_K (dC, dI) vwCl [(cI, .int), (cA_46, .int)] s := hK
  obtain rfl := kU_int hK 0 1 rfl rfl
  have hK := hK.sub (tys' := [(cI, .int)]) [0] rfl
  have hP : va_P (dC, dI) vwCl [(h0, .inr (9, fs_44)), (q_45, .inl (cI, 4004, .inl (fun _ => 0)))] H := hP
  have hD : va_D A [(h0, .inr (9, fs_44)), (q_45, .inl (cI, 4004, .inl (fun _ => 0)))] := hD
  refine W.widen (k := 12) (n := 56028) (by decide) (by decide) ?_
  refine va_putF (D := (dC, dI)) (ci := 9) (v := .ref q_45) (ty := (.array .int)) (C := RX9) (T := TX9) (N := 20) hx hb hts hin_X9 tyX9 tyX9_ok nmX9 hown hK hP hD hS 0 rfl rfl 14 (by decide) (hts (.fieldLink RX9 47 "NeedHouse$Tree" "itemBody" "[I") (List.mem_of_getElem? (i := 16) rfl)) (fun _ h9 => h9) rfl hin rfl (by decide +kernel) rfl rfl (by rw [hF_43.1]; decide) dX9_init_109 (fun H locs hP hD hS => ?_)
  have hP : va_P (dC, dI) vwCl [(h0, .inr (9, (fs_44.set 14 (.ref q_45)))), (q_45, .inl (cI, 4004, .inl (fun _ => 0)))] H := hP
  have hD : va_D A [(h0, .inr (9, (fs_44.set 14 (.ref q_45)))), (q_45, .inl (cI, 4004, .inl (fun _ => 0)))] := hD
  have hF_47 := hF_43.set 14 (.ref q_45) (l' := [(14, .ref q_45), (13, .ref q_41), (12, .ref q_37), (11, .ref q_33), (10, .ref q_29), (9, .ref q_25), (8, .ref q_21), (7, .ref q_17), (6, .ref q_13), (5, .ref q_9), (4, .ref q_5), (3, .ref q_1), (17, .int 0), (18, .int 0), (19, .int 0)]) (by decide) rfl
  generalize fs_44.set 14 (.ref q_45) = fs_48 at hP hD hF_47
  have hP : va_P (dC, dI) vwCl [(h0, .inr (9, fs_48)), (q_45, .inl (cI, 4004, .inl (fun _ => 0)))] H := hP
  have hD : va_D A [(h0, .inr (9, fs_48)), (q_45, .inl (cI, 4004, .inl (fun _ => 0)))] := hD
  have hP := hP.sub (ws' := [(h0, .inr (9, fs_48))]) [0] rfl
  have hD := hD.sub (ws' := [(h0, .inr (9, fs_48))]) [0] (by decide) rfl
  refine lv_aload_n hx hb dX9_init_112 rfl (lv_at hl 0 rfl) ?_
  refine lv_sipush (v := 4004) hx hb dX9_init_113 (by decide) ?_
  refine va_newa (atype := .int) (a0 := (4004, .inl (fun _ => 0))) hx hb (hts (.arrayClass .int) (List.mem_of_getElem? (i := 4) rfl)) (ty := .int) rfl hK hP hD hS hA (na_int 4004) (by decide) (by decide +kernel) (show 4004 * 4 ≤ 536870912 by decide) (show 12 + 1 ≤ 14 by decide) (show 56028 + 4004 ≤ 64036 by decide) dX9_init_116 (fun q_49 cA_50 H hK hP hD hS => ?_)
  have hK : va_K (dC, dI) vwCl [(cI, .int), (cA_50, .int)] s := hK
  obtain rfl := kU_int hK 0 1 rfl rfl
  have hK := hK.sub (tys' := [(cI, .int)]) [0] rfl
  have hP : va_P (dC, dI) vwCl [(h0, .inr (9, fs_48)), (q_49, .inl (cI, 4004, .inl (fun _ => 0)))] H := hP
  have hD : va_D A [(h0, .inr (9, fs_48)), (q_49, .inl (cI, 4004, .inl (fun _ => 0)))] := hD
  refine W.widen (k := 13) (n := 60032) (by decide) (by decide) ?_
  refine va_putF (D := (dC, dI)) (ci := 9) (v := .ref q_49) (ty := (.array .int)) (C := RX9) (T := TX9) (N := 20) hx hb hts hin_X9 tyX9 tyX9_ok nmX9 hown hK hP hD hS 0 rfl rfl 15 (by decide) (hts (.fieldLink RX9 50 "NeedHouse$Tree" "itemNext" "[I") (List.mem_of_getElem? (i := 17) rfl)) (fun _ h9 => h9) rfl hin rfl (by decide +kernel) rfl rfl (by rw [hF_47.1]; decide) dX9_init_118 (fun H locs hP hD hS => ?_)
  have hP : va_P (dC, dI) vwCl [(h0, .inr (9, (fs_48.set 15 (.ref q_49)))), (q_49, .inl (cI, 4004, .inl (fun _ => 0)))] H := hP
  have hD : va_D A [(h0, .inr (9, (fs_48.set 15 (.ref q_49)))), (q_49, .inl (cI, 4004, .inl (fun _ => 0)))] := hD
  have hF_51 := hF_47.set 15 (.ref q_49) (l' := [(15, .ref q_49), (14, .ref q_45), (13, .ref q_41), (12, .ref q_37), (11, .ref q_33), (10, .ref q_29), (9, .ref q_25), (8, .ref q_21), (7, .ref q_17), (6, .ref q_13), (5, .ref q_9), (4, .ref q_5), (3, .ref q_1), (17, .int 0), (18, .int 0), (19, .int 0)]) (by decide) rfl
  generalize fs_48.set 15 (.ref q_49) = fs_52 at hP hD hF_51
  have hP : va_P (dC, dI) vwCl [(h0, .inr (9, fs_52)), (q_49, .inl (cI, 4004, .inl (fun _ => 0)))] H := hP
  have hD : va_D A [(h0, .inr (9, fs_52)), (q_49, .inl (cI, 4004, .inl (fun _ => 0)))] := hD
  have hP := hP.sub (ws' := [(h0, .inr (9, fs_52))]) [0] rfl
  have hD := hD.sub (ws' := [(h0, .inr (9, fs_52))]) [0] (by decide) rfl
  refine lv_aload_n hx hb dX9_init_121 rfl (lv_at hl 0 rfl) ?_
  refine lv_sipush (v := 4004) hx hb dX9_init_122 (by decide) ?_
  refine va_newa (atype := .int) (a0 := (4004, .inl (fun _ => 0))) hx hb (hts (.arrayClass .int) (List.mem_of_getElem? (i := 4) rfl)) (ty := .int) rfl hK hP hD hS hA (na_int 4004) (by decide) (by decide +kernel) (show 4004 * 4 ≤ 536870912 by decide) (show 13 + 1 ≤ 14 by decide) (show 60032 + 4004 ≤ 64036 by decide) dX9_init_125 (fun q_53 cA_54 H hK hP hD hS => ?_)
  have hK : va_K (dC, dI) vwCl [(cI, .int), (cA_54, .int)] s := hK
  obtain rfl := kU_int hK 0 1 rfl rfl
  have hK := hK.sub (tys' := [(cI, .int)]) [0] rfl
  have hP : va_P (dC, dI) vwCl [(h0, .inr (9, fs_52)), (q_53, .inl (cI, 4004, .inl (fun _ => 0)))] H := hP
  have hD : va_D A [(h0, .inr (9, fs_52)), (q_53, .inl (cI, 4004, .inl (fun _ => 0)))] := hD
  refine W.widen (k := 14) (n := 64036) (by decide) (by decide) ?_
  refine va_putF (D := (dC, dI)) (ci := 9) (v := .ref q_53) (ty := (.array .int)) (C := RX9) (T := TX9) (N := 20) hx hb hts hin_X9 tyX9 tyX9_ok nmX9 hown hK hP hD hS 0 rfl rfl 16 (by decide) (hts (.fieldLink RX9 53 "NeedHouse$Tree" "itemOwner" "[I") (List.mem_of_getElem? (i := 18) rfl)) (fun _ h9 => h9) rfl hin rfl (by decide +kernel) rfl rfl (by rw [hF_51.1]; decide) dX9_init_127 (fun H locs hP hD hS => ?_)
  have hP : va_P (dC, dI) vwCl [(h0, .inr (9, (fs_52.set 16 (.ref q_53)))), (q_53, .inl (cI, 4004, .inl (fun _ => 0)))] H := hP
  have hD : va_D A [(h0, .inr (9, (fs_52.set 16 (.ref q_53)))), (q_53, .inl (cI, 4004, .inl (fun _ => 0)))] := hD
  have hF_55 := hF_51.set 16 (.ref q_53) (l' := [(16, .ref q_53), (15, .ref q_49), (14, .ref q_45), (13, .ref q_41), (12, .ref q_37), (11, .ref q_33), (10, .ref q_29), (9, .ref q_25), (8, .ref q_21), (7, .ref q_17), (6, .ref q_13), (5, .ref q_9), (4, .ref q_5), (3, .ref q_1), (17, .int 0), (18, .int 0), (19, .int 0)]) (by decide) rfl
  generalize fs_52.set 16 (.ref q_53) = fs_56 at hP hD hF_55
  have hP : va_P (dC, dI) vwCl [(h0, .inr (9, fs_56)), (q_53, .inl (cI, 4004, .inl (fun _ => 0)))] H := hP
  have hD : va_D A [(h0, .inr (9, fs_56)), (q_53, .inl (cI, 4004, .inl (fun _ => 0)))] := hD
  have hP := hP.sub (ws' := [(h0, .inr (9, fs_56))]) [0] rfl
  have hD := hD.sub (ws' := [(h0, .inr (9, fs_56))]) [0] (by decide) rfl
  refine lv_aload_n hx hb dX9_init_130 rfl (lv_at hl 0 rfl) ?_
  refine lv_aload_n hx hb dX9_init_131 rfl (lv_at hl 1 rfl) ?_
  refine va_putF (D := (dC, dI)) (ci := 9) (v := .ref p0) (ty := (.object "NeedHouse$Lexemes")) (C := RX9) (T := TX9) (N := 20) hx hb hts hin_X9 tyX9 tyX9_ok nmX9 hown hK hP hD hS 0 rfl rfl 0 (by decide) (hts (.fieldLink RX9 56 "NeedHouse$Tree" "lexemes" "LNeedHouse$Lexemes;") (List.mem_of_getElem? (i := 19) rfl)) (fun _ h9 => h9) rfl hin rfl (by decide +kernel) rfl rfl (by rw [hF_55.1]; decide) dX9_init_132 (fun H locs hP hD hS => ?_)
  have hP : va_P (dC, dI) vwCl [(h0, .inr (9, (fs_56.set 0 (.ref p0))))] H := hP
  have hD : va_D A [(h0, .inr (9, (fs_56.set 0 (.ref p0))))] := hD
  have hF_57 := hF_55.set 0 (.ref p0) (l' := [(0, .ref p0), (16, .ref q_53), (15, .ref q_49), (14, .ref q_45), (13, .ref q_41), (12, .ref q_37), (11, .ref q_33), (10, .ref q_29), (9, .ref q_25), (8, .ref q_21), (7, .ref q_17), (6, .ref q_13), (5, .ref q_9), (4, .ref q_5), (3, .ref q_1), (17, .int 0), (18, .int 0), (19, .int 0)]) (by decide) rfl
  generalize fs_56.set 0 (.ref p0) = fs_58 at hP hD hF_57
  have hP : va_P (dC, dI) vwCl [(h0, .inr (9, fs_58))] H := hP
  have hD : va_D A [(h0, .inr (9, fs_58))] := hD
  refine lv_aload_n hx hb dX9_init_135 rfl (lv_at hl 0 rfl) ?_
  refine lv_aload_n hx hb dX9_init_136 rfl (lv_at hl 2 rfl) ?_
  refine va_putF (D := (dC, dI)) (ci := 9) (v := .ref p1) (ty := (.object "NeedHouse$Told")) (C := RX9) (T := TX9) (N := 20) hx hb hts hin_X9 tyX9 tyX9_ok nmX9 hown hK hP hD hS 0 rfl rfl 1 (by decide) (hts (.fieldLink RX9 60 "NeedHouse$Tree" "told" "LNeedHouse$Told;") (List.mem_of_getElem? (i := 20) rfl)) (fun _ h9 => h9) rfl hin rfl (by decide +kernel) rfl rfl (by rw [hF_57.1]; decide) dX9_init_137 (fun H locs hP hD hS => ?_)
  have hP : va_P (dC, dI) vwCl [(h0, .inr (9, (fs_58.set 1 (.ref p1))))] H := hP
  have hD : va_D A [(h0, .inr (9, (fs_58.set 1 (.ref p1))))] := hD
  have hF_59 := hF_57.set 1 (.ref p1) (l' := [(1, .ref p1), (0, .ref p0), (16, .ref q_53), (15, .ref q_49), (14, .ref q_45), (13, .ref q_41), (12, .ref q_37), (11, .ref q_33), (10, .ref q_29), (9, .ref q_25), (8, .ref q_21), (7, .ref q_17), (6, .ref q_13), (5, .ref q_9), (4, .ref q_5), (3, .ref q_1), (17, .int 0), (18, .int 0), (19, .int 0)]) (by decide) rfl
  generalize fs_58.set 1 (.ref p1) = fs_60 at hP hD hF_59
  have hP : va_P (dC, dI) vwCl [(h0, .inr (9, fs_60))] H := hP
  have hD : va_D A [(h0, .inr (9, fs_60))] := hD
  refine lv_aload_n hx hb dX9_init_140 rfl (lv_at hl 0 rfl) ?_
  refine lv_aload_n hx hb dX9_init_141 rfl (lv_at hl 3 rfl) ?_
  refine va_putF (D := (dC, dI)) (ci := 9) (v := .ref p2) (ty := (.object "NeedHouse$Datas")) (C := RX9) (T := TX9) (N := 20) hx hb hts hin_X9 tyX9 tyX9_ok nmX9 hown hK hP hD hS 0 rfl rfl 2 (by decide) (hts (.fieldLink RX9 64 "NeedHouse$Tree" "datas" "LNeedHouse$Datas;") (List.mem_of_getElem? (i := 21) rfl)) (fun _ h9 => h9) rfl hin rfl (by decide +kernel) rfl rfl (by rw [hF_59.1]; decide) dX9_init_142 (fun H locs hP hD hS => ?_)
  have hP : va_P (dC, dI) vwCl [(h0, .inr (9, (fs_60.set 2 (.ref p2))))] H := hP
  have hD : va_D A [(h0, .inr (9, (fs_60.set 2 (.ref p2))))] := hD
  have hF_61 := hF_59.set 2 (.ref p2) (l' := [(2, .ref p2), (1, .ref p1), (0, .ref p0), (16, .ref q_53), (15, .ref q_49), (14, .ref q_45), (13, .ref q_41), (12, .ref q_37), (11, .ref q_33), (10, .ref q_29), (9, .ref q_25), (8, .ref q_21), (7, .ref q_17), (6, .ref q_13), (5, .ref q_9), (4, .ref q_5), (3, .ref q_1), (17, .int 0), (18, .int 0), (19, .int 0)]) (by decide) rfl
  generalize fs_60.set 2 (.ref p2) = fs_62 at hP hD hF_61
  have hP : va_P (dC, dI) vwCl [(h0, .inr (9, fs_62))] H := hP
  have hD : va_D A [(h0, .inr (9, fs_62))] := hD
  have hP9 := hP.sub (ws' := [(h0, .inr (9, fs_62))]) [0] rfl
  have hD9 := hD.sub (ws' := [(h0, .inr (9, fs_62))]) [0] (by decide) rfl
  have hK9 := hK.sub (tys' := [(cI, .int)]) [0] rfl
  exact W.vret hx hb hr (fun t ht hW => ⟨⟨(fs_62), rfl, hF_61.sub [2, 1, 0, 17, 18, 19] rfl, by rw [ht]; exact hP9, va_K.moved hW.alike hK9, hD9⟩, hS.F ht⟩) hS.2.2 dX9_init_145
def pw_c_X1_init : List Cond := .code yX1_init cX1_init 2 none :: ([.code objectInit ⟨#[0xb1]⟩ 1 none, .methodLink RX1 5 objectInit, .instanceMethod objectInit, .arrayClass .int, .fieldLink RX1 13 "NeedHouse$Layout" "stack" "[I", .fieldLink RX1 17 "NeedHouse$Layout" "lexemes" "LNeedHouse$Lexemes;"] ++ (wsX10 ++ []))
set_option maxHeartbeats 4000000 in
set_option maxRecDepth 100000 in
theorem c_X1_init (l : Launch) (dC : Nat → ClassId) (dI : Nat → Nat → Nat) (sz : Nat) (h0 : Nat) (fs : List Value) (cI : ClassId) (p0 : Nat) (hF : hasF fs 9 [(2, .int 0), (3, .int 0), (4, .int 0), (5, .int 0), (6, .int 0), (7, .int 0), (8, .int 0)]) : Met l yX1_init pw_c_X1_init ({ frames := 1, cells := 1, slots := 8008, locals := 12 }) (va_Pc [.ref h0, .ref p0] (fun U => U.heap.size = sz ∧ va_P (dC, dI) vwCl [(h0, .inr (1, fs))] U.heap ∧ va_K (dC, dI) vwCl [(cI, .int)] U ∧ va_D (fun _ => True) [(h0, .inr (1, fs))])) (va_Qv (fun (u : (List Value) × (Nat)) => hasF u.1 9 [(0, .ref p0), (1, .ref u.2), (2, .int 0), (3, .int 0), (4, .int 0), (5, .int 0), (6, .int 0), (7, .int 0), (8, .int 0)]) (fun (u : (List Value) × (Nat)) (t : State) => va_P (dC, dI) vwCl [(h0, .inr (1, u.1)), (u.2, .inl (cI, 8008, .inl (fun _ => 0)))] t.heap ∧ va_K (dC, dI) vwCl [(cI, .int)] t ∧ va_D (va_A [(h0, .inr (1, fs))] sz) [(h0, .inr (1, u.1)), (u.2, .inl (cI, 8008, .inl (fun _ => 0)))]) (va_A [(h0, .inr (1, fs))] sz)) 1 8008 (va_A [(h0, .inr (1, fs))] sz) := by
  refine Met.ofW (cc := cX1_init) (maxL := 2) (ret := none) (by decide) rfl ?_
  intro p e s m args below meth c s₁ B hml hv
  obtain ⟨rfl, hsz, hP, hK, hD0⟩ := hv
  have hx := B.exec
  have hb := B.bytes
  have hr := B.returns
  have hts := atoms_spec (ws := pw_c_X1_init) B.pre
  have hown : s.vm.findClass RX1 = some m.cls := findClass_of_methodNamed B.named
  have hlocks := B.notSynchronized
  have hin : meth.name = "<init>" := (name_of_methodNamed B.named B.method).1
  have hin_X1 : ∀ w ∈ u_ws RX1 TX1 9, w ∈ pw_c_X1_init := fun w h => List.mem_cons_of_mem _ (List.mem_append_right _ (List.mem_append_left _ h))
  subst hsz
  have hD := hD0.self (sz := s.heap.size)
  generalize hAe : va_A [(h0, .inr (1, fs))] s.heap.size = A at hD ⊢
  have hA : ∀ q : Nat, s.heap.size ≤ q → A q := fun q h => by rw [← hAe]; exact Or.inr h
  have hS : va_S A s.heap s.heap [] := va_S.rf
  have hP : va_P (dC, dI) vwCl [(h0, .inr (1, fs))] s.heap := hP
  have hl := lv_entry ([.ref h0, .ref p0]) (n := 2) (Nat.le_of_ble_eq_true rfl)
  rw [lg_entry_eq]
  generalize (lg_sl ([.ref h0, .ref p0]) ++ List.replicate (2 - (lg_sl ([.ref h0, .ref p0])).length) Slot.unset).toArray = ls at hl ⊢
  have hl : lv_has ls 2 [(0, .ref h0), (1, .ref p0)] := hl
  refine lv_aload_n hx hb dX1_init_0 rfl (lv_at hl 0 rfl) ?_
  refine W.objInit hx hb hown (hts (.methodLink RX1 5 objectInit) (List.mem_of_getElem? (i := 2) rfl)) (hts (.instanceMethod objectInit) (List.mem_of_getElem? (i := 3) rfl)) (hts _ (List.mem_of_getElem? (i := 1) rfl)) rfl (by rw [hml]; exact hl.1) rfl dX1_init_1 (Nat.le_of_ble_eq_true rfl) (Nat.le_of_ble_eq_true rfl) ?_
  refine W.eq (g2 := F0 m 4 ls []) rfl ?_
  refine lv_aload_n hx hb dX1_init_4 rfl (lv_at hl 0 rfl) ?_
  refine lv_sipush (v := 8008) hx hb dX1_init_5 (by decide) ?_
  refine va_newa (atype := .int) (a0 := (8008, .inl (fun _ => 0))) hx hb (hts (.arrayClass .int) (List.mem_of_getElem? (i := 4) rfl)) (ty := .int) rfl hK hP hD hS hA (na_int 8008) (by decide) (by decide +kernel) (show 8008 * 4 ≤ 536870912 by decide) (show 0 + 1 ≤ 1 by decide) (show 0 + 8008 ≤ 8008 by decide) dX1_init_8 (fun q_1 cA_2 H hK hP hD hS => ?_)
  have hK : va_K (dC, dI) vwCl [(cI, .int), (cA_2, .int)] s := hK
  obtain rfl := kU_int hK 0 1 rfl rfl
  have hK := hK.sub (tys' := [(cI, .int)]) [0] rfl
  have hP : va_P (dC, dI) vwCl [(h0, .inr (1, fs)), (q_1, .inl (cI, 8008, .inl (fun _ => 0)))] H := hP
  have hD : va_D A [(h0, .inr (1, fs)), (q_1, .inl (cI, 8008, .inl (fun _ => 0)))] := hD
  refine W.widen (k := 1) (n := 8008) (by decide) (by decide) ?_
  refine va_putF (D := (dC, dI)) (ci := 1) (v := .ref q_1) (ty := (.array .int)) (C := RX1) (T := TX1) (N := 9) hx hb hts hin_X1 tyX1 tyX1_ok nmX1 hown hK hP hD hS 0 rfl rfl 1 (by decide) (hts (.fieldLink RX1 13 "NeedHouse$Layout" "stack" "[I") (List.mem_of_getElem? (i := 5) rfl)) (fun _ h9 => h9) rfl hin rfl (by decide +kernel) rfl rfl (by rw [hF.1]; decide) dX1_init_10 (fun H locs hP hD hS => ?_)
  have hP : va_P (dC, dI) vwCl [(h0, .inr (1, (fs.set 1 (.ref q_1)))), (q_1, .inl (cI, 8008, .inl (fun _ => 0)))] H := hP
  have hD : va_D A [(h0, .inr (1, (fs.set 1 (.ref q_1)))), (q_1, .inl (cI, 8008, .inl (fun _ => 0)))] := hD
  have hF_3 := hF.set 1 (.ref q_1) (l' := [(1, .ref q_1), (2, .int 0), (3, .int 0), (4, .int 0), (5, .int 0), (6, .int 0), (7, .int 0), (8, .int 0)]) (by decide) rfl
  generalize fs.set 1 (.ref q_1) = fs_4 at hP hD hF_3
  have hP : va_P (dC, dI) vwCl [(h0, .inr (1, fs_4)), (q_1, .inl (cI, 8008, .inl (fun _ => 0)))] H := hP
  have hD : va_D A [(h0, .inr (1, fs_4)), (q_1, .inl (cI, 8008, .inl (fun _ => 0)))] := hD
  refine lv_aload_n hx hb dX1_init_13 rfl (lv_at hl 0 rfl) ?_
  refine lv_aload_n hx hb dX1_init_14 rfl (lv_at hl 1 rfl) ?_
  refine va_putF (D := (dC, dI)) (ci := 1) (v := .ref p0) (ty := (.object "NeedHouse$Lexemes")) (C := RX1) (T := TX1) (N := 9) hx hb hts hin_X1 tyX1 tyX1_ok nmX1 hown hK hP hD hS 0 rfl rfl 0 (by decide) (hts (.fieldLink RX1 17 "NeedHouse$Layout" "lexemes" "LNeedHouse$Lexemes;") (List.mem_of_getElem? (i := 6) rfl)) (fun _ h9 => h9) rfl hin rfl (by decide +kernel) rfl rfl (by rw [hF_3.1]; decide) dX1_init_15 (fun H locs hP hD hS => ?_)
  have hP : va_P (dC, dI) vwCl [(h0, .inr (1, (fs_4.set 0 (.ref p0)))), (q_1, .inl (cI, 8008, .inl (fun _ => 0)))] H := hP
  have hD : va_D A [(h0, .inr (1, (fs_4.set 0 (.ref p0)))), (q_1, .inl (cI, 8008, .inl (fun _ => 0)))] := hD
  have hF_5 := hF_3.set 0 (.ref p0) (l' := [(0, .ref p0), (1, .ref q_1), (2, .int 0), (3, .int 0), (4, .int 0), (5, .int 0), (6, .int 0), (7, .int 0), (8, .int 0)]) (by decide) rfl
  generalize fs_4.set 0 (.ref p0) = fs_6 at hP hD hF_5
  have hP : va_P (dC, dI) vwCl [(h0, .inr (1, fs_6)), (q_1, .inl (cI, 8008, .inl (fun _ => 0)))] H := hP
  have hD : va_D A [(h0, .inr (1, fs_6)), (q_1, .inl (cI, 8008, .inl (fun _ => 0)))] := hD
  have hP9 := hP.sub (ws' := [(h0, .inr (1, fs_6)), (q_1, .inl (cI, 8008, .inl (fun _ => 0)))]) [0, 1] rfl
  have hD9 := hD.sub (ws' := [(h0, .inr (1, fs_6)), (q_1, .inl (cI, 8008, .inl (fun _ => 0)))]) [0, 1] (by decide) rfl
  have hK9 := hK.sub (tys' := [(cI, .int)]) [0] rfl
  exact W.vret hx hb hr (fun t ht hW => ⟨⟨((fs_6, q_1)), rfl, hF_5.sub [0, 1, 2, 3, 4, 5, 6, 7, 8] rfl, by rw [ht]; exact hP9, va_K.moved hW.alike hK9, hD9⟩, hS.F ht⟩) hS.2.2 dX1_init_18
def pw_c_X11_init : List Cond := .code yX11_init cX11_init 2 none :: ([.code objectInit ⟨#[0xb1]⟩ 1 none, .methodLink RX11 9 objectInit, .instanceMethod objectInit, .arrayClass .byte, .fieldLink RX11 15 "NeedHouse$Types" "kind" "[B", .arrayClass .int, .fieldLink RX11 19 "NeedHouse$Types" "info" "[I", .fieldLink RX11 23 "NeedHouse$Types" "stamp" "[I", .fieldLink RX11 26 "NeedHouse$Types" "parts" "[I", .fieldLink RX11 29 "NeedHouse$Types" "pairs" "[I", .fieldLink RX11 32 "NeedHouse$Types" "walk" "[I", .fieldLink RX11 35 "NeedHouse$Types" "codes" "[I", .fieldLink RX11 38 "NeedHouse$Types" "codeSize" "[I", .fieldLink RX11 41 "NeedHouse$Types" "free" "[I", .fieldLink RX11 44 "NeedHouse$Types" "around" "[I", .fieldLink RX11 47 "NeedHouse$Types" "datas" "LNeedHouse$Datas;"] ++ (wsX110 ++ []))
set_option maxHeartbeats 4000000 in
set_option maxRecDepth 100000 in
theorem c_X11_init (l : Launch) (dC : Nat → ClassId) (dI : Nat → Nat → Nat) (sz : Nat) (h0 : Nat) (fs : List Value) (cI : ClassId) (cB : ClassId) (p0 : Nat) (hF : hasF fs 18 [(11, .int 0), (12, .int 0), (13, .int 0), (14, .int 0), (15, .int 0), (16, .int 0), (17, .int 0)]) : Met l yX11_init pw_c_X11_init ({ frames := 1, cells := 10, slots := 42590, locals := 12 }) (va_Pc [.ref h0, .ref p0] (fun U => U.heap.size = sz ∧ va_P (dC, dI) vwCl [(h0, .inr (11, fs))] U.heap ∧ va_K (dC, dI) vwCl [(cI, .int), (cB, .byte)] U ∧ va_D (fun _ => True) [(h0, .inr (11, fs))])) (va_Qv (fun (u : (List Value)) => hasF u 18 [(0, .ref p0), (11, .int 0), (12, .int 0), (13, .int 0), (14, .int 0), (15, .int 0), (16, .int 0), (17, .int 0)]) (fun (u : (List Value)) (t : State) => va_P (dC, dI) vwCl [(h0, .inr (11, u))] t.heap ∧ va_K (dC, dI) vwCl [(cI, .int), (cB, .byte)] t ∧ va_D (va_A [(h0, .inr (11, fs))] sz) [(h0, .inr (11, u))]) (va_A [(h0, .inr (11, fs))] sz)) 10 42590 (va_A [(h0, .inr (11, fs))] sz) := by
  refine Met.ofW (cc := cX11_init) (maxL := 2) (ret := none) (by decide) rfl ?_
  intro p e s m args below meth c s₁ B hml hv
  obtain ⟨rfl, hsz, hP, hK, hD0⟩ := hv
  have hx := B.exec
  have hb := B.bytes
  have hr := B.returns
  have hts := atoms_spec (ws := pw_c_X11_init) B.pre
  have hown : s.vm.findClass RX11 = some m.cls := findClass_of_methodNamed B.named
  have hlocks := B.notSynchronized
  have hin : meth.name = "<init>" := (name_of_methodNamed B.named B.method).1
  have hin_X11 : ∀ w ∈ u_ws RX11 TX11 18, w ∈ pw_c_X11_init := fun w h => List.mem_cons_of_mem _ (List.mem_append_right _ (List.mem_append_left _ h))
  subst hsz
  have hD := hD0.self (sz := s.heap.size)
  generalize hAe : va_A [(h0, .inr (11, fs))] s.heap.size = A at hD ⊢
  have hA : ∀ q : Nat, s.heap.size ≤ q → A q := fun q h => by rw [← hAe]; exact Or.inr h
  have hS : va_S A s.heap s.heap [] := va_S.rf
  have hP : va_P (dC, dI) vwCl [(h0, .inr (11, fs))] s.heap := hP
  have hl := lv_entry ([.ref h0, .ref p0]) (n := 2) (Nat.le_of_ble_eq_true rfl)
  rw [lg_entry_eq]
  generalize (lg_sl ([.ref h0, .ref p0]) ++ List.replicate (2 - (lg_sl ([.ref h0, .ref p0])).length) Slot.unset).toArray = ls at hl ⊢
  have hl : lv_has ls 2 [(0, .ref h0), (1, .ref p0)] := hl
  refine lv_aload_n hx hb dX11_init_0 rfl (lv_at hl 0 rfl) ?_
  refine W.objInit hx hb hown (hts (.methodLink RX11 9 objectInit) (List.mem_of_getElem? (i := 2) rfl)) (hts (.instanceMethod objectInit) (List.mem_of_getElem? (i := 3) rfl)) (hts _ (List.mem_of_getElem? (i := 1) rfl)) rfl (by rw [hml]; exact hl.1) rfl dX11_init_1 (Nat.le_of_ble_eq_true rfl) (Nat.le_of_ble_eq_true rfl) ?_
  refine W.eq (g2 := F0 m 4 ls []) rfl ?_
  refine lv_aload_n hx hb dX11_init_4 rfl (lv_at hl 0 rfl) ?_
  refine lv_sipush (v := 4096) hx hb dX11_init_5 (by decide) ?_
  refine va_newa (atype := .byte) (a0 := (4096, .inl (fun _ => 0))) hx hb (hts (.arrayClass .byte) (List.mem_of_getElem? (i := 4) rfl)) (ty := .byte) rfl hK hP hD hS hA (na_byte 4096) (by decide) (by decide +kernel) (show 4096 * 1 ≤ 536870912 by decide) (show 0 + 1 ≤ 10 by decide) (show 0 + 4096 ≤ 42590 by decide) dX11_init_8 (fun q_1 cA_2 H hK hP hD hS => ?_)
  have hK : va_K (dC, dI) vwCl [(cI, .int), (cB, .byte), (cA_2, .byte)] s := hK
  obtain rfl := kU_byte hK 1 2 rfl rfl
  have hK := hK.sub (tys' := [(cI, .int), (cB, .byte)]) [0, 1] rfl
  have hP : va_P (dC, dI) vwCl [(h0, .inr (11, fs)), (q_1, .inl (cB, 4096, .inl (fun _ => 0)))] H := hP
  have hD : va_D A [(h0, .inr (11, fs)), (q_1, .inl (cB, 4096, .inl (fun _ => 0)))] := hD
  refine W.widen (k := 1) (n := 4096) (by decide) (by decide) ?_
  refine va_put (D := (dC, dI)) (ci := 11) (v := .ref q_1) (ty := (.array .byte)) (C := RX11) (T := TX11) (N := 18) hx hb hts hin_X11 tyX11 tyX11_ok nmX11 hown hK hP hD hS 0 rfl rfl 1 (by decide) (hts (.fieldLink RX11 15 "NeedHouse$Types" "kind" "[B") (List.mem_of_getElem? (i := 5) rfl)) (fun _ h9 => h9) rfl (by decide +kernel) rfl rfl (by rw [hF.1]; decide) dX11_init_10 (fun H locs hP hD hS => ?_)
  have hP : va_P (dC, dI) vwCl [(h0, .inr (11, (fs.set 1 (.ref q_1)))), (q_1, .inl (cB, 4096, .inl (fun _ => 0)))] H := hP
  have hD : va_D A [(h0, .inr (11, (fs.set 1 (.ref q_1)))), (q_1, .inl (cB, 4096, .inl (fun _ => 0)))] := hD
  have hF_3 := hF.set 1 (.ref q_1) (l' := [(1, .ref q_1), (11, .int 0), (12, .int 0), (13, .int 0), (14, .int 0), (15, .int 0), (16, .int 0), (17, .int 0)]) (by decide) rfl
  generalize fs.set 1 (.ref q_1) = fs_4 at hP hD hF_3
  have hP : va_P (dC, dI) vwCl [(h0, .inr (11, fs_4)), (q_1, .inl (cB, 4096, .inl (fun _ => 0)))] H := hP
  have hD : va_D A [(h0, .inr (11, fs_4)), (q_1, .inl (cB, 4096, .inl (fun _ => 0)))] := hD
  have hP := hP.sub (ws' := [(h0, .inr (11, fs_4))]) [0] rfl
  have hD := hD.sub (ws' := [(h0, .inr (11, fs_4))]) [0] (by decide) rfl
  refine lv_aload_n hx hb dX11_init_13 rfl (lv_at hl 0 rfl) ?_
  refine lv_sipush (v := 4096) hx hb dX11_init_14 (by decide) ?_
  refine va_newa (atype := .int) (a0 := (4096, .inl (fun _ => 0))) hx hb (hts (.arrayClass .int) (List.mem_of_getElem? (i := 6) rfl)) (ty := .int) rfl hK hP hD hS hA (na_int 4096) (by decide) (by decide +kernel) (show 4096 * 4 ≤ 536870912 by decide) (show 1 + 1 ≤ 10 by decide) (show 4096 + 4096 ≤ 42590 by decide) dX11_init_17 (fun q_5 cA_6 H hK hP hD hS => ?_)
  have hK : va_K (dC, dI) vwCl [(cI, .int), (cB, .byte), (cA_6, .int)] s := hK
  obtain rfl := kU_int hK 0 2 rfl rfl
  have hK := hK.sub (tys' := [(cI, .int), (cB, .byte)]) [0, 1] rfl
  have hP : va_P (dC, dI) vwCl [(h0, .inr (11, fs_4)), (q_5, .inl (cI, 4096, .inl (fun _ => 0)))] H := hP
  have hD : va_D A [(h0, .inr (11, fs_4)), (q_5, .inl (cI, 4096, .inl (fun _ => 0)))] := hD
  refine W.widen (k := 2) (n := 8192) (by decide) (by decide) ?_
  refine va_put (D := (dC, dI)) (ci := 11) (v := .ref q_5) (ty := (.array .int)) (C := RX11) (T := TX11) (N := 18) hx hb hts hin_X11 tyX11 tyX11_ok nmX11 hown hK hP hD hS 0 rfl rfl 2 (by decide) (hts (.fieldLink RX11 19 "NeedHouse$Types" "info" "[I") (List.mem_of_getElem? (i := 7) rfl)) (fun _ h9 => h9) rfl (by decide +kernel) rfl rfl (by rw [hF_3.1]; decide) dX11_init_19 (fun H locs hP hD hS => ?_)
  have hP : va_P (dC, dI) vwCl [(h0, .inr (11, (fs_4.set 2 (.ref q_5)))), (q_5, .inl (cI, 4096, .inl (fun _ => 0)))] H := hP
  have hD : va_D A [(h0, .inr (11, (fs_4.set 2 (.ref q_5)))), (q_5, .inl (cI, 4096, .inl (fun _ => 0)))] := hD
  have hF_7 := hF_3.set 2 (.ref q_5) (l' := [(2, .ref q_5), (1, .ref q_1), (11, .int 0), (12, .int 0), (13, .int 0), (14, .int 0), (15, .int 0), (16, .int 0), (17, .int 0)]) (by decide) rfl
  generalize fs_4.set 2 (.ref q_5) = fs_8 at hP hD hF_7
  have hP : va_P (dC, dI) vwCl [(h0, .inr (11, fs_8)), (q_5, .inl (cI, 4096, .inl (fun _ => 0)))] H := hP
  have hD : va_D A [(h0, .inr (11, fs_8)), (q_5, .inl (cI, 4096, .inl (fun _ => 0)))] := hD
  have hP := hP.sub (ws' := [(h0, .inr (11, fs_8))]) [0] rfl
  have hD := hD.sub (ws' := [(h0, .inr (11, fs_8))]) [0] (by decide) rfl
  refine lv_aload_n hx hb dX11_init_22 rfl (lv_at hl 0 rfl) ?_
  refine lv_sipush (v := 4096) hx hb dX11_init_23 (by decide) ?_
  refine va_newa (atype := .int) (a0 := (4096, .inl (fun _ => 0))) hx hb (hts (.arrayClass .int) (List.mem_of_getElem? (i := 6) rfl)) (ty := .int) rfl hK hP hD hS hA (na_int 4096) (by decide) (by decide +kernel) (show 4096 * 4 ≤ 536870912 by decide) (show 2 + 1 ≤ 10 by decide) (show 8192 + 4096 ≤ 42590 by decide) dX11_init_26 (fun q_9 cA_10 H hK hP hD hS => ?_)
  have hK : va_K (dC, dI) vwCl [(cI, .int), (cB, .byte), (cA_10, .int)] s := hK
  obtain rfl := kU_int hK 0 2 rfl rfl
  have hK := hK.sub (tys' := [(cI, .int), (cB, .byte)]) [0, 1] rfl
  have hP : va_P (dC, dI) vwCl [(h0, .inr (11, fs_8)), (q_9, .inl (cI, 4096, .inl (fun _ => 0)))] H := hP
  have hD : va_D A [(h0, .inr (11, fs_8)), (q_9, .inl (cI, 4096, .inl (fun _ => 0)))] := hD
  refine W.widen (k := 3) (n := 12288) (by decide) (by decide) ?_
  refine va_put (D := (dC, dI)) (ci := 11) (v := .ref q_9) (ty := (.array .int)) (C := RX11) (T := TX11) (N := 18) hx hb hts hin_X11 tyX11 tyX11_ok nmX11 hown hK hP hD hS 0 rfl rfl 3 (by decide) (hts (.fieldLink RX11 23 "NeedHouse$Types" "stamp" "[I") (List.mem_of_getElem? (i := 8) rfl)) (fun _ h9 => h9) rfl (by decide +kernel) rfl rfl (by rw [hF_7.1]; decide) dX11_init_28 (fun H locs hP hD hS => ?_)
  have hP : va_P (dC, dI) vwCl [(h0, .inr (11, (fs_8.set 3 (.ref q_9)))), (q_9, .inl (cI, 4096, .inl (fun _ => 0)))] H := hP
  have hD : va_D A [(h0, .inr (11, (fs_8.set 3 (.ref q_9)))), (q_9, .inl (cI, 4096, .inl (fun _ => 0)))] := hD
  have hF_11 := hF_7.set 3 (.ref q_9) (l' := [(3, .ref q_9), (2, .ref q_5), (1, .ref q_1), (11, .int 0), (12, .int 0), (13, .int 0), (14, .int 0), (15, .int 0), (16, .int 0), (17, .int 0)]) (by decide) rfl
  generalize fs_8.set 3 (.ref q_9) = fs_12 at hP hD hF_11
  have hP : va_P (dC, dI) vwCl [(h0, .inr (11, fs_12)), (q_9, .inl (cI, 4096, .inl (fun _ => 0)))] H := hP
  have hD : va_D A [(h0, .inr (11, fs_12)), (q_9, .inl (cI, 4096, .inl (fun _ => 0)))] := hD
  have hP := hP.sub (ws' := [(h0, .inr (11, fs_12))]) [0] rfl
  have hD := hD.sub (ws' := [(h0, .inr (11, fs_12))]) [0] (by decide) rfl
  refine lv_aload_n hx hb dX11_init_31 rfl (lv_at hl 0 rfl) ?_
  refine lv_sipush (v := 4096) hx hb dX11_init_32 (by decide) ?_
  refine va_newa (atype := .int) (a0 := (4096, .inl (fun _ => 0))) hx hb (hts (.arrayClass .int) (List.mem_of_getElem? (i := 6) rfl)) (ty := .int) rfl hK hP hD hS hA (na_int 4096) (by decide) (by decide +kernel) (show 4096 * 4 ≤ 536870912 by decide) (show 3 + 1 ≤ 10 by decide) (show 12288 + 4096 ≤ 42590 by decide) dX11_init_35 (fun q_13 cA_14 H hK hP hD hS => ?_)
  have hK : va_K (dC, dI) vwCl [(cI, .int), (cB, .byte), (cA_14, .int)] s := hK
  obtain rfl := kU_int hK 0 2 rfl rfl
  have hK := hK.sub (tys' := [(cI, .int), (cB, .byte)]) [0, 1] rfl
  have hP : va_P (dC, dI) vwCl [(h0, .inr (11, fs_12)), (q_13, .inl (cI, 4096, .inl (fun _ => 0)))] H := hP
  have hD : va_D A [(h0, .inr (11, fs_12)), (q_13, .inl (cI, 4096, .inl (fun _ => 0)))] := hD
  refine W.widen (k := 4) (n := 16384) (by decide) (by decide) ?_
  refine va_put (D := (dC, dI)) (ci := 11) (v := .ref q_13) (ty := (.array .int)) (C := RX11) (T := TX11) (N := 18) hx hb hts hin_X11 tyX11 tyX11_ok nmX11 hown hK hP hD hS 0 rfl rfl 4 (by decide) (hts (.fieldLink RX11 26 "NeedHouse$Types" "parts" "[I") (List.mem_of_getElem? (i := 9) rfl)) (fun _ h9 => h9) rfl (by decide +kernel) rfl rfl (by rw [hF_11.1]; decide) dX11_init_37 (fun H locs hP hD hS => ?_)
  have hP : va_P (dC, dI) vwCl [(h0, .inr (11, (fs_12.set 4 (.ref q_13)))), (q_13, .inl (cI, 4096, .inl (fun _ => 0)))] H := hP
  have hD : va_D A [(h0, .inr (11, (fs_12.set 4 (.ref q_13)))), (q_13, .inl (cI, 4096, .inl (fun _ => 0)))] := hD
  have hF_15 := hF_11.set 4 (.ref q_13) (l' := [(4, .ref q_13), (3, .ref q_9), (2, .ref q_5), (1, .ref q_1), (11, .int 0), (12, .int 0), (13, .int 0), (14, .int 0), (15, .int 0), (16, .int 0), (17, .int 0)]) (by decide) rfl
  generalize fs_12.set 4 (.ref q_13) = fs_16 at hP hD hF_15
  have hP : va_P (dC, dI) vwCl [(h0, .inr (11, fs_16)), (q_13, .inl (cI, 4096, .inl (fun _ => 0)))] H := hP
  have hD : va_D A [(h0, .inr (11, fs_16)), (q_13, .inl (cI, 4096, .inl (fun _ => 0)))] := hD
  have hP := hP.sub (ws' := [(h0, .inr (11, fs_16))]) [0] rfl
  have hD := hD.sub (ws' := [(h0, .inr (11, fs_16))]) [0] (by decide) rfl
  refine lv_aload_n hx hb dX11_init_40 rfl (lv_at hl 0 rfl) ?_
  refine lv_sipush (v := 1024) hx hb dX11_init_41 (by decide) ?_
  refine va_newa (atype := .int) (a0 := (1024, .inl (fun _ => 0))) hx hb (hts (.arrayClass .int) (List.mem_of_getElem? (i := 6) rfl)) (ty := .int) rfl hK hP hD hS hA (na_int 1024) (by decide) (by decide +kernel) (show 1024 * 4 ≤ 536870912 by decide) (show 4 + 1 ≤ 10 by decide) (show 16384 + 1024 ≤ 42590 by decide) dX11_init_44 (fun q_17 cA_18 H hK hP hD hS => ?_)
  have hK : va_K (dC, dI) vwCl [(cI, .int), (cB, .byte), (cA_18, .int)] s := hK
  obtain rfl := kU_int hK 0 2 rfl rfl
  have hK := hK.sub (tys' := [(cI, .int), (cB, .byte)]) [0, 1] rfl
  have hP : va_P (dC, dI) vwCl [(h0, .inr (11, fs_16)), (q_17, .inl (cI, 1024, .inl (fun _ => 0)))] H := hP
  have hD : va_D A [(h0, .inr (11, fs_16)), (q_17, .inl (cI, 1024, .inl (fun _ => 0)))] := hD
  refine W.widen (k := 5) (n := 17408) (by decide) (by decide) ?_
  refine va_put (D := (dC, dI)) (ci := 11) (v := .ref q_17) (ty := (.array .int)) (C := RX11) (T := TX11) (N := 18) hx hb hts hin_X11 tyX11 tyX11_ok nmX11 hown hK hP hD hS 0 rfl rfl 5 (by decide) (hts (.fieldLink RX11 29 "NeedHouse$Types" "pairs" "[I") (List.mem_of_getElem? (i := 10) rfl)) (fun _ h9 => h9) rfl (by decide +kernel) rfl rfl (by rw [hF_15.1]; decide) dX11_init_46 (fun H locs hP hD hS => ?_)
  have hP : va_P (dC, dI) vwCl [(h0, .inr (11, (fs_16.set 5 (.ref q_17)))), (q_17, .inl (cI, 1024, .inl (fun _ => 0)))] H := hP
  have hD : va_D A [(h0, .inr (11, (fs_16.set 5 (.ref q_17)))), (q_17, .inl (cI, 1024, .inl (fun _ => 0)))] := hD
  have hF_19 := hF_15.set 5 (.ref q_17) (l' := [(5, .ref q_17), (4, .ref q_13), (3, .ref q_9), (2, .ref q_5), (1, .ref q_1), (11, .int 0), (12, .int 0), (13, .int 0), (14, .int 0), (15, .int 0), (16, .int 0), (17, .int 0)]) (by decide) rfl
  generalize fs_16.set 5 (.ref q_17) = fs_20 at hP hD hF_19
  have hP : va_P (dC, dI) vwCl [(h0, .inr (11, fs_20)), (q_17, .inl (cI, 1024, .inl (fun _ => 0)))] H := hP
  have hD : va_D A [(h0, .inr (11, fs_20)), (q_17, .inl (cI, 1024, .inl (fun _ => 0)))] := hD
  have hP := hP.sub (ws' := [(h0, .inr (11, fs_20))]) [0] rfl
  have hD := hD.sub (ws' := [(h0, .inr (11, fs_20))]) [0] (by decide) rfl
  refine lv_aload_n hx hb dX11_init_49 rfl (lv_at hl 0 rfl) ?_
  refine lv_sipush (v := 1024) hx hb dX11_init_50 (by decide) ?_
  refine va_newa (atype := .int) (a0 := (1024, .inl (fun _ => 0))) hx hb (hts (.arrayClass .int) (List.mem_of_getElem? (i := 6) rfl)) (ty := .int) rfl hK hP hD hS hA (na_int 1024) (by decide) (by decide +kernel) (show 1024 * 4 ≤ 536870912 by decide) (show 5 + 1 ≤ 10 by decide) (show 17408 + 1024 ≤ 42590 by decide) dX11_init_53 (fun q_21 cA_22 H hK hP hD hS => ?_)
  have hK : va_K (dC, dI) vwCl [(cI, .int), (cB, .byte), (cA_22, .int)] s := hK
  obtain rfl := kU_int hK 0 2 rfl rfl
  have hK := hK.sub (tys' := [(cI, .int), (cB, .byte)]) [0, 1] rfl
  have hP : va_P (dC, dI) vwCl [(h0, .inr (11, fs_20)), (q_21, .inl (cI, 1024, .inl (fun _ => 0)))] H := hP
  have hD : va_D A [(h0, .inr (11, fs_20)), (q_21, .inl (cI, 1024, .inl (fun _ => 0)))] := hD
  refine W.widen (k := 6) (n := 18432) (by decide) (by decide) ?_
  refine va_put (D := (dC, dI)) (ci := 11) (v := .ref q_21) (ty := (.array .int)) (C := RX11) (T := TX11) (N := 18) hx hb hts hin_X11 tyX11 tyX11_ok nmX11 hown hK hP hD hS 0 rfl rfl 6 (by decide) (hts (.fieldLink RX11 32 "NeedHouse$Types" "walk" "[I") (List.mem_of_getElem? (i := 11) rfl)) (fun _ h9 => h9) rfl (by decide +kernel) rfl rfl (by rw [hF_19.1]; decide) dX11_init_55 (fun H locs hP hD hS => ?_)
  have hP : va_P (dC, dI) vwCl [(h0, .inr (11, (fs_20.set 6 (.ref q_21)))), (q_21, .inl (cI, 1024, .inl (fun _ => 0)))] H := hP
  have hD : va_D A [(h0, .inr (11, (fs_20.set 6 (.ref q_21)))), (q_21, .inl (cI, 1024, .inl (fun _ => 0)))] := hD
  have hF_23 := hF_19.set 6 (.ref q_21) (l' := [(6, .ref q_21), (5, .ref q_17), (4, .ref q_13), (3, .ref q_9), (2, .ref q_5), (1, .ref q_1), (11, .int 0), (12, .int 0), (13, .int 0), (14, .int 0), (15, .int 0), (16, .int 0), (17, .int 0)]) (by decide) rfl
  generalize fs_20.set 6 (.ref q_21) = fs_24 at hP hD hF_23
  have hP : va_P (dC, dI) vwCl [(h0, .inr (11, fs_24)), (q_21, .inl (cI, 1024, .inl (fun _ => 0)))] H := hP
  have hD : va_D A [(h0, .inr (11, fs_24)), (q_21, .inl (cI, 1024, .inl (fun _ => 0)))] := hD
  have hP := hP.sub (ws' := [(h0, .inr (11, fs_24))]) [0] rfl
  have hD := hD.sub (ws' := [(h0, .inr (11, fs_24))]) [0] (by decide) rfl
  refine lv_aload_n hx hb dX11_init_58 rfl (lv_at hl 0 rfl) ?_
  refine lv_sipush (v := 23424) hx hb dX11_init_59 (by decide) ?_
  refine va_newa (atype := .int) (a0 := (23424, .inl (fun _ => 0))) hx hb (hts (.arrayClass .int) (List.mem_of_getElem? (i := 6) rfl)) (ty := .int) rfl hK hP hD hS hA (na_int 23424) (by decide) (by decide +kernel) (show 23424 * 4 ≤ 536870912 by decide) (show 6 + 1 ≤ 10 by decide) (show 18432 + 23424 ≤ 42590 by decide) dX11_init_62 (fun q_25 cA_26 H hK hP hD hS => ?_)
  have hK : va_K (dC, dI) vwCl [(cI, .int), (cB, .byte), (cA_26, .int)] s := hK
  obtain rfl := kU_int hK 0 2 rfl rfl
  have hK := hK.sub (tys' := [(cI, .int), (cB, .byte)]) [0, 1] rfl
  have hP : va_P (dC, dI) vwCl [(h0, .inr (11, fs_24)), (q_25, .inl (cI, 23424, .inl (fun _ => 0)))] H := hP
  have hD : va_D A [(h0, .inr (11, fs_24)), (q_25, .inl (cI, 23424, .inl (fun _ => 0)))] := hD
  refine W.widen (k := 7) (n := 41856) (by decide) (by decide) ?_
  refine va_putF (D := (dC, dI)) (ci := 11) (v := .ref q_25) (ty := (.array .int)) (C := RX11) (T := TX11) (N := 18) hx hb hts hin_X11 tyX11 tyX11_ok nmX11 hown hK hP hD hS 0 rfl rfl 7 (by decide) (hts (.fieldLink RX11 35 "NeedHouse$Types" "codes" "[I") (List.mem_of_getElem? (i := 12) rfl)) (fun _ h9 => h9) rfl hin rfl (by decide +kernel) rfl rfl (by rw [hF_23.1]; decide) dX11_init_64 (fun H locs hP hD hS => ?_)
  have hP : va_P (dC, dI) vwCl [(h0, .inr (11, (fs_24.set 7 (.ref q_25)))), (q_25, .inl (cI, 23424, .inl (fun _ => 0)))] H := hP
  have hD : va_D A [(h0, .inr (11, (fs_24.set 7 (.ref q_25)))), (q_25, .inl (cI, 23424, .inl (fun _ => 0)))] := hD
  have hF_27 := hF_23.set 7 (.ref q_25) (l' := [(7, .ref q_25), (6, .ref q_21), (5, .ref q_17), (4, .ref q_13), (3, .ref q_9), (2, .ref q_5), (1, .ref q_1), (11, .int 0), (12, .int 0), (13, .int 0), (14, .int 0), (15, .int 0), (16, .int 0), (17, .int 0)]) (by decide) rfl
  generalize fs_24.set 7 (.ref q_25) = fs_28 at hP hD hF_27
  have hP : va_P (dC, dI) vwCl [(h0, .inr (11, fs_28)), (q_25, .inl (cI, 23424, .inl (fun _ => 0)))] H := hP
  have hD : va_D A [(h0, .inr (11, fs_28)), (q_25, .inl (cI, 23424, .inl (fun _ => 0)))] := hD
  have hP := hP.sub (ws' := [(h0, .inr (11, fs_28))]) [0] rfl
  have hD := hD.sub (ws' := [(h0, .inr (11, fs_28))]) [0] (by decide) rfl
  refine lv_aload_n hx hb dX11_init_67 rfl (lv_at hl 0 rfl) ?_
  refine lv_sipush (v := 366) hx hb dX11_init_68 (by decide) ?_
  refine va_newa (atype := .int) (a0 := (366, .inl (fun _ => 0))) hx hb (hts (.arrayClass .int) (List.mem_of_getElem? (i := 6) rfl)) (ty := .int) rfl hK hP hD hS hA (na_int 366) (by decide) (by decide +kernel) (show 366 * 4 ≤ 536870912 by decide) (show 7 + 1 ≤ 10 by decide) (show 41856 + 366 ≤ 42590 by decide) dX11_init_71 (fun q_29 cA_30 H hK hP hD hS => ?_)
  have hK : va_K (dC, dI) vwCl [(cI, .int), (cB, .byte), (cA_30, .int)] s := hK
  obtain rfl := kU_int hK 0 2 rfl rfl
  have hK := hK.sub (tys' := [(cI, .int), (cB, .byte)]) [0, 1] rfl
  have hP : va_P (dC, dI) vwCl [(h0, .inr (11, fs_28)), (q_29, .inl (cI, 366, .inl (fun _ => 0)))] H := hP
  have hD : va_D A [(h0, .inr (11, fs_28)), (q_29, .inl (cI, 366, .inl (fun _ => 0)))] := hD
  refine W.widen (k := 8) (n := 42222) (by decide) (by decide) ?_
  refine va_putF (D := (dC, dI)) (ci := 11) (v := .ref q_29) (ty := (.array .int)) (C := RX11) (T := TX11) (N := 18) hx hb hts hin_X11 tyX11 tyX11_ok nmX11 hown hK hP hD hS 0 rfl rfl 8 (by decide) (hts (.fieldLink RX11 38 "NeedHouse$Types" "codeSize" "[I") (List.mem_of_getElem? (i := 13) rfl)) (fun _ h9 => h9) rfl hin rfl (by decide +kernel) rfl rfl (by rw [hF_27.1]; decide) dX11_init_73 (fun H locs hP hD hS => ?_)
  have hP : va_P (dC, dI) vwCl [(h0, .inr (11, (fs_28.set 8 (.ref q_29)))), (q_29, .inl (cI, 366, .inl (fun _ => 0)))] H := hP
  have hD : va_D A [(h0, .inr (11, (fs_28.set 8 (.ref q_29)))), (q_29, .inl (cI, 366, .inl (fun _ => 0)))] := hD
  have hF_31 := hF_27.set 8 (.ref q_29) (l' := [(8, .ref q_29), (7, .ref q_25), (6, .ref q_21), (5, .ref q_17), (4, .ref q_13), (3, .ref q_9), (2, .ref q_5), (1, .ref q_1), (11, .int 0), (12, .int 0), (13, .int 0), (14, .int 0), (15, .int 0), (16, .int 0), (17, .int 0)]) (by decide) rfl
  generalize fs_28.set 8 (.ref q_29) = fs_32 at hP hD hF_31
  have hP : va_P (dC, dI) vwCl [(h0, .inr (11, fs_32)), (q_29, .inl (cI, 366, .inl (fun _ => 0)))] H := hP
  have hD : va_D A [(h0, .inr (11, fs_32)), (q_29, .inl (cI, 366, .inl (fun _ => 0)))] := hD
  have hP := hP.sub (ws' := [(h0, .inr (11, fs_32))]) [0] rfl
  have hD := hD.sub (ws' := [(h0, .inr (11, fs_32))]) [0] (by decide) rfl
  refine lv_aload_n hx hb dX11_init_76 rfl (lv_at hl 0 rfl) ?_
  refine lv_bipush (v := 64) hx hb dX11_init_77 (by decide) ?_
  refine va_newa (atype := .int) (a0 := (64, .inl (fun _ => 0))) hx hb (hts (.arrayClass .int) (List.mem_of_getElem? (i := 6) rfl)) (ty := .int) rfl hK hP hD hS hA (na_int 64) (by decide) (by decide +kernel) (show 64 * 4 ≤ 536870912 by decide) (show 8 + 1 ≤ 10 by decide) (show 42222 + 64 ≤ 42590 by decide) dX11_init_79 (fun q_33 cA_34 H hK hP hD hS => ?_)
  have hK : va_K (dC, dI) vwCl [(cI, .int), (cB, .byte), (cA_34, .int)] s := hK
  obtain rfl := kU_int hK 0 2 rfl rfl
  have hK := hK.sub (tys' := [(cI, .int), (cB, .byte)]) [0, 1] rfl
  have hP : va_P (dC, dI) vwCl [(h0, .inr (11, fs_32)), (q_33, .inl (cI, 64, .inl (fun _ => 0)))] H := hP
  have hD : va_D A [(h0, .inr (11, fs_32)), (q_33, .inl (cI, 64, .inl (fun _ => 0)))] := hD
  refine W.widen (k := 9) (n := 42286) (by decide) (by decide) ?_
  refine va_putF (D := (dC, dI)) (ci := 11) (v := .ref q_33) (ty := (.array .int)) (C := RX11) (T := TX11) (N := 18) hx hb hts hin_X11 tyX11 tyX11_ok nmX11 hown hK hP hD hS 0 rfl rfl 9 (by decide) (hts (.fieldLink RX11 41 "NeedHouse$Types" "free" "[I") (List.mem_of_getElem? (i := 14) rfl)) (fun _ h9 => h9) rfl hin rfl (by decide +kernel) rfl rfl (by rw [hF_31.1]; decide) dX11_init_81 (fun H locs hP hD hS => ?_)
  have hP : va_P (dC, dI) vwCl [(h0, .inr (11, (fs_32.set 9 (.ref q_33)))), (q_33, .inl (cI, 64, .inl (fun _ => 0)))] H := hP
  have hD : va_D A [(h0, .inr (11, (fs_32.set 9 (.ref q_33)))), (q_33, .inl (cI, 64, .inl (fun _ => 0)))] := hD
  have hF_35 := hF_31.set 9 (.ref q_33) (l' := [(9, .ref q_33), (8, .ref q_29), (7, .ref q_25), (6, .ref q_21), (5, .ref q_17), (4, .ref q_13), (3, .ref q_9), (2, .ref q_5), (1, .ref q_1), (11, .int 0), (12, .int 0), (13, .int 0), (14, .int 0), (15, .int 0), (16, .int 0), (17, .int 0)]) (by decide) rfl
  generalize fs_32.set 9 (.ref q_33) = fs_36 at hP hD hF_35
  have hP : va_P (dC, dI) vwCl [(h0, .inr (11, fs_36)), (q_33, .inl (cI, 64, .inl (fun _ => 0)))] H := hP
  have hD : va_D A [(h0, .inr (11, fs_36)), (q_33, .inl (cI, 64, .inl (fun _ => 0)))] := hD
  have hP := hP.sub (ws' := [(h0, .inr (11, fs_36))]) [0] rfl
  have hD := hD.sub (ws' := [(h0, .inr (11, fs_36))]) [0] (by decide) rfl
  refine lv_aload_n hx hb dX11_init_84 rfl (lv_at hl 0 rfl) ?_
  refine lv_sipush (v := 304) hx hb dX11_init_85 (by decide) ?_
  refine va_newa (atype := .int) (a0 := (304, .inl (fun _ => 0))) hx hb (hts (.arrayClass .int) (List.mem_of_getElem? (i := 6) rfl)) (ty := .int) rfl hK hP hD hS hA (na_int 304) (by decide) (by decide +kernel) (show 304 * 4 ≤ 536870912 by decide) (show 9 + 1 ≤ 10 by decide) (show 42286 + 304 ≤ 42590 by decide) dX11_init_88 (fun q_37 cA_38 H hK hP hD hS => ?_)
  have hK : va_K (dC, dI) vwCl [(cI, .int), (cB, .byte), (cA_38, .int)] s := hK
  obtain rfl := kU_int hK 0 2 rfl rfl
  have hK := hK.sub (tys' := [(cI, .int), (cB, .byte)]) [0, 1] rfl
  have hP : va_P (dC, dI) vwCl [(h0, .inr (11, fs_36)), (q_37, .inl (cI, 304, .inl (fun _ => 0)))] H := hP
  have hD : va_D A [(h0, .inr (11, fs_36)), (q_37, .inl (cI, 304, .inl (fun _ => 0)))] := hD
  refine W.widen (k := 10) (n := 42590) (by decide) (by decide) ?_
  refine va_putF (D := (dC, dI)) (ci := 11) (v := .ref q_37) (ty := (.array .int)) (C := RX11) (T := TX11) (N := 18) hx hb hts hin_X11 tyX11 tyX11_ok nmX11 hown hK hP hD hS 0 rfl rfl 10 (by decide) (hts (.fieldLink RX11 44 "NeedHouse$Types" "around" "[I") (List.mem_of_getElem? (i := 15) rfl)) (fun _ h9 => h9) rfl hin rfl (by decide +kernel) rfl rfl (by rw [hF_35.1]; decide) dX11_init_90 (fun H locs hP hD hS => ?_)
  have hP : va_P (dC, dI) vwCl [(h0, .inr (11, (fs_36.set 10 (.ref q_37)))), (q_37, .inl (cI, 304, .inl (fun _ => 0)))] H := hP
  have hD : va_D A [(h0, .inr (11, (fs_36.set 10 (.ref q_37)))), (q_37, .inl (cI, 304, .inl (fun _ => 0)))] := hD
  have hF_39 := hF_35.set 10 (.ref q_37) (l' := [(10, .ref q_37), (9, .ref q_33), (8, .ref q_29), (7, .ref q_25), (6, .ref q_21), (5, .ref q_17), (4, .ref q_13), (3, .ref q_9), (2, .ref q_5), (1, .ref q_1), (11, .int 0), (12, .int 0), (13, .int 0), (14, .int 0), (15, .int 0), (16, .int 0), (17, .int 0)]) (by decide) rfl
  generalize fs_36.set 10 (.ref q_37) = fs_40 at hP hD hF_39
  have hP : va_P (dC, dI) vwCl [(h0, .inr (11, fs_40)), (q_37, .inl (cI, 304, .inl (fun _ => 0)))] H := hP
  have hD : va_D A [(h0, .inr (11, fs_40)), (q_37, .inl (cI, 304, .inl (fun _ => 0)))] := hD
  have hP := hP.sub (ws' := [(h0, .inr (11, fs_40))]) [0] rfl
  have hD := hD.sub (ws' := [(h0, .inr (11, fs_40))]) [0] (by decide) rfl
  refine lv_aload_n hx hb dX11_init_93 rfl (lv_at hl 0 rfl) ?_
  refine lv_aload_n hx hb dX11_init_94 rfl (lv_at hl 1 rfl) ?_
  refine va_putF (D := (dC, dI)) (ci := 11) (v := .ref p0) (ty := (.object "NeedHouse$Datas")) (C := RX11) (T := TX11) (N := 18) hx hb hts hin_X11 tyX11 tyX11_ok nmX11 hown hK hP hD hS 0 rfl rfl 0 (by decide) (hts (.fieldLink RX11 47 "NeedHouse$Types" "datas" "LNeedHouse$Datas;") (List.mem_of_getElem? (i := 16) rfl)) (fun _ h9 => h9) rfl hin rfl (by decide +kernel) rfl rfl (by rw [hF_39.1]; decide) dX11_init_95 (fun H locs hP hD hS => ?_)
  have hP : va_P (dC, dI) vwCl [(h0, .inr (11, (fs_40.set 0 (.ref p0))))] H := hP
  have hD : va_D A [(h0, .inr (11, (fs_40.set 0 (.ref p0))))] := hD
  have hF_41 := hF_39.set 0 (.ref p0) (l' := [(0, .ref p0), (10, .ref q_37), (9, .ref q_33), (8, .ref q_29), (7, .ref q_25), (6, .ref q_21), (5, .ref q_17), (4, .ref q_13), (3, .ref q_9), (2, .ref q_5), (1, .ref q_1), (11, .int 0), (12, .int 0), (13, .int 0), (14, .int 0), (15, .int 0), (16, .int 0), (17, .int 0)]) (by decide) rfl
  generalize fs_40.set 0 (.ref p0) = fs_42 at hP hD hF_41
  have hP : va_P (dC, dI) vwCl [(h0, .inr (11, fs_42))] H := hP
  have hD : va_D A [(h0, .inr (11, fs_42))] := hD
  have hP9 := hP.sub (ws' := [(h0, .inr (11, fs_42))]) [0] rfl
  have hD9 := hD.sub (ws' := [(h0, .inr (11, fs_42))]) [0] (by decide) rfl
  have hK9 := hK.sub (tys' := [(cI, .int), (cB, .byte)]) [0, 1] rfl
  exact W.vret hx hb hr (fun t ht hW => ⟨⟨(fs_42), rfl, hF_41.sub [0, 11, 12, 13, 14, 15, 16, 17] rfl, by rw [ht]; exact hP9, va_K.moved hW.alike hK9, hD9⟩, hS.F ht⟩) hS.2.2 dX11_init_98
def pw_c_X10_init : List Cond := .code yX10_init cX10_init 5 none :: ([.code objectInit ⟨#[0xb1]⟩ 1 none, .methodLink RX10 3 objectInit, .instanceMethod objectInit, .arrayClass .int, .fieldLink RX10 11 "NeedHouse$Typer" "work" "[I", .fieldLink RX10 17 "NeedHouse$Typer" "typeOf" "[I", .fieldLink RX10 22 "NeedHouse$Typer" "nameType" "[I", .fieldLink RX10 25 "NeedHouse$Typer" "settled" "[I", .arrayClass .long, .fieldLink RX10 28 "NeedHouse$Typer" "uses" "[J", .fieldLink RX10 32 "NeedHouse$Typer" "numberOf" "[I", .fieldLink RX10 35 "NeedHouse$Typer" "firstGroup" "[I", .fieldLink RX10 38 "NeedHouse$Typer" "groupsOf" "[I", .fieldLink RX10 41 "NeedHouse$Typer" "groupStart" "[I", .fieldLink RX10 44 "NeedHouse$Typer" "members" "[I", .fieldLink RX10 47 "NeedHouse$Typer" "lexemes" "LNeedHouse$Lexemes;", .fieldLink RX10 51 "NeedHouse$Typer" "tree" "LNeedHouse$Tree;", .fieldLink RX10 55 "NeedHouse$Typer" "told" "LNeedHouse$Told;", .fieldLink RX10 59 "NeedHouse$Typer" "types" "LNeedHouse$Types;"] ++ (wsX100 ++ []))
set_option maxHeartbeats 4000000 in
set_option maxRecDepth 100000 in
theorem c_X10_init (l : Launch) (dC : Nat → ClassId) (dI : Nat → Nat → Nat) (sz : Nat) (h0 : Nat) (fs : List Value) (cI : ClassId) (cL : ClassId) (p0 : Nat) (p1 : Nat) (p2 : Nat) (p3 : Nat) (hF : hasF fs 17 [(5, .int 0), (15, .int 0), (16, .int 0)]) : Met l yX10_init pw_c_X10_init ({ frames := 1, cells := 10, slots := 29185, locals := 12 }) (va_Pc [.ref h0, .ref p0, .ref p1, .ref p2, .ref p3] (fun U => U.heap.size = sz ∧ va_P (dC, dI) vwCl [(h0, .inr (10, fs))] U.heap ∧ va_K (dC, dI) vwCl [(cI, .int), (cL, .long)] U ∧ va_D (fun _ => True) [(h0, .inr (10, fs))])) (va_Qv (fun (u : (List Value)) => hasF u 17 [(0, .ref p0), (1, .ref p1), (2, .ref p2), (3, .ref p3), (5, .int 0), (15, .int 0), (16, .int 0)]) (fun (u : (List Value)) (t : State) => va_P (dC, dI) vwCl [(h0, .inr (10, u))] t.heap ∧ va_K (dC, dI) vwCl [(cI, .int), (cL, .long)] t ∧ va_D (va_A [(h0, .inr (10, fs))] sz) [(h0, .inr (10, u))]) (va_A [(h0, .inr (10, fs))] sz)) 10 29185 (va_A [(h0, .inr (10, fs))] sz) := by
  refine Met.ofW (cc := cX10_init) (maxL := 5) (ret := none) (by decide) rfl ?_
  intro p e s m args below meth c s₁ B hml hv
  obtain ⟨rfl, hsz, hP, hK, hD0⟩ := hv
  have hx := B.exec
  have hb := B.bytes
  have hr := B.returns
  have hts := atoms_spec (ws := pw_c_X10_init) B.pre
  have hown : s.vm.findClass RX10 = some m.cls := findClass_of_methodNamed B.named
  have hlocks := B.notSynchronized
  have hin : meth.name = "<init>" := (name_of_methodNamed B.named B.method).1
  have hin_X10 : ∀ w ∈ u_ws RX10 TX10 17, w ∈ pw_c_X10_init := fun w h => List.mem_cons_of_mem _ (List.mem_append_right _ (List.mem_append_left _ h))
  subst hsz
  have hD := hD0.self (sz := s.heap.size)
  generalize hAe : va_A [(h0, .inr (10, fs))] s.heap.size = A at hD ⊢
  have hA : ∀ q : Nat, s.heap.size ≤ q → A q := fun q h => by rw [← hAe]; exact Or.inr h
  have hS : va_S A s.heap s.heap [] := va_S.rf
  have hP : va_P (dC, dI) vwCl [(h0, .inr (10, fs))] s.heap := hP
  have hl := lv_entry ([.ref h0, .ref p0, .ref p1, .ref p2, .ref p3]) (n := 5) (Nat.le_of_ble_eq_true rfl)
  rw [lg_entry_eq]
  generalize (lg_sl ([.ref h0, .ref p0, .ref p1, .ref p2, .ref p3]) ++ List.replicate (5 - (lg_sl ([.ref h0, .ref p0, .ref p1, .ref p2, .ref p3])).length) Slot.unset).toArray = ls at hl ⊢
  have hl : lv_has ls 5 [(0, .ref h0), (1, .ref p0), (2, .ref p1), (3, .ref p2), (4, .ref p3)] := hl
  refine lv_aload_n hx hb dX10_init_0 rfl (lv_at hl 0 rfl) ?_
  refine W.objInit hx hb hown (hts (.methodLink RX10 3 objectInit) (List.mem_of_getElem? (i := 2) rfl)) (hts (.instanceMethod objectInit) (List.mem_of_getElem? (i := 3) rfl)) (hts _ (List.mem_of_getElem? (i := 1) rfl)) rfl (by rw [hml]; exact hl.1) rfl dX10_init_1 (Nat.le_of_ble_eq_true rfl) (Nat.le_of_ble_eq_true rfl) ?_
  refine W.eq (g2 := F0 m 4 ls []) rfl ?_
  refine lv_aload_n hx hb dX10_init_4 rfl (lv_at hl 0 rfl) ?_
  refine lv_sipush (v := 16384) hx hb dX10_init_5 (by decide) ?_
  refine va_newa (atype := .int) (a0 := (16384, .inl (fun _ => 0))) hx hb (hts (.arrayClass .int) (List.mem_of_getElem? (i := 4) rfl)) (ty := .int) rfl hK hP hD hS hA (na_int 16384) (by decide) (by decide +kernel) (show 16384 * 4 ≤ 536870912 by decide) (show 0 + 1 ≤ 10 by decide) (show 0 + 16384 ≤ 29185 by decide) dX10_init_8 (fun q_1 cA_2 H hK hP hD hS => ?_)
  have hK : va_K (dC, dI) vwCl [(cI, .int), (cL, .long), (cA_2, .int)] s := hK
  obtain rfl := kU_int hK 0 2 rfl rfl
  have hK := hK.sub (tys' := [(cI, .int), (cL, .long)]) [0, 1] rfl
  have hP : va_P (dC, dI) vwCl [(h0, .inr (10, fs)), (q_1, .inl (cI, 16384, .inl (fun _ => 0)))] H := hP
  have hD : va_D A [(h0, .inr (10, fs)), (q_1, .inl (cI, 16384, .inl (fun _ => 0)))] := hD
  refine W.widen (k := 1) (n := 16384) (by decide) (by decide) ?_
  refine va_putF (D := (dC, dI)) (ci := 10) (v := .ref q_1) (ty := (.array .int)) (C := RX10) (T := TX10) (N := 17) hx hb hts hin_X10 tyX10 tyX10_ok nmX10 hown hK hP hD hS 0 rfl rfl 4 (by decide) (hts (.fieldLink RX10 11 "NeedHouse$Typer" "work" "[I") (List.mem_of_getElem? (i := 5) rfl)) (fun _ h9 => h9) rfl hin rfl (by decide +kernel) rfl rfl (by rw [hF.1]; decide) dX10_init_10 (fun H locs hP hD hS => ?_)
  have hP : va_P (dC, dI) vwCl [(h0, .inr (10, (fs.set 4 (.ref q_1)))), (q_1, .inl (cI, 16384, .inl (fun _ => 0)))] H := hP
  have hD : va_D A [(h0, .inr (10, (fs.set 4 (.ref q_1)))), (q_1, .inl (cI, 16384, .inl (fun _ => 0)))] := hD
  have hF_3 := hF.set 4 (.ref q_1) (l' := [(4, .ref q_1), (5, .int 0), (15, .int 0), (16, .int 0)]) (by decide) rfl
  generalize fs.set 4 (.ref q_1) = fs_4 at hP hD hF_3
  have hP : va_P (dC, dI) vwCl [(h0, .inr (10, fs_4)), (q_1, .inl (cI, 16384, .inl (fun _ => 0)))] H := hP
  have hD : va_D A [(h0, .inr (10, fs_4)), (q_1, .inl (cI, 16384, .inl (fun _ => 0)))] := hD
  have hP := hP.sub (ws' := [(h0, .inr (10, fs_4))]) [0] rfl
  have hD := hD.sub (ws' := [(h0, .inr (10, fs_4))]) [0] (by decide) rfl
  refine lv_aload_n hx hb dX10_init_13 rfl (lv_at hl 0 rfl) ?_
  refine lv_sipush (v := 5600) hx hb dX10_init_14 (by decide) ?_
  refine va_newa (atype := .int) (a0 := (5600, .inl (fun _ => 0))) hx hb (hts (.arrayClass .int) (List.mem_of_getElem? (i := 4) rfl)) (ty := .int) rfl hK hP hD hS hA (na_int 5600) (by decide) (by decide +kernel) (show 5600 * 4 ≤ 536870912 by decide) (show 1 + 1 ≤ 10 by decide) (show 16384 + 5600 ≤ 29185 by decide) dX10_init_17 (fun q_5 cA_6 H hK hP hD hS => ?_)
  have hK : va_K (dC, dI) vwCl [(cI, .int), (cL, .long), (cA_6, .int)] s := hK
  obtain rfl := kU_int hK 0 2 rfl rfl
  have hK := hK.sub (tys' := [(cI, .int), (cL, .long)]) [0, 1] rfl
  have hP : va_P (dC, dI) vwCl [(h0, .inr (10, fs_4)), (q_5, .inl (cI, 5600, .inl (fun _ => 0)))] H := hP
  have hD : va_D A [(h0, .inr (10, fs_4)), (q_5, .inl (cI, 5600, .inl (fun _ => 0)))] := hD
  refine W.widen (k := 2) (n := 21984) (by decide) (by decide) ?_
  refine va_putF (D := (dC, dI)) (ci := 10) (v := .ref q_5) (ty := (.array .int)) (C := RX10) (T := TX10) (N := 17) hx hb hts hin_X10 tyX10 tyX10_ok nmX10 hown hK hP hD hS 0 rfl rfl 6 (by decide) (hts (.fieldLink RX10 17 "NeedHouse$Typer" "typeOf" "[I") (List.mem_of_getElem? (i := 6) rfl)) (fun _ h9 => h9) rfl hin rfl (by decide +kernel) rfl rfl (by rw [hF_3.1]; decide) dX10_init_19 (fun H locs hP hD hS => ?_)
  have hP : va_P (dC, dI) vwCl [(h0, .inr (10, (fs_4.set 6 (.ref q_5)))), (q_5, .inl (cI, 5600, .inl (fun _ => 0)))] H := hP
  have hD : va_D A [(h0, .inr (10, (fs_4.set 6 (.ref q_5)))), (q_5, .inl (cI, 5600, .inl (fun _ => 0)))] := hD
  have hF_7 := hF_3.set 6 (.ref q_5) (l' := [(6, .ref q_5), (4, .ref q_1), (5, .int 0), (15, .int 0), (16, .int 0)]) (by decide) rfl
  generalize fs_4.set 6 (.ref q_5) = fs_8 at hP hD hF_7
  have hP : va_P (dC, dI) vwCl [(h0, .inr (10, fs_8)), (q_5, .inl (cI, 5600, .inl (fun _ => 0)))] H := hP
  have hD : va_D A [(h0, .inr (10, fs_8)), (q_5, .inl (cI, 5600, .inl (fun _ => 0)))] := hD
  have hP := hP.sub (ws' := [(h0, .inr (10, fs_8))]) [0] rfl
  have hD := hD.sub (ws' := [(h0, .inr (10, fs_8))]) [0] (by decide) rfl
  refine lv_aload_n hx hb dX10_init_22 rfl (lv_at hl 0 rfl) ?_
  refine lv_sipush (v := 300) hx hb dX10_init_23 (by decide) ?_
  refine va_newa (atype := .int) (a0 := (300, .inl (fun _ => 0))) hx hb (hts (.arrayClass .int) (List.mem_of_getElem? (i := 4) rfl)) (ty := .int) rfl hK hP hD hS hA (na_int 300) (by decide) (by decide +kernel) (show 300 * 4 ≤ 536870912 by decide) (show 2 + 1 ≤ 10 by decide) (show 21984 + 300 ≤ 29185 by decide) dX10_init_26 (fun q_9 cA_10 H hK hP hD hS => ?_)
  have hK : va_K (dC, dI) vwCl [(cI, .int), (cL, .long), (cA_10, .int)] s := hK
  obtain rfl := kU_int hK 0 2 rfl rfl
  have hK := hK.sub (tys' := [(cI, .int), (cL, .long)]) [0, 1] rfl
  have hP : va_P (dC, dI) vwCl [(h0, .inr (10, fs_8)), (q_9, .inl (cI, 300, .inl (fun _ => 0)))] H := hP
  have hD : va_D A [(h0, .inr (10, fs_8)), (q_9, .inl (cI, 300, .inl (fun _ => 0)))] := hD
  refine W.widen (k := 3) (n := 22284) (by decide) (by decide) ?_
  refine va_putF (D := (dC, dI)) (ci := 10) (v := .ref q_9) (ty := (.array .int)) (C := RX10) (T := TX10) (N := 17) hx hb hts hin_X10 tyX10 tyX10_ok nmX10 hown hK hP hD hS 0 rfl rfl 7 (by decide) (hts (.fieldLink RX10 22 "NeedHouse$Typer" "nameType" "[I") (List.mem_of_getElem? (i := 7) rfl)) (fun _ h9 => h9) rfl hin rfl (by decide +kernel) rfl rfl (by rw [hF_7.1]; decide) dX10_init_28 (fun H locs hP hD hS => ?_)
  have hP : va_P (dC, dI) vwCl [(h0, .inr (10, (fs_8.set 7 (.ref q_9)))), (q_9, .inl (cI, 300, .inl (fun _ => 0)))] H := hP
  have hD : va_D A [(h0, .inr (10, (fs_8.set 7 (.ref q_9)))), (q_9, .inl (cI, 300, .inl (fun _ => 0)))] := hD
  have hF_11 := hF_7.set 7 (.ref q_9) (l' := [(7, .ref q_9), (6, .ref q_5), (4, .ref q_1), (5, .int 0), (15, .int 0), (16, .int 0)]) (by decide) rfl
  generalize fs_8.set 7 (.ref q_9) = fs_12 at hP hD hF_11
  have hP : va_P (dC, dI) vwCl [(h0, .inr (10, fs_12)), (q_9, .inl (cI, 300, .inl (fun _ => 0)))] H := hP
  have hD : va_D A [(h0, .inr (10, fs_12)), (q_9, .inl (cI, 300, .inl (fun _ => 0)))] := hD
  have hP := hP.sub (ws' := [(h0, .inr (10, fs_12))]) [0] rfl
  have hD := hD.sub (ws' := [(h0, .inr (10, fs_12))]) [0] (by decide) rfl
  refine lv_aload_n hx hb dX10_init_31 rfl (lv_at hl 0 rfl) ?_
  refine lv_sipush (v := 300) hx hb dX10_init_32 (by decide) ?_
  refine va_newa (atype := .int) (a0 := (300, .inl (fun _ => 0))) hx hb (hts (.arrayClass .int) (List.mem_of_getElem? (i := 4) rfl)) (ty := .int) rfl hK hP hD hS hA (na_int 300) (by decide) (by decide +kernel) (show 300 * 4 ≤ 536870912 by decide) (show 3 + 1 ≤ 10 by decide) (show 22284 + 300 ≤ 29185 by decide) dX10_init_35 (fun q_13 cA_14 H hK hP hD hS => ?_)
  have hK : va_K (dC, dI) vwCl [(cI, .int), (cL, .long), (cA_14, .int)] s := hK
  obtain rfl := kU_int hK 0 2 rfl rfl
  have hK := hK.sub (tys' := [(cI, .int), (cL, .long)]) [0, 1] rfl
  have hP : va_P (dC, dI) vwCl [(h0, .inr (10, fs_12)), (q_13, .inl (cI, 300, .inl (fun _ => 0)))] H := hP
  have hD : va_D A [(h0, .inr (10, fs_12)), (q_13, .inl (cI, 300, .inl (fun _ => 0)))] := hD
  refine W.widen (k := 4) (n := 22584) (by decide) (by decide) ?_
  refine va_putF (D := (dC, dI)) (ci := 10) (v := .ref q_13) (ty := (.array .int)) (C := RX10) (T := TX10) (N := 17) hx hb hts hin_X10 tyX10 tyX10_ok nmX10 hown hK hP hD hS 0 rfl rfl 8 (by decide) (hts (.fieldLink RX10 25 "NeedHouse$Typer" "settled" "[I") (List.mem_of_getElem? (i := 8) rfl)) (fun _ h9 => h9) rfl hin rfl (by decide +kernel) rfl rfl (by rw [hF_11.1]; decide) dX10_init_37 (fun H locs hP hD hS => ?_)
  have hP : va_P (dC, dI) vwCl [(h0, .inr (10, (fs_12.set 8 (.ref q_13)))), (q_13, .inl (cI, 300, .inl (fun _ => 0)))] H := hP
  have hD : va_D A [(h0, .inr (10, (fs_12.set 8 (.ref q_13)))), (q_13, .inl (cI, 300, .inl (fun _ => 0)))] := hD
  have hF_15 := hF_11.set 8 (.ref q_13) (l' := [(8, .ref q_13), (7, .ref q_9), (6, .ref q_5), (4, .ref q_1), (5, .int 0), (15, .int 0), (16, .int 0)]) (by decide) rfl
  generalize fs_12.set 8 (.ref q_13) = fs_16 at hP hD hF_15
  have hP : va_P (dC, dI) vwCl [(h0, .inr (10, fs_16)), (q_13, .inl (cI, 300, .inl (fun _ => 0)))] H := hP
  have hD : va_D A [(h0, .inr (10, fs_16)), (q_13, .inl (cI, 300, .inl (fun _ => 0)))] := hD
  have hP := hP.sub (ws' := [(h0, .inr (10, fs_16))]) [0] rfl
  have hD := hD.sub (ws' := [(h0, .inr (10, fs_16))]) [0] (by decide) rfl
  refine lv_aload_n hx hb dX10_init_40 rfl (lv_at hl 0 rfl) ?_
  refine lv_sipush (v := 1500) hx hb dX10_init_41 (by decide) ?_
  refine va_newa (atype := .long) (a0 := (1500, .inr (.inl (fun _ => 0)))) hx hb (hts (.arrayClass .long) (List.mem_of_getElem? (i := 9) rfl)) (ty := .long) rfl hK hP hD hS hA (na_long 1500) (by decide) (by decide +kernel) (show 1500 * 8 ≤ 536870912 by decide) (show 4 + 1 ≤ 10 by decide) (show 22584 + 1500 ≤ 29185 by decide) dX10_init_44 (fun q_17 cA_18 H hK hP hD hS => ?_)
  have hK : va_K (dC, dI) vwCl [(cI, .int), (cL, .long), (cA_18, .long)] s := hK
  obtain rfl := kU_long hK 1 2 rfl rfl
  have hK := hK.sub (tys' := [(cI, .int), (cL, .long)]) [0, 1] rfl
  have hP : va_P (dC, dI) vwCl [(h0, .inr (10, fs_16)), (q_17, .inl (cL, 1500, .inr (.inl (fun _ => 0))))] H := hP
  have hD : va_D A [(h0, .inr (10, fs_16)), (q_17, .inl (cL, 1500, .inr (.inl (fun _ => 0))))] := hD
  refine W.widen (k := 5) (n := 24084) (by decide) (by decide) ?_
  refine va_putF (D := (dC, dI)) (ci := 10) (v := .ref q_17) (ty := (.array .long)) (C := RX10) (T := TX10) (N := 17) hx hb hts hin_X10 tyX10 tyX10_ok nmX10 hown hK hP hD hS 0 rfl rfl 9 (by decide) (hts (.fieldLink RX10 28 "NeedHouse$Typer" "uses" "[J") (List.mem_of_getElem? (i := 10) rfl)) (fun _ h9 => h9) rfl hin rfl (by decide +kernel) rfl rfl (by rw [hF_15.1]; decide) dX10_init_46 (fun H locs hP hD hS => ?_)
  have hP : va_P (dC, dI) vwCl [(h0, .inr (10, (fs_16.set 9 (.ref q_17)))), (q_17, .inl (cL, 1500, .inr (.inl (fun _ => 0))))] H := hP
  have hD : va_D A [(h0, .inr (10, (fs_16.set 9 (.ref q_17)))), (q_17, .inl (cL, 1500, .inr (.inl (fun _ => 0))))] := hD
  have hF_19 := hF_15.set 9 (.ref q_17) (l' := [(9, .ref q_17), (8, .ref q_13), (7, .ref q_9), (6, .ref q_5), (4, .ref q_1), (5, .int 0), (15, .int 0), (16, .int 0)]) (by decide) rfl
  generalize fs_16.set 9 (.ref q_17) = fs_20 at hP hD hF_19
  have hP : va_P (dC, dI) vwCl [(h0, .inr (10, fs_20)), (q_17, .inl (cL, 1500, .inr (.inl (fun _ => 0))))] H := hP
  have hD : va_D A [(h0, .inr (10, fs_20)), (q_17, .inl (cL, 1500, .inr (.inl (fun _ => 0))))] := hD
  have hP := hP.sub (ws' := [(h0, .inr (10, fs_20))]) [0] rfl
  have hD := hD.sub (ws' := [(h0, .inr (10, fs_20))]) [0] (by decide) rfl
  refine lv_aload_n hx hb dX10_init_49 rfl (lv_at hl 0 rfl) ?_
  refine lv_sipush (v := 300) hx hb dX10_init_50 (by decide) ?_
  refine va_newa (atype := .int) (a0 := (300, .inl (fun _ => 0))) hx hb (hts (.arrayClass .int) (List.mem_of_getElem? (i := 4) rfl)) (ty := .int) rfl hK hP hD hS hA (na_int 300) (by decide) (by decide +kernel) (show 300 * 4 ≤ 536870912 by decide) (show 5 + 1 ≤ 10 by decide) (show 24084 + 300 ≤ 29185 by decide) dX10_init_53 (fun q_21 cA_22 H hK hP hD hS => ?_)
  have hK : va_K (dC, dI) vwCl [(cI, .int), (cL, .long), (cA_22, .int)] s := hK
  obtain rfl := kU_int hK 0 2 rfl rfl
  have hK := hK.sub (tys' := [(cI, .int), (cL, .long)]) [0, 1] rfl
  have hP : va_P (dC, dI) vwCl [(h0, .inr (10, fs_20)), (q_21, .inl (cI, 300, .inl (fun _ => 0)))] H := hP
  have hD : va_D A [(h0, .inr (10, fs_20)), (q_21, .inl (cI, 300, .inl (fun _ => 0)))] := hD
  refine W.widen (k := 6) (n := 24384) (by decide) (by decide) ?_
  refine va_putF (D := (dC, dI)) (ci := 10) (v := .ref q_21) (ty := (.array .int)) (C := RX10) (T := TX10) (N := 17) hx hb hts hin_X10 tyX10 tyX10_ok nmX10 hown hK hP hD hS 0 rfl rfl 10 (by decide) (hts (.fieldLink RX10 32 "NeedHouse$Typer" "numberOf" "[I") (List.mem_of_getElem? (i := 11) rfl)) (fun _ h9 => h9) rfl hin rfl (by decide +kernel) rfl rfl (by rw [hF_19.1]; decide) dX10_init_55 (fun H locs hP hD hS => ?_)
  have hP : va_P (dC, dI) vwCl [(h0, .inr (10, (fs_20.set 10 (.ref q_21)))), (q_21, .inl (cI, 300, .inl (fun _ => 0)))] H := hP
  have hD : va_D A [(h0, .inr (10, (fs_20.set 10 (.ref q_21)))), (q_21, .inl (cI, 300, .inl (fun _ => 0)))] := hD
  have hF_23 := hF_19.set 10 (.ref q_21) (l' := [(10, .ref q_21), (9, .ref q_17), (8, .ref q_13), (7, .ref q_9), (6, .ref q_5), (4, .ref q_1), (5, .int 0), (15, .int 0), (16, .int 0)]) (by decide) rfl
  generalize fs_20.set 10 (.ref q_21) = fs_24 at hP hD hF_23
  have hP : va_P (dC, dI) vwCl [(h0, .inr (10, fs_24)), (q_21, .inl (cI, 300, .inl (fun _ => 0)))] H := hP
  have hD : va_D A [(h0, .inr (10, fs_24)), (q_21, .inl (cI, 300, .inl (fun _ => 0)))] := hD
  have hP := hP.sub (ws' := [(h0, .inr (10, fs_24))]) [0] rfl
  have hD := hD.sub (ws' := [(h0, .inr (10, fs_24))]) [0] (by decide) rfl
  refine lv_aload_n hx hb dX10_init_58 rfl (lv_at hl 0 rfl) ?_
  refine lv_sipush (v := 2100) hx hb dX10_init_59 (by decide) ?_
  refine va_newa (atype := .int) (a0 := (2100, .inl (fun _ => 0))) hx hb (hts (.arrayClass .int) (List.mem_of_getElem? (i := 4) rfl)) (ty := .int) rfl hK hP hD hS hA (na_int 2100) (by decide) (by decide +kernel) (show 2100 * 4 ≤ 536870912 by decide) (show 6 + 1 ≤ 10 by decide) (show 24384 + 2100 ≤ 29185 by decide) dX10_init_62 (fun q_25 cA_26 H hK hP hD hS => ?_)
  have hK : va_K (dC, dI) vwCl [(cI, .int), (cL, .long), (cA_26, .int)] s := hK
  obtain rfl := kU_int hK 0 2 rfl rfl
  have hK := hK.sub (tys' := [(cI, .int), (cL, .long)]) [0, 1] rfl
  have hP : va_P (dC, dI) vwCl [(h0, .inr (10, fs_24)), (q_25, .inl (cI, 2100, .inl (fun _ => 0)))] H := hP
  have hD : va_D A [(h0, .inr (10, fs_24)), (q_25, .inl (cI, 2100, .inl (fun _ => 0)))] := hD
  refine W.widen (k := 7) (n := 26484) (by decide) (by decide) ?_
  refine va_putF (D := (dC, dI)) (ci := 10) (v := .ref q_25) (ty := (.array .int)) (C := RX10) (T := TX10) (N := 17) hx hb hts hin_X10 tyX10 tyX10_ok nmX10 hown hK hP hD hS 0 rfl rfl 11 (by decide) (hts (.fieldLink RX10 35 "NeedHouse$Typer" "firstGroup" "[I") (List.mem_of_getElem? (i := 12) rfl)) (fun _ h9 => h9) rfl hin rfl (by decide +kernel) rfl rfl (by rw [hF_23.1]; decide) dX10_init_64 (fun H locs hP hD hS => ?_)
  have hP : va_P (dC, dI) vwCl [(h0, .inr (10, (fs_24.set 11 (.ref q_25)))), (q_25, .inl (cI, 2100, .inl (fun _ => 0)))] H := hP
  have hD : va_D A [(h0, .inr (10, (fs_24.set 11 (.ref q_25)))), (q_25, .inl (cI, 2100, .inl (fun _ => 0)))] := hD
  have hF_27 := hF_23.set 11 (.ref q_25) (l' := [(11, .ref q_25), (10, .ref q_21), (9, .ref q_17), (8, .ref q_13), (7, .ref q_9), (6, .ref q_5), (4, .ref q_1), (5, .int 0), (15, .int 0), (16, .int 0)]) (by decide) rfl
  generalize fs_24.set 11 (.ref q_25) = fs_28 at hP hD hF_27
  have hP : va_P (dC, dI) vwCl [(h0, .inr (10, fs_28)), (q_25, .inl (cI, 2100, .inl (fun _ => 0)))] H := hP
  have hD : va_D A [(h0, .inr (10, fs_28)), (q_25, .inl (cI, 2100, .inl (fun _ => 0)))] := hD
  have hP := hP.sub (ws' := [(h0, .inr (10, fs_28))]) [0] rfl
  have hD := hD.sub (ws' := [(h0, .inr (10, fs_28))]) [0] (by decide) rfl
  refine lv_aload_n hx hb dX10_init_67 rfl (lv_at hl 0 rfl) ?_
  refine lv_sipush (v := 2100) hx hb dX10_init_68 (by decide) ?_
  refine va_newa (atype := .int) (a0 := (2100, .inl (fun _ => 0))) hx hb (hts (.arrayClass .int) (List.mem_of_getElem? (i := 4) rfl)) (ty := .int) rfl hK hP hD hS hA (na_int 2100) (by decide) (by decide +kernel) (show 2100 * 4 ≤ 536870912 by decide) (show 7 + 1 ≤ 10 by decide) (show 26484 + 2100 ≤ 29185 by decide) dX10_init_71 (fun q_29 cA_30 H hK hP hD hS => ?_)
  have hK : va_K (dC, dI) vwCl [(cI, .int), (cL, .long), (cA_30, .int)] s := hK
  obtain rfl := kU_int hK 0 2 rfl rfl
  have hK := hK.sub (tys' := [(cI, .int), (cL, .long)]) [0, 1] rfl
  have hP : va_P (dC, dI) vwCl [(h0, .inr (10, fs_28)), (q_29, .inl (cI, 2100, .inl (fun _ => 0)))] H := hP
  have hD : va_D A [(h0, .inr (10, fs_28)), (q_29, .inl (cI, 2100, .inl (fun _ => 0)))] := hD
  refine W.widen (k := 8) (n := 28584) (by decide) (by decide) ?_
  refine va_putF (D := (dC, dI)) (ci := 10) (v := .ref q_29) (ty := (.array .int)) (C := RX10) (T := TX10) (N := 17) hx hb hts hin_X10 tyX10 tyX10_ok nmX10 hown hK hP hD hS 0 rfl rfl 12 (by decide) (hts (.fieldLink RX10 38 "NeedHouse$Typer" "groupsOf" "[I") (List.mem_of_getElem? (i := 13) rfl)) (fun _ h9 => h9) rfl hin rfl (by decide +kernel) rfl rfl (by rw [hF_27.1]; decide) dX10_init_73 (fun H locs hP hD hS => ?_)
  have hP : va_P (dC, dI) vwCl [(h0, .inr (10, (fs_28.set 12 (.ref q_29)))), (q_29, .inl (cI, 2100, .inl (fun _ => 0)))] H := hP
  have hD : va_D A [(h0, .inr (10, (fs_28.set 12 (.ref q_29)))), (q_29, .inl (cI, 2100, .inl (fun _ => 0)))] := hD
  have hF_31 := hF_27.set 12 (.ref q_29) (l' := [(12, .ref q_29), (11, .ref q_25), (10, .ref q_21), (9, .ref q_17), (8, .ref q_13), (7, .ref q_9), (6, .ref q_5), (4, .ref q_1), (5, .int 0), (15, .int 0), (16, .int 0)]) (by decide) rfl
  generalize fs_28.set 12 (.ref q_29) = fs_32 at hP hD hF_31
  have hP : va_P (dC, dI) vwCl [(h0, .inr (10, fs_32)), (q_29, .inl (cI, 2100, .inl (fun _ => 0)))] H := hP
  have hD : va_D A [(h0, .inr (10, fs_32)), (q_29, .inl (cI, 2100, .inl (fun _ => 0)))] := hD
  have hP := hP.sub (ws' := [(h0, .inr (10, fs_32))]) [0] rfl
  have hD := hD.sub (ws' := [(h0, .inr (10, fs_32))]) [0] (by decide) rfl
  refine lv_aload_n hx hb dX10_init_76 rfl (lv_at hl 0 rfl) ?_
  refine lv_sipush (v := 301) hx hb dX10_init_77 (by decide) ?_
  refine va_newa (atype := .int) (a0 := (301, .inl (fun _ => 0))) hx hb (hts (.arrayClass .int) (List.mem_of_getElem? (i := 4) rfl)) (ty := .int) rfl hK hP hD hS hA (na_int 301) (by decide) (by decide +kernel) (show 301 * 4 ≤ 536870912 by decide) (show 8 + 1 ≤ 10 by decide) (show 28584 + 301 ≤ 29185 by decide) dX10_init_80 (fun q_33 cA_34 H hK hP hD hS => ?_)
  have hK : va_K (dC, dI) vwCl [(cI, .int), (cL, .long), (cA_34, .int)] s := hK
  obtain rfl := kU_int hK 0 2 rfl rfl
  have hK := hK.sub (tys' := [(cI, .int), (cL, .long)]) [0, 1] rfl
  have hP : va_P (dC, dI) vwCl [(h0, .inr (10, fs_32)), (q_33, .inl (cI, 301, .inl (fun _ => 0)))] H := hP
  have hD : va_D A [(h0, .inr (10, fs_32)), (q_33, .inl (cI, 301, .inl (fun _ => 0)))] := hD
  refine W.widen (k := 9) (n := 28885) (by decide) (by decide) ?_
  refine va_putF (D := (dC, dI)) (ci := 10) (v := .ref q_33) (ty := (.array .int)) (C := RX10) (T := TX10) (N := 17) hx hb hts hin_X10 tyX10 tyX10_ok nmX10 hown hK hP hD hS 0 rfl rfl 13 (by decide) (hts (.fieldLink RX10 41 "NeedHouse$Typer" "groupStart" "[I") (List.mem_of_getElem? (i := 14) rfl)) (fun _ h9 => h9) rfl hin rfl (by decide +kernel) rfl rfl (by rw [hF_31.1]; decide) dX10_init_82 (fun H locs hP hD hS => ?_)
  have hP : va_P (dC, dI) vwCl [(h0, .inr (10, (fs_32.set 13 (.ref q_33)))), (q_33, .inl (cI, 301, .inl (fun _ => 0)))] H := hP
  have hD : va_D A [(h0, .inr (10, (fs_32.set 13 (.ref q_33)))), (q_33, .inl (cI, 301, .inl (fun _ => 0)))] := hD
  have hF_35 := hF_31.set 13 (.ref q_33) (l' := [(13, .ref q_33), (12, .ref q_29), (11, .ref q_25), (10, .ref q_21), (9, .ref q_17), (8, .ref q_13), (7, .ref q_9), (6, .ref q_5), (4, .ref q_1), (5, .int 0), (15, .int 0), (16, .int 0)]) (by decide) rfl
  generalize fs_32.set 13 (.ref q_33) = fs_36 at hP hD hF_35
  have hP : va_P (dC, dI) vwCl [(h0, .inr (10, fs_36)), (q_33, .inl (cI, 301, .inl (fun _ => 0)))] H := hP
  have hD : va_D A [(h0, .inr (10, fs_36)), (q_33, .inl (cI, 301, .inl (fun _ => 0)))] := hD
  have hP := hP.sub (ws' := [(h0, .inr (10, fs_36))]) [0] rfl
  have hD := hD.sub (ws' := [(h0, .inr (10, fs_36))]) [0] (by decide) rfl
  refine lv_aload_n hx hb dX10_init_85 rfl (lv_at hl 0 rfl) ?_
  refine lv_sipush (v := 300) hx hb dX10_init_86 (by decide) ?_
  refine va_newa (atype := .int) (a0 := (300, .inl (fun _ => 0))) hx hb (hts (.arrayClass .int) (List.mem_of_getElem? (i := 4) rfl)) (ty := .int) rfl hK hP hD hS hA (na_int 300) (by decide) (by decide +kernel) (show 300 * 4 ≤ 536870912 by decide) (show 9 + 1 ≤ 10 by decide) (show 28885 + 300 ≤ 29185 by decide) dX10_init_89 (fun q_37 cA_38 H hK hP hD hS => ?_)
  have hK : va_K (dC, dI) vwCl [(cI, .int), (cL, .long), (cA_38, .int)] s := hK
  obtain rfl := kU_int hK 0 2 rfl rfl
  have hK := hK.sub (tys' := [(cI, .int), (cL, .long)]) [0, 1] rfl
  have hP : va_P (dC, dI) vwCl [(h0, .inr (10, fs_36)), (q_37, .inl (cI, 300, .inl (fun _ => 0)))] H := hP
  have hD : va_D A [(h0, .inr (10, fs_36)), (q_37, .inl (cI, 300, .inl (fun _ => 0)))] := hD
  refine W.widen (k := 10) (n := 29185) (by decide) (by decide) ?_
  refine va_putF (D := (dC, dI)) (ci := 10) (v := .ref q_37) (ty := (.array .int)) (C := RX10) (T := TX10) (N := 17) hx hb hts hin_X10 tyX10 tyX10_ok nmX10 hown hK hP hD hS 0 rfl rfl 14 (by decide) (hts (.fieldLink RX10 44 "NeedHouse$Typer" "members" "[I") (List.mem_of_getElem? (i := 15) rfl)) (fun _ h9 => h9) rfl hin rfl (by decide +kernel) rfl rfl (by rw [hF_35.1]; decide) dX10_init_91 (fun H locs hP hD hS => ?_)
  have hP : va_P (dC, dI) vwCl [(h0, .inr (10, (fs_36.set 14 (.ref q_37)))), (q_37, .inl (cI, 300, .inl (fun _ => 0)))] H := hP
  have hD : va_D A [(h0, .inr (10, (fs_36.set 14 (.ref q_37)))), (q_37, .inl (cI, 300, .inl (fun _ => 0)))] := hD
  have hF_39 := hF_35.set 14 (.ref q_37) (l' := [(14, .ref q_37), (13, .ref q_33), (12, .ref q_29), (11, .ref q_25), (10, .ref q_21), (9, .ref q_17), (8, .ref q_13), (7, .ref q_9), (6, .ref q_5), (4, .ref q_1), (5, .int 0), (15, .int 0), (16, .int 0)]) (by decide) rfl
  generalize fs_36.set 14 (.ref q_37) = fs_40 at hP hD hF_39
  have hP : va_P (dC, dI) vwCl [(h0, .inr (10, fs_40)), (q_37, .inl (cI, 300, .inl (fun _ => 0)))] H := hP
  have hD : va_D A [(h0, .inr (10, fs_40)), (q_37, .inl (cI, 300, .inl (fun _ => 0)))] := hD
  have hP := hP.sub (ws' := [(h0, .inr (10, fs_40))]) [0] rfl
  have hD := hD.sub (ws' := [(h0, .inr (10, fs_40))]) [0] (by decide) rfl
  refine lv_aload_n hx hb dX10_init_94 rfl (lv_at hl 0 rfl) ?_
  refine lv_aload_n hx hb dX10_init_95 rfl (lv_at hl 1 rfl) ?_
  refine va_putF (D := (dC, dI)) (ci := 10) (v := .ref p0) (ty := (.object "NeedHouse$Lexemes")) (C := RX10) (T := TX10) (N := 17) hx hb hts hin_X10 tyX10 tyX10_ok nmX10 hown hK hP hD hS 0 rfl rfl 0 (by decide) (hts (.fieldLink RX10 47 "NeedHouse$Typer" "lexemes" "LNeedHouse$Lexemes;") (List.mem_of_getElem? (i := 16) rfl)) (fun _ h9 => h9) rfl hin rfl (by decide +kernel) rfl rfl (by rw [hF_39.1]; decide) dX10_init_96 (fun H locs hP hD hS => ?_)
  have hP : va_P (dC, dI) vwCl [(h0, .inr (10, (fs_40.set 0 (.ref p0))))] H := hP
  have hD : va_D A [(h0, .inr (10, (fs_40.set 0 (.ref p0))))] := hD
  have hF_41 := hF_39.set 0 (.ref p0) (l' := [(0, .ref p0), (14, .ref q_37), (13, .ref q_33), (12, .ref q_29), (11, .ref q_25), (10, .ref q_21), (9, .ref q_17), (8, .ref q_13), (7, .ref q_9), (6, .ref q_5), (4, .ref q_1), (5, .int 0), (15, .int 0), (16, .int 0)]) (by decide) rfl
  generalize fs_40.set 0 (.ref p0) = fs_42 at hP hD hF_41
  have hP : va_P (dC, dI) vwCl [(h0, .inr (10, fs_42))] H := hP
  have hD : va_D A [(h0, .inr (10, fs_42))] := hD
  refine lv_aload_n hx hb dX10_init_99 rfl (lv_at hl 0 rfl) ?_
  refine lv_aload_n hx hb dX10_init_100 rfl (lv_at hl 2 rfl) ?_
  refine va_putF (D := (dC, dI)) (ci := 10) (v := .ref p1) (ty := (.object "NeedHouse$Tree")) (C := RX10) (T := TX10) (N := 17) hx hb hts hin_X10 tyX10 tyX10_ok nmX10 hown hK hP hD hS 0 rfl rfl 1 (by decide) (hts (.fieldLink RX10 51 "NeedHouse$Typer" "tree" "LNeedHouse$Tree;") (List.mem_of_getElem? (i := 17) rfl)) (fun _ h9 => h9) rfl hin rfl (by decide +kernel) rfl rfl (by rw [hF_41.1]; decide) dX10_init_101 (fun H locs hP hD hS => ?_)
  have hP : va_P (dC, dI) vwCl [(h0, .inr (10, (fs_42.set 1 (.ref p1))))] H := hP
  have hD : va_D A [(h0, .inr (10, (fs_42.set 1 (.ref p1))))] := hD
  have hF_43 := hF_41.set 1 (.ref p1) (l' := [(1, .ref p1), (0, .ref p0), (14, .ref q_37), (13, .ref q_33), (12, .ref q_29), (11, .ref q_25), (10, .ref q_21), (9, .ref q_17), (8, .ref q_13), (7, .ref q_9), (6, .ref q_5), (4, .ref q_1), (5, .int 0), (15, .int 0), (16, .int 0)]) (by decide) rfl
  generalize fs_42.set 1 (.ref p1) = fs_44 at hP hD hF_43
  have hP : va_P (dC, dI) vwCl [(h0, .inr (10, fs_44))] H := hP
  have hD : va_D A [(h0, .inr (10, fs_44))] := hD
  refine lv_aload_n hx hb dX10_init_104 rfl (lv_at hl 0 rfl) ?_
  refine lv_aload_n hx hb dX10_init_105 rfl (lv_at hl 3 rfl) ?_
  refine va_putF (D := (dC, dI)) (ci := 10) (v := .ref p2) (ty := (.object "NeedHouse$Told")) (C := RX10) (T := TX10) (N := 17) hx hb hts hin_X10 tyX10 tyX10_ok nmX10 hown hK hP hD hS 0 rfl rfl 2 (by decide) (hts (.fieldLink RX10 55 "NeedHouse$Typer" "told" "LNeedHouse$Told;") (List.mem_of_getElem? (i := 18) rfl)) (fun _ h9 => h9) rfl hin rfl (by decide +kernel) rfl rfl (by rw [hF_43.1]; decide) dX10_init_106 (fun H locs hP hD hS => ?_)
  have hP : va_P (dC, dI) vwCl [(h0, .inr (10, (fs_44.set 2 (.ref p2))))] H := hP
  have hD : va_D A [(h0, .inr (10, (fs_44.set 2 (.ref p2))))] := hD
  have hF_45 := hF_43.set 2 (.ref p2) (l' := [(2, .ref p2), (1, .ref p1), (0, .ref p0), (14, .ref q_37), (13, .ref q_33), (12, .ref q_29), (11, .ref q_25), (10, .ref q_21), (9, .ref q_17), (8, .ref q_13), (7, .ref q_9), (6, .ref q_5), (4, .ref q_1), (5, .int 0), (15, .int 0), (16, .int 0)]) (by decide) rfl
  generalize fs_44.set 2 (.ref p2) = fs_46 at hP hD hF_45
  have hP : va_P (dC, dI) vwCl [(h0, .inr (10, fs_46))] H := hP
  have hD : va_D A [(h0, .inr (10, fs_46))] := hD
  refine lv_aload_n hx hb dX10_init_109 rfl (lv_at hl 0 rfl) ?_
  refine lv_aload hx hb dX10_init_110 (lv_at hl 4 rfl) ?_
  refine va_putF (D := (dC, dI)) (ci := 10) (v := .ref p3) (ty := (.object "NeedHouse$Types")) (C := RX10) (T := TX10) (N := 17) hx hb hts hin_X10 tyX10 tyX10_ok nmX10 hown hK hP hD hS 0 rfl rfl 3 (by decide) (hts (.fieldLink RX10 59 "NeedHouse$Typer" "types" "LNeedHouse$Types;") (List.mem_of_getElem? (i := 19) rfl)) (fun _ h9 => h9) rfl hin rfl (by decide +kernel) rfl rfl (by rw [hF_45.1]; decide) dX10_init_112 (fun H locs hP hD hS => ?_)
  have hP : va_P (dC, dI) vwCl [(h0, .inr (10, (fs_46.set 3 (.ref p3))))] H := hP
  have hD : va_D A [(h0, .inr (10, (fs_46.set 3 (.ref p3))))] := hD
  have hF_47 := hF_45.set 3 (.ref p3) (l' := [(3, .ref p3), (2, .ref p2), (1, .ref p1), (0, .ref p0), (14, .ref q_37), (13, .ref q_33), (12, .ref q_29), (11, .ref q_25), (10, .ref q_21), (9, .ref q_17), (8, .ref q_13), (7, .ref q_9), (6, .ref q_5), (4, .ref q_1), (5, .int 0), (15, .int 0), (16, .int 0)]) (by decide) rfl
  generalize fs_46.set 3 (.ref p3) = fs_48 at hP hD hF_47
  have hP : va_P (dC, dI) vwCl [(h0, .inr (10, fs_48))] H := hP
  have hD : va_D A [(h0, .inr (10, fs_48))] := hD
  have hP9 := hP.sub (ws' := [(h0, .inr (10, fs_48))]) [0] rfl
  have hD9 := hD.sub (ws' := [(h0, .inr (10, fs_48))]) [0] (by decide) rfl
  have hK9 := hK.sub (tys' := [(cI, .int), (cL, .long)]) [0, 1] rfl
  exact W.vret hx hb hr (fun t ht hW => ⟨⟨(fs_48), rfl, hF_47.sub [3, 2, 1, 0, 14, 15, 16] rfl, by rw [ht]; exact hP9, va_K.moved hW.alike hK9, hD9⟩, hS.F ht⟩) hS.2.2 dX10_init_115
def pw_c_X4_init : List Cond := .code yX4_init cX4_init 3 none :: ([.code objectInit ⟨#[0xb1]⟩ 1 none, .methodLink RX4 3 objectInit, .instanceMethod objectInit, .arrayClass .long, .fieldLink RX4 11 "NeedHouse$Needs" "free" "[J", .fieldLink RX4 15 "NeedHouse$Needs" "need" "[J", .fieldLink RX4 18 "NeedHouse$Needs" "strictOnes" "[J", .arrayClass .int, .fieldLink RX4 21 "NeedHouse$Needs" "freeFrom" "[I", .fieldLink RX4 25 "NeedHouse$Needs" "freeMany" "[I", .fieldLink RX4 28 "NeedHouse$Needs" "freeName" "[I", .fieldLink RX4 31 "NeedHouse$Needs" "cells" "[I", .fieldLink RX4 34 "NeedHouse$Needs" "thunks" "[I", .fieldLink RX4 37 "NeedHouse$Needs" "madeCells" "[I", .fieldLink RX4 40 "NeedHouse$Needs" "madeThunks" "[I", .fieldLink RX4 43 "NeedHouse$Needs" "tree" "LNeedHouse$Tree;", .fieldLink RX4 47 "NeedHouse$Needs" "told" "LNeedHouse$Told;"] ++ (wsX40 ++ []))
set_option maxHeartbeats 4000000 in
set_option maxRecDepth 100000 in
theorem c_X4_init (l : Launch) (dC : Nat → ClassId) (dI : Nat → Nat → Nat) (sz : Nat) (h0 : Nat) (fs : List Value) (cI : ClassId) (cL : ClassId) (p0 : Nat) (p1 : Nat) (hF : hasF fs 13 [(8, .int 0)]) : Met l yX4_init pw_c_X4_init ({ frames := 1, cells := 10, slots := 93711, locals := 12 }) (va_Pc [.ref h0, .ref p0, .ref p1] (fun U => U.heap.size = sz ∧ va_P (dC, dI) vwCl [(h0, .inr (4, fs))] U.heap ∧ va_K (dC, dI) vwCl [(cI, .int), (cL, .long)] U ∧ va_D (fun _ => True) [(h0, .inr (4, fs))])) (va_Qv (fun (u : (List Value)) => hasF u 13 [(0, .ref p0), (1, .ref p1), (8, .int 0)]) (fun (u : (List Value)) (t : State) => va_P (dC, dI) vwCl [(h0, .inr (4, u))] t.heap ∧ va_K (dC, dI) vwCl [(cI, .int), (cL, .long)] t ∧ va_D (va_A [(h0, .inr (4, fs))] sz) [(h0, .inr (4, u))]) (va_A [(h0, .inr (4, fs))] sz)) 10 93711 (va_A [(h0, .inr (4, fs))] sz) := by
  refine Met.ofW (cc := cX4_init) (maxL := 3) (ret := none) (by decide) rfl ?_
  intro p e s m args below meth c s₁ B hml hv
  obtain ⟨rfl, hsz, hP, hK, hD0⟩ := hv
  have hx := B.exec
  have hb := B.bytes
  have hr := B.returns
  have hts := atoms_spec (ws := pw_c_X4_init) B.pre
  have hown : s.vm.findClass RX4 = some m.cls := findClass_of_methodNamed B.named
  have hlocks := B.notSynchronized
  have hin : meth.name = "<init>" := (name_of_methodNamed B.named B.method).1
  have hin_X4 : ∀ w ∈ u_ws RX4 TX4 13, w ∈ pw_c_X4_init := fun w h => List.mem_cons_of_mem _ (List.mem_append_right _ (List.mem_append_left _ h))
  subst hsz
  have hD := hD0.self (sz := s.heap.size)
  generalize hAe : va_A [(h0, .inr (4, fs))] s.heap.size = A at hD ⊢
  have hA : ∀ q : Nat, s.heap.size ≤ q → A q := fun q h => by rw [← hAe]; exact Or.inr h
  have hS : va_S A s.heap s.heap [] := va_S.rf
  have hP : va_P (dC, dI) vwCl [(h0, .inr (4, fs))] s.heap := hP
  have hl := lv_entry ([.ref h0, .ref p0, .ref p1]) (n := 3) (Nat.le_of_ble_eq_true rfl)
  rw [lg_entry_eq]
  generalize (lg_sl ([.ref h0, .ref p0, .ref p1]) ++ List.replicate (3 - (lg_sl ([.ref h0, .ref p0, .ref p1])).length) Slot.unset).toArray = ls at hl ⊢
  have hl : lv_has ls 3 [(0, .ref h0), (1, .ref p0), (2, .ref p1)] := hl
  refine lv_aload_n hx hb dX4_init_0 rfl (lv_at hl 0 rfl) ?_
  refine W.objInit hx hb hown (hts (.methodLink RX4 3 objectInit) (List.mem_of_getElem? (i := 2) rfl)) (hts (.instanceMethod objectInit) (List.mem_of_getElem? (i := 3) rfl)) (hts _ (List.mem_of_getElem? (i := 1) rfl)) rfl (by rw [hml]; exact hl.1) rfl dX4_init_1 (Nat.le_of_ble_eq_true rfl) (Nat.le_of_ble_eq_true rfl) ?_
  refine W.eq (g2 := F0 m 4 ls []) rfl ?_
  refine lv_aload_n hx hb dX4_init_4 rfl (lv_at hl 0 rfl) ?_
  refine lv_sipush (v := 28005) hx hb dX4_init_5 (by decide) ?_
  refine va_newa (atype := .long) (a0 := (28005, .inr (.inl (fun _ => 0)))) hx hb (hts (.arrayClass .long) (List.mem_of_getElem? (i := 4) rfl)) (ty := .long) rfl hK hP hD hS hA (na_long 28005) (by decide) (by decide +kernel) (show 28005 * 8 ≤ 536870912 by decide) (show 0 + 1 ≤ 10 by decide) (show 0 + 28005 ≤ 93711 by decide) dX4_init_8 (fun q_1 cA_2 H hK hP hD hS => ?_)
  have hK : va_K (dC, dI) vwCl [(cI, .int), (cL, .long), (cA_2, .long)] s := hK
  obtain rfl := kU_long hK 1 2 rfl rfl
  have hK := hK.sub (tys' := [(cI, .int), (cL, .long)]) [0, 1] rfl
  have hP : va_P (dC, dI) vwCl [(h0, .inr (4, fs)), (q_1, .inl (cL, 28005, .inr (.inl (fun _ => 0))))] H := hP
  have hD : va_D A [(h0, .inr (4, fs)), (q_1, .inl (cL, 28005, .inr (.inl (fun _ => 0))))] := hD
  refine W.widen (k := 1) (n := 28005) (by decide) (by decide) ?_
  refine va_putF (D := (dC, dI)) (ci := 4) (v := .ref q_1) (ty := (.array .long)) (C := RX4) (T := TX4) (N := 13) hx hb hts hin_X4 tyX4 tyX4_ok nmX4 hown hK hP hD hS 0 rfl rfl 2 (by decide) (hts (.fieldLink RX4 11 "NeedHouse$Needs" "free" "[J") (List.mem_of_getElem? (i := 5) rfl)) (fun _ h9 => h9) rfl hin rfl (by decide +kernel) rfl rfl (by rw [hF.1]; decide) dX4_init_10 (fun H locs hP hD hS => ?_)
  have hP : va_P (dC, dI) vwCl [(h0, .inr (4, (fs.set 2 (.ref q_1)))), (q_1, .inl (cL, 28005, .inr (.inl (fun _ => 0))))] H := hP
  have hD : va_D A [(h0, .inr (4, (fs.set 2 (.ref q_1)))), (q_1, .inl (cL, 28005, .inr (.inl (fun _ => 0))))] := hD
  have hF_3 := hF.set 2 (.ref q_1) (l' := [(2, .ref q_1), (8, .int 0)]) (by decide) rfl
  generalize fs.set 2 (.ref q_1) = fs_4 at hP hD hF_3
  have hP : va_P (dC, dI) vwCl [(h0, .inr (4, fs_4)), (q_1, .inl (cL, 28005, .inr (.inl (fun _ => 0))))] H := hP
  have hD : va_D A [(h0, .inr (4, fs_4)), (q_1, .inl (cL, 28005, .inr (.inl (fun _ => 0))))] := hD
  have hP := hP.sub (ws' := [(h0, .inr (4, fs_4))]) [0] rfl
  have hD := hD.sub (ws' := [(h0, .inr (4, fs_4))]) [0] (by decide) rfl
  refine lv_aload_n hx hb dX4_init_13 rfl (lv_at hl 0 rfl) ?_
  refine lv_sipush (v := 28005) hx hb dX4_init_14 (by decide) ?_
  refine va_newa (atype := .long) (a0 := (28005, .inr (.inl (fun _ => 0)))) hx hb (hts (.arrayClass .long) (List.mem_of_getElem? (i := 4) rfl)) (ty := .long) rfl hK hP hD hS hA (na_long 28005) (by decide) (by decide +kernel) (show 28005 * 8 ≤ 536870912 by decide) (show 1 + 1 ≤ 10 by decide) (show 28005 + 28005 ≤ 93711 by decide) dX4_init_17 (fun q_5 cA_6 H hK hP hD hS => ?_)
  have hK : va_K (dC, dI) vwCl [(cI, .int), (cL, .long), (cA_6, .long)] s := hK
  obtain rfl := kU_long hK 1 2 rfl rfl
  have hK := hK.sub (tys' := [(cI, .int), (cL, .long)]) [0, 1] rfl
  have hP : va_P (dC, dI) vwCl [(h0, .inr (4, fs_4)), (q_5, .inl (cL, 28005, .inr (.inl (fun _ => 0))))] H := hP
  have hD : va_D A [(h0, .inr (4, fs_4)), (q_5, .inl (cL, 28005, .inr (.inl (fun _ => 0))))] := hD
  refine W.widen (k := 2) (n := 56010) (by decide) (by decide) ?_
  refine va_putF (D := (dC, dI)) (ci := 4) (v := .ref q_5) (ty := (.array .long)) (C := RX4) (T := TX4) (N := 13) hx hb hts hin_X4 tyX4 tyX4_ok nmX4 hown hK hP hD hS 0 rfl rfl 3 (by decide) (hts (.fieldLink RX4 15 "NeedHouse$Needs" "need" "[J") (List.mem_of_getElem? (i := 6) rfl)) (fun _ h9 => h9) rfl hin rfl (by decide +kernel) rfl rfl (by rw [hF_3.1]; decide) dX4_init_19 (fun H locs hP hD hS => ?_)
  have hP : va_P (dC, dI) vwCl [(h0, .inr (4, (fs_4.set 3 (.ref q_5)))), (q_5, .inl (cL, 28005, .inr (.inl (fun _ => 0))))] H := hP
  have hD : va_D A [(h0, .inr (4, (fs_4.set 3 (.ref q_5)))), (q_5, .inl (cL, 28005, .inr (.inl (fun _ => 0))))] := hD
  have hF_7 := hF_3.set 3 (.ref q_5) (l' := [(3, .ref q_5), (2, .ref q_1), (8, .int 0)]) (by decide) rfl
  generalize fs_4.set 3 (.ref q_5) = fs_8 at hP hD hF_7
  have hP : va_P (dC, dI) vwCl [(h0, .inr (4, fs_8)), (q_5, .inl (cL, 28005, .inr (.inl (fun _ => 0))))] H := hP
  have hD : va_D A [(h0, .inr (4, fs_8)), (q_5, .inl (cL, 28005, .inr (.inl (fun _ => 0))))] := hD
  have hP := hP.sub (ws' := [(h0, .inr (4, fs_8))]) [0] rfl
  have hD := hD.sub (ws' := [(h0, .inr (4, fs_8))]) [0] (by decide) rfl
  refine lv_aload_n hx hb dX4_init_22 rfl (lv_at hl 0 rfl) ?_
  refine lv_iconst (v := 5) hx hb dX4_init_23 (by decide) ?_
  refine va_newa (atype := .long) (a0 := (5, .inr (.inl (fun _ => 0)))) hx hb (hts (.arrayClass .long) (List.mem_of_getElem? (i := 4) rfl)) (ty := .long) rfl hK hP hD hS hA (na_long 5) (by decide) (by decide +kernel) (show 5 * 8 ≤ 536870912 by decide) (show 2 + 1 ≤ 10 by decide) (show 56010 + 5 ≤ 93711 by decide) dX4_init_24 (fun q_9 cA_10 H hK hP hD hS => ?_)
  have hK : va_K (dC, dI) vwCl [(cI, .int), (cL, .long), (cA_10, .long)] s := hK
  obtain rfl := kU_long hK 1 2 rfl rfl
  have hK := hK.sub (tys' := [(cI, .int), (cL, .long)]) [0, 1] rfl
  have hP : va_P (dC, dI) vwCl [(h0, .inr (4, fs_8)), (q_9, .inl (cL, 5, .inr (.inl (fun _ => 0))))] H := hP
  have hD : va_D A [(h0, .inr (4, fs_8)), (q_9, .inl (cL, 5, .inr (.inl (fun _ => 0))))] := hD
  refine W.widen (k := 3) (n := 56015) (by decide) (by decide) ?_
  refine va_putF (D := (dC, dI)) (ci := 4) (v := .ref q_9) (ty := (.array .long)) (C := RX4) (T := TX4) (N := 13) hx hb hts hin_X4 tyX4 tyX4_ok nmX4 hown hK hP hD hS 0 rfl rfl 4 (by decide) (hts (.fieldLink RX4 18 "NeedHouse$Needs" "strictOnes" "[J") (List.mem_of_getElem? (i := 7) rfl)) (fun _ h9 => h9) rfl hin rfl (by decide +kernel) rfl rfl (by rw [hF_7.1]; decide) dX4_init_26 (fun H locs hP hD hS => ?_)
  have hP : va_P (dC, dI) vwCl [(h0, .inr (4, (fs_8.set 4 (.ref q_9)))), (q_9, .inl (cL, 5, .inr (.inl (fun _ => 0))))] H := hP
  have hD : va_D A [(h0, .inr (4, (fs_8.set 4 (.ref q_9)))), (q_9, .inl (cL, 5, .inr (.inl (fun _ => 0))))] := hD
  have hF_11 := hF_7.set 4 (.ref q_9) (l' := [(4, .ref q_9), (3, .ref q_5), (2, .ref q_1), (8, .int 0)]) (by decide) rfl
  generalize fs_8.set 4 (.ref q_9) = fs_12 at hP hD hF_11
  have hP : va_P (dC, dI) vwCl [(h0, .inr (4, fs_12)), (q_9, .inl (cL, 5, .inr (.inl (fun _ => 0))))] H := hP
  have hD : va_D A [(h0, .inr (4, fs_12)), (q_9, .inl (cL, 5, .inr (.inl (fun _ => 0))))] := hD
  have hP := hP.sub (ws' := [(h0, .inr (4, fs_12))]) [0] rfl
  have hD := hD.sub (ws' := [(h0, .inr (4, fs_12))]) [0] (by decide) rfl
  refine lv_aload_n hx hb dX4_init_29 rfl (lv_at hl 0 rfl) ?_
  refine lv_sipush (v := 5600) hx hb dX4_init_30 (by decide) ?_
  refine va_newa (atype := .int) (a0 := (5600, .inl (fun _ => 0))) hx hb (hts (.arrayClass .int) (List.mem_of_getElem? (i := 8) rfl)) (ty := .int) rfl hK hP hD hS hA (na_int 5600) (by decide) (by decide +kernel) (show 5600 * 4 ≤ 536870912 by decide) (show 3 + 1 ≤ 10 by decide) (show 56015 + 5600 ≤ 93711 by decide) dX4_init_33 (fun q_13 cA_14 H hK hP hD hS => ?_)
  have hK : va_K (dC, dI) vwCl [(cI, .int), (cL, .long), (cA_14, .int)] s := hK
  obtain rfl := kU_int hK 0 2 rfl rfl
  have hK := hK.sub (tys' := [(cI, .int), (cL, .long)]) [0, 1] rfl
  have hP : va_P (dC, dI) vwCl [(h0, .inr (4, fs_12)), (q_13, .inl (cI, 5600, .inl (fun _ => 0)))] H := hP
  have hD : va_D A [(h0, .inr (4, fs_12)), (q_13, .inl (cI, 5600, .inl (fun _ => 0)))] := hD
  refine W.widen (k := 4) (n := 61615) (by decide) (by decide) ?_
  refine va_putF (D := (dC, dI)) (ci := 4) (v := .ref q_13) (ty := (.array .int)) (C := RX4) (T := TX4) (N := 13) hx hb hts hin_X4 tyX4 tyX4_ok nmX4 hown hK hP hD hS 0 rfl rfl 5 (by decide) (hts (.fieldLink RX4 21 "NeedHouse$Needs" "freeFrom" "[I") (List.mem_of_getElem? (i := 9) rfl)) (fun _ h9 => h9) rfl hin rfl (by decide +kernel) rfl rfl (by rw [hF_11.1]; decide) dX4_init_35 (fun H locs hP hD hS => ?_)
  have hP : va_P (dC, dI) vwCl [(h0, .inr (4, (fs_12.set 5 (.ref q_13)))), (q_13, .inl (cI, 5600, .inl (fun _ => 0)))] H := hP
  have hD : va_D A [(h0, .inr (4, (fs_12.set 5 (.ref q_13)))), (q_13, .inl (cI, 5600, .inl (fun _ => 0)))] := hD
  have hF_15 := hF_11.set 5 (.ref q_13) (l' := [(5, .ref q_13), (4, .ref q_9), (3, .ref q_5), (2, .ref q_1), (8, .int 0)]) (by decide) rfl
  generalize fs_12.set 5 (.ref q_13) = fs_16 at hP hD hF_15
  have hP : va_P (dC, dI) vwCl [(h0, .inr (4, fs_16)), (q_13, .inl (cI, 5600, .inl (fun _ => 0)))] H := hP
  have hD : va_D A [(h0, .inr (4, fs_16)), (q_13, .inl (cI, 5600, .inl (fun _ => 0)))] := hD
  have hP := hP.sub (ws' := [(h0, .inr (4, fs_16))]) [0] rfl
  have hD := hD.sub (ws' := [(h0, .inr (4, fs_16))]) [0] (by decide) rfl
  refine lv_aload_n hx hb dX4_init_38 rfl (lv_at hl 0 rfl) ?_
  refine lv_sipush (v := 5600) hx hb dX4_init_39 (by decide) ?_
  refine va_newa (atype := .int) (a0 := (5600, .inl (fun _ => 0))) hx hb (hts (.arrayClass .int) (List.mem_of_getElem? (i := 8) rfl)) (ty := .int) rfl hK hP hD hS hA (na_int 5600) (by decide) (by decide +kernel) (show 5600 * 4 ≤ 536870912 by decide) (show 4 + 1 ≤ 10 by decide) (show 61615 + 5600 ≤ 93711 by decide) dX4_init_42 (fun q_17 cA_18 H hK hP hD hS => ?_)
  have hK : va_K (dC, dI) vwCl [(cI, .int), (cL, .long), (cA_18, .int)] s := hK
  obtain rfl := kU_int hK 0 2 rfl rfl
  have hK := hK.sub (tys' := [(cI, .int), (cL, .long)]) [0, 1] rfl
  have hP : va_P (dC, dI) vwCl [(h0, .inr (4, fs_16)), (q_17, .inl (cI, 5600, .inl (fun _ => 0)))] H := hP
  have hD : va_D A [(h0, .inr (4, fs_16)), (q_17, .inl (cI, 5600, .inl (fun _ => 0)))] := hD
  refine W.widen (k := 5) (n := 67215) (by decide) (by decide) ?_
  refine va_putF (D := (dC, dI)) (ci := 4) (v := .ref q_17) (ty := (.array .int)) (C := RX4) (T := TX4) (N := 13) hx hb hts hin_X4 tyX4 tyX4_ok nmX4 hown hK hP hD hS 0 rfl rfl 6 (by decide) (hts (.fieldLink RX4 25 "NeedHouse$Needs" "freeMany" "[I") (List.mem_of_getElem? (i := 10) rfl)) (fun _ h9 => h9) rfl hin rfl (by decide +kernel) rfl rfl (by rw [hF_15.1]; decide) dX4_init_44 (fun H locs hP hD hS => ?_)
  have hP : va_P (dC, dI) vwCl [(h0, .inr (4, (fs_16.set 6 (.ref q_17)))), (q_17, .inl (cI, 5600, .inl (fun _ => 0)))] H := hP
  have hD : va_D A [(h0, .inr (4, (fs_16.set 6 (.ref q_17)))), (q_17, .inl (cI, 5600, .inl (fun _ => 0)))] := hD
  have hF_19 := hF_15.set 6 (.ref q_17) (l' := [(6, .ref q_17), (5, .ref q_13), (4, .ref q_9), (3, .ref q_5), (2, .ref q_1), (8, .int 0)]) (by decide) rfl
  generalize fs_16.set 6 (.ref q_17) = fs_20 at hP hD hF_19
  have hP : va_P (dC, dI) vwCl [(h0, .inr (4, fs_20)), (q_17, .inl (cI, 5600, .inl (fun _ => 0)))] H := hP
  have hD : va_D A [(h0, .inr (4, fs_20)), (q_17, .inl (cI, 5600, .inl (fun _ => 0)))] := hD
  have hP := hP.sub (ws' := [(h0, .inr (4, fs_20))]) [0] rfl
  have hD := hD.sub (ws' := [(h0, .inr (4, fs_20))]) [0] (by decide) rfl
  refine lv_aload_n hx hb dX4_init_47 rfl (lv_at hl 0 rfl) ?_
  refine lv_sipush (v := 4096) hx hb dX4_init_48 (by decide) ?_
  refine va_newa (atype := .int) (a0 := (4096, .inl (fun _ => 0))) hx hb (hts (.arrayClass .int) (List.mem_of_getElem? (i := 8) rfl)) (ty := .int) rfl hK hP hD hS hA (na_int 4096) (by decide) (by decide +kernel) (show 4096 * 4 ≤ 536870912 by decide) (show 5 + 1 ≤ 10 by decide) (show 67215 + 4096 ≤ 93711 by decide) dX4_init_51 (fun q_21 cA_22 H hK hP hD hS => ?_)
  have hK : va_K (dC, dI) vwCl [(cI, .int), (cL, .long), (cA_22, .int)] s := hK
  obtain rfl := kU_int hK 0 2 rfl rfl
  have hK := hK.sub (tys' := [(cI, .int), (cL, .long)]) [0, 1] rfl
  have hP : va_P (dC, dI) vwCl [(h0, .inr (4, fs_20)), (q_21, .inl (cI, 4096, .inl (fun _ => 0)))] H := hP
  have hD : va_D A [(h0, .inr (4, fs_20)), (q_21, .inl (cI, 4096, .inl (fun _ => 0)))] := hD
  refine W.widen (k := 6) (n := 71311) (by decide) (by decide) ?_
  refine va_put (D := (dC, dI)) (ci := 4) (v := .ref q_21) (ty := (.array .int)) (C := RX4) (T := TX4) (N := 13) hx hb hts hin_X4 tyX4 tyX4_ok nmX4 hown hK hP hD hS 0 rfl rfl 7 (by decide) (hts (.fieldLink RX4 28 "NeedHouse$Needs" "freeName" "[I") (List.mem_of_getElem? (i := 11) rfl)) (fun _ h9 => h9) rfl (by decide +kernel) rfl rfl (by rw [hF_19.1]; decide) dX4_init_53 (fun H locs hP hD hS => ?_)
  have hP : va_P (dC, dI) vwCl [(h0, .inr (4, (fs_20.set 7 (.ref q_21)))), (q_21, .inl (cI, 4096, .inl (fun _ => 0)))] H := hP
  have hD : va_D A [(h0, .inr (4, (fs_20.set 7 (.ref q_21)))), (q_21, .inl (cI, 4096, .inl (fun _ => 0)))] := hD
  have hF_23 := hF_19.set 7 (.ref q_21) (l' := [(7, .ref q_21), (6, .ref q_17), (5, .ref q_13), (4, .ref q_9), (3, .ref q_5), (2, .ref q_1), (8, .int 0)]) (by decide) rfl
  generalize fs_20.set 7 (.ref q_21) = fs_24 at hP hD hF_23
  have hP : va_P (dC, dI) vwCl [(h0, .inr (4, fs_24)), (q_21, .inl (cI, 4096, .inl (fun _ => 0)))] H := hP
  have hD : va_D A [(h0, .inr (4, fs_24)), (q_21, .inl (cI, 4096, .inl (fun _ => 0)))] := hD
  have hP := hP.sub (ws' := [(h0, .inr (4, fs_24))]) [0] rfl
  have hD := hD.sub (ws' := [(h0, .inr (4, fs_24))]) [0] (by decide) rfl
  refine lv_aload_n hx hb dX4_init_56 rfl (lv_at hl 0 rfl) ?_
  refine lv_sipush (v := 5600) hx hb dX4_init_57 (by decide) ?_
  refine va_newa (atype := .int) (a0 := (5600, .inl (fun _ => 0))) hx hb (hts (.arrayClass .int) (List.mem_of_getElem? (i := 8) rfl)) (ty := .int) rfl hK hP hD hS hA (na_int 5600) (by decide) (by decide +kernel) (show 5600 * 4 ≤ 536870912 by decide) (show 6 + 1 ≤ 10 by decide) (show 71311 + 5600 ≤ 93711 by decide) dX4_init_60 (fun q_25 cA_26 H hK hP hD hS => ?_)
  have hK : va_K (dC, dI) vwCl [(cI, .int), (cL, .long), (cA_26, .int)] s := hK
  obtain rfl := kU_int hK 0 2 rfl rfl
  have hK := hK.sub (tys' := [(cI, .int), (cL, .long)]) [0, 1] rfl
  have hP : va_P (dC, dI) vwCl [(h0, .inr (4, fs_24)), (q_25, .inl (cI, 5600, .inl (fun _ => 0)))] H := hP
  have hD : va_D A [(h0, .inr (4, fs_24)), (q_25, .inl (cI, 5600, .inl (fun _ => 0)))] := hD
  refine W.widen (k := 7) (n := 76911) (by decide) (by decide) ?_
  refine va_putF (D := (dC, dI)) (ci := 4) (v := .ref q_25) (ty := (.array .int)) (C := RX4) (T := TX4) (N := 13) hx hb hts hin_X4 tyX4 tyX4_ok nmX4 hown hK hP hD hS 0 rfl rfl 9 (by decide) (hts (.fieldLink RX4 31 "NeedHouse$Needs" "cells" "[I") (List.mem_of_getElem? (i := 12) rfl)) (fun _ h9 => h9) rfl hin rfl (by decide +kernel) rfl rfl (by rw [hF_23.1]; decide) dX4_init_62 (fun H locs hP hD hS => ?_)
  have hP : va_P (dC, dI) vwCl [(h0, .inr (4, (fs_24.set 9 (.ref q_25)))), (q_25, .inl (cI, 5600, .inl (fun _ => 0)))] H := hP
  have hD : va_D A [(h0, .inr (4, (fs_24.set 9 (.ref q_25)))), (q_25, .inl (cI, 5600, .inl (fun _ => 0)))] := hD
  have hF_27 := hF_23.set 9 (.ref q_25) (l' := [(9, .ref q_25), (7, .ref q_21), (6, .ref q_17), (5, .ref q_13), (4, .ref q_9), (3, .ref q_5), (2, .ref q_1), (8, .int 0)]) (by decide) rfl
  generalize fs_24.set 9 (.ref q_25) = fs_28 at hP hD hF_27
  have hP : va_P (dC, dI) vwCl [(h0, .inr (4, fs_28)), (q_25, .inl (cI, 5600, .inl (fun _ => 0)))] H := hP
  have hD : va_D A [(h0, .inr (4, fs_28)), (q_25, .inl (cI, 5600, .inl (fun _ => 0)))] := hD
  have hP := hP.sub (ws' := [(h0, .inr (4, fs_28))]) [0] rfl
  have hD := hD.sub (ws' := [(h0, .inr (4, fs_28))]) [0] (by decide) rfl
  refine lv_aload_n hx hb dX4_init_65 rfl (lv_at hl 0 rfl) ?_
  refine lv_sipush (v := 5600) hx hb dX4_init_66 (by decide) ?_
  refine va_newa (atype := .int) (a0 := (5600, .inl (fun _ => 0))) hx hb (hts (.arrayClass .int) (List.mem_of_getElem? (i := 8) rfl)) (ty := .int) rfl hK hP hD hS hA (na_int 5600) (by decide) (by decide +kernel) (show 5600 * 4 ≤ 536870912 by decide) (show 7 + 1 ≤ 10 by decide) (show 76911 + 5600 ≤ 93711 by decide) dX4_init_69 (fun q_29 cA_30 H hK hP hD hS => ?_)
  have hK : va_K (dC, dI) vwCl [(cI, .int), (cL, .long), (cA_30, .int)] s := hK
  obtain rfl := kU_int hK 0 2 rfl rfl
  have hK := hK.sub (tys' := [(cI, .int), (cL, .long)]) [0, 1] rfl
  have hP : va_P (dC, dI) vwCl [(h0, .inr (4, fs_28)), (q_29, .inl (cI, 5600, .inl (fun _ => 0)))] H := hP
  have hD : va_D A [(h0, .inr (4, fs_28)), (q_29, .inl (cI, 5600, .inl (fun _ => 0)))] := hD
  refine W.widen (k := 8) (n := 82511) (by decide) (by decide) ?_
  refine va_putF (D := (dC, dI)) (ci := 4) (v := .ref q_29) (ty := (.array .int)) (C := RX4) (T := TX4) (N := 13) hx hb hts hin_X4 tyX4 tyX4_ok nmX4 hown hK hP hD hS 0 rfl rfl 10 (by decide) (hts (.fieldLink RX4 34 "NeedHouse$Needs" "thunks" "[I") (List.mem_of_getElem? (i := 13) rfl)) (fun _ h9 => h9) rfl hin rfl (by decide +kernel) rfl rfl (by rw [hF_27.1]; decide) dX4_init_71 (fun H locs hP hD hS => ?_)
  have hP : va_P (dC, dI) vwCl [(h0, .inr (4, (fs_28.set 10 (.ref q_29)))), (q_29, .inl (cI, 5600, .inl (fun _ => 0)))] H := hP
  have hD : va_D A [(h0, .inr (4, (fs_28.set 10 (.ref q_29)))), (q_29, .inl (cI, 5600, .inl (fun _ => 0)))] := hD
  have hF_31 := hF_27.set 10 (.ref q_29) (l' := [(10, .ref q_29), (9, .ref q_25), (7, .ref q_21), (6, .ref q_17), (5, .ref q_13), (4, .ref q_9), (3, .ref q_5), (2, .ref q_1), (8, .int 0)]) (by decide) rfl
  generalize fs_28.set 10 (.ref q_29) = fs_32 at hP hD hF_31
  have hP : va_P (dC, dI) vwCl [(h0, .inr (4, fs_32)), (q_29, .inl (cI, 5600, .inl (fun _ => 0)))] H := hP
  have hD : va_D A [(h0, .inr (4, fs_32)), (q_29, .inl (cI, 5600, .inl (fun _ => 0)))] := hD
  have hP := hP.sub (ws' := [(h0, .inr (4, fs_32))]) [0] rfl
  have hD := hD.sub (ws' := [(h0, .inr (4, fs_32))]) [0] (by decide) rfl
  refine lv_aload_n hx hb dX4_init_74 rfl (lv_at hl 0 rfl) ?_
  refine lv_sipush (v := 5600) hx hb dX4_init_75 (by decide) ?_
  refine va_newa (atype := .int) (a0 := (5600, .inl (fun _ => 0))) hx hb (hts (.arrayClass .int) (List.mem_of_getElem? (i := 8) rfl)) (ty := .int) rfl hK hP hD hS hA (na_int 5600) (by decide) (by decide +kernel) (show 5600 * 4 ≤ 536870912 by decide) (show 8 + 1 ≤ 10 by decide) (show 82511 + 5600 ≤ 93711 by decide) dX4_init_78 (fun q_33 cA_34 H hK hP hD hS => ?_)
  have hK : va_K (dC, dI) vwCl [(cI, .int), (cL, .long), (cA_34, .int)] s := hK
  obtain rfl := kU_int hK 0 2 rfl rfl
  have hK := hK.sub (tys' := [(cI, .int), (cL, .long)]) [0, 1] rfl
  have hP : va_P (dC, dI) vwCl [(h0, .inr (4, fs_32)), (q_33, .inl (cI, 5600, .inl (fun _ => 0)))] H := hP
  have hD : va_D A [(h0, .inr (4, fs_32)), (q_33, .inl (cI, 5600, .inl (fun _ => 0)))] := hD
  refine W.widen (k := 9) (n := 88111) (by decide) (by decide) ?_
  refine va_putF (D := (dC, dI)) (ci := 4) (v := .ref q_33) (ty := (.array .int)) (C := RX4) (T := TX4) (N := 13) hx hb hts hin_X4 tyX4 tyX4_ok nmX4 hown hK hP hD hS 0 rfl rfl 11 (by decide) (hts (.fieldLink RX4 37 "NeedHouse$Needs" "madeCells" "[I") (List.mem_of_getElem? (i := 14) rfl)) (fun _ h9 => h9) rfl hin rfl (by decide +kernel) rfl rfl (by rw [hF_31.1]; decide) dX4_init_80 (fun H locs hP hD hS => ?_)
  have hP : va_P (dC, dI) vwCl [(h0, .inr (4, (fs_32.set 11 (.ref q_33)))), (q_33, .inl (cI, 5600, .inl (fun _ => 0)))] H := hP
  have hD : va_D A [(h0, .inr (4, (fs_32.set 11 (.ref q_33)))), (q_33, .inl (cI, 5600, .inl (fun _ => 0)))] := hD
  have hF_35 := hF_31.set 11 (.ref q_33) (l' := [(11, .ref q_33), (10, .ref q_29), (9, .ref q_25), (7, .ref q_21), (6, .ref q_17), (5, .ref q_13), (4, .ref q_9), (3, .ref q_5), (2, .ref q_1), (8, .int 0)]) (by decide) rfl
  generalize fs_32.set 11 (.ref q_33) = fs_36 at hP hD hF_35
  have hP : va_P (dC, dI) vwCl [(h0, .inr (4, fs_36)), (q_33, .inl (cI, 5600, .inl (fun _ => 0)))] H := hP
  have hD : va_D A [(h0, .inr (4, fs_36)), (q_33, .inl (cI, 5600, .inl (fun _ => 0)))] := hD
  have hP := hP.sub (ws' := [(h0, .inr (4, fs_36))]) [0] rfl
  have hD := hD.sub (ws' := [(h0, .inr (4, fs_36))]) [0] (by decide) rfl
  refine lv_aload_n hx hb dX4_init_83 rfl (lv_at hl 0 rfl) ?_
  refine lv_sipush (v := 5600) hx hb dX4_init_84 (by decide) ?_
  refine va_newa (atype := .int) (a0 := (5600, .inl (fun _ => 0))) hx hb (hts (.arrayClass .int) (List.mem_of_getElem? (i := 8) rfl)) (ty := .int) rfl hK hP hD hS hA (na_int 5600) (by decide) (by decide +kernel) (show 5600 * 4 ≤ 536870912 by decide) (show 9 + 1 ≤ 10 by decide) (show 88111 + 5600 ≤ 93711 by decide) dX4_init_87 (fun q_37 cA_38 H hK hP hD hS => ?_)
  have hK : va_K (dC, dI) vwCl [(cI, .int), (cL, .long), (cA_38, .int)] s := hK
  obtain rfl := kU_int hK 0 2 rfl rfl
  have hK := hK.sub (tys' := [(cI, .int), (cL, .long)]) [0, 1] rfl
  have hP : va_P (dC, dI) vwCl [(h0, .inr (4, fs_36)), (q_37, .inl (cI, 5600, .inl (fun _ => 0)))] H := hP
  have hD : va_D A [(h0, .inr (4, fs_36)), (q_37, .inl (cI, 5600, .inl (fun _ => 0)))] := hD
  refine W.widen (k := 10) (n := 93711) (by decide) (by decide) ?_
  refine va_putF (D := (dC, dI)) (ci := 4) (v := .ref q_37) (ty := (.array .int)) (C := RX4) (T := TX4) (N := 13) hx hb hts hin_X4 tyX4 tyX4_ok nmX4 hown hK hP hD hS 0 rfl rfl 12 (by decide) (hts (.fieldLink RX4 40 "NeedHouse$Needs" "madeThunks" "[I") (List.mem_of_getElem? (i := 15) rfl)) (fun _ h9 => h9) rfl hin rfl (by decide +kernel) rfl rfl (by rw [hF_35.1]; decide) dX4_init_89 (fun H locs hP hD hS => ?_)
  have hP : va_P (dC, dI) vwCl [(h0, .inr (4, (fs_36.set 12 (.ref q_37)))), (q_37, .inl (cI, 5600, .inl (fun _ => 0)))] H := hP
  have hD : va_D A [(h0, .inr (4, (fs_36.set 12 (.ref q_37)))), (q_37, .inl (cI, 5600, .inl (fun _ => 0)))] := hD
  have hF_39 := hF_35.set 12 (.ref q_37) (l' := [(12, .ref q_37), (11, .ref q_33), (10, .ref q_29), (9, .ref q_25), (7, .ref q_21), (6, .ref q_17), (5, .ref q_13), (4, .ref q_9), (3, .ref q_5), (2, .ref q_1), (8, .int 0)]) (by decide) rfl
  generalize fs_36.set 12 (.ref q_37) = fs_40 at hP hD hF_39
  have hP : va_P (dC, dI) vwCl [(h0, .inr (4, fs_40)), (q_37, .inl (cI, 5600, .inl (fun _ => 0)))] H := hP
  have hD : va_D A [(h0, .inr (4, fs_40)), (q_37, .inl (cI, 5600, .inl (fun _ => 0)))] := hD
  have hP := hP.sub (ws' := [(h0, .inr (4, fs_40))]) [0] rfl
  have hD := hD.sub (ws' := [(h0, .inr (4, fs_40))]) [0] (by decide) rfl
  refine lv_aload_n hx hb dX4_init_92 rfl (lv_at hl 0 rfl) ?_
  refine lv_aload_n hx hb dX4_init_93 rfl (lv_at hl 1 rfl) ?_
  refine va_putF (D := (dC, dI)) (ci := 4) (v := .ref p0) (ty := (.object "NeedHouse$Tree")) (C := RX4) (T := TX4) (N := 13) hx hb hts hin_X4 tyX4 tyX4_ok nmX4 hown hK hP hD hS 0 rfl rfl 0 (by decide) (hts (.fieldLink RX4 43 "NeedHouse$Needs" "tree" "LNeedHouse$Tree;") (List.mem_of_getElem? (i := 16) rfl)) (fun _ h9 => h9) rfl hin rfl (by decide +kernel) rfl rfl (by rw [hF_39.1]; decide) dX4_init_94 (fun H locs hP hD hS => ?_)
  have hP : va_P (dC, dI) vwCl [(h0, .inr (4, (fs_40.set 0 (.ref p0))))] H := hP
  have hD : va_D A [(h0, .inr (4, (fs_40.set 0 (.ref p0))))] := hD
  have hF_41 := hF_39.set 0 (.ref p0) (l' := [(0, .ref p0), (12, .ref q_37), (11, .ref q_33), (10, .ref q_29), (9, .ref q_25), (7, .ref q_21), (6, .ref q_17), (5, .ref q_13), (4, .ref q_9), (3, .ref q_5), (2, .ref q_1), (8, .int 0)]) (by decide) rfl
  generalize fs_40.set 0 (.ref p0) = fs_42 at hP hD hF_41
  have hP : va_P (dC, dI) vwCl [(h0, .inr (4, fs_42))] H := hP
  have hD : va_D A [(h0, .inr (4, fs_42))] := hD
  refine lv_aload_n hx hb dX4_init_97 rfl (lv_at hl 0 rfl) ?_
  refine lv_aload_n hx hb dX4_init_98 rfl (lv_at hl 2 rfl) ?_
  refine va_putF (D := (dC, dI)) (ci := 4) (v := .ref p1) (ty := (.object "NeedHouse$Told")) (C := RX4) (T := TX4) (N := 13) hx hb hts hin_X4 tyX4 tyX4_ok nmX4 hown hK hP hD hS 0 rfl rfl 1 (by decide) (hts (.fieldLink RX4 47 "NeedHouse$Needs" "told" "LNeedHouse$Told;") (List.mem_of_getElem? (i := 17) rfl)) (fun _ h9 => h9) rfl hin rfl (by decide +kernel) rfl rfl (by rw [hF_41.1]; decide) dX4_init_99 (fun H locs hP hD hS => ?_)
  have hP : va_P (dC, dI) vwCl [(h0, .inr (4, (fs_42.set 1 (.ref p1))))] H := hP
  have hD : va_D A [(h0, .inr (4, (fs_42.set 1 (.ref p1))))] := hD
  have hF_43 := hF_41.set 1 (.ref p1) (l' := [(1, .ref p1), (0, .ref p0), (12, .ref q_37), (11, .ref q_33), (10, .ref q_29), (9, .ref q_25), (7, .ref q_21), (6, .ref q_17), (5, .ref q_13), (4, .ref q_9), (3, .ref q_5), (2, .ref q_1), (8, .int 0)]) (by decide) rfl
  generalize fs_42.set 1 (.ref p1) = fs_44 at hP hD hF_43
  have hP : va_P (dC, dI) vwCl [(h0, .inr (4, fs_44))] H := hP
  have hD : va_D A [(h0, .inr (4, fs_44))] := hD
  have hP9 := hP.sub (ws' := [(h0, .inr (4, fs_44))]) [0] rfl
  have hD9 := hD.sub (ws' := [(h0, .inr (4, fs_44))]) [0] (by decide) rfl
  have hK9 := hK.sub (tys' := [(cI, .int), (cL, .long)]) [0, 1] rfl
  exact W.vret hx hb hr (fun t ht hW => ⟨⟨(fs_44), rfl, hF_43.sub [1, 0, 12] rfl, by rw [ht]; exact hP9, va_K.moved hW.alike hK9, hD9⟩, hS.F ht⟩) hS.2.2 dX4_init_102
def pw_c_X7_init : List Cond := .code yX7_init cX7_init 5 none :: ([.code objectInit ⟨#[0xb1]⟩ 1 none, .methodLink RX7 3 objectInit, .instanceMethod objectInit, .arrayClass .long, .fieldLink RX7 11 "NeedHouse$Store" "heap" "[J", .fieldLink RX7 15 "NeedHouse$Store" "spare" "[J", .fieldLink RX7 20 "NeedHouse$Store" "variable" "[J", .fieldLink RX7 23 "NeedHouse$Store" "argument" "[J", .arrayClass .int, .fieldLink RX7 26 "NeedHouse$Store" "frame" "[I", .fieldLink RX7 30 "NeedHouse$Store" "frameFrom" "[I", .fieldLink RX7 33 "NeedHouse$Store" "saved" "[J", .fieldLink RX7 36 "NeedHouse$Store" "globalState" "[I", .fieldLink RX7 39 "NeedHouse$Store" "globalValue" "[J", .fieldLink RX7 42 "NeedHouse$Store" "unfilled" "[I", .fieldLink RX7 45 "NeedHouse$Store" "tree" "LNeedHouse$Tree;", .fieldLink RX7 49 "NeedHouse$Store" "told" "LNeedHouse$Told;", .fieldLink RX7 53 "NeedHouse$Store" "datas" "LNeedHouse$Datas;", .fieldLink RX7 57 "NeedHouse$Store" "needs" "LNeedHouse$Needs;"] ++ (wsX70 ++ []))
set_option maxHeartbeats 4000000 in
set_option maxRecDepth 100000 in
theorem c_X7_init (l : Launch) (dC : Nat → ClassId) (dI : Nat → Nat → Nat) (sz : Nat) (h0 : Nat) (fs : List Value) (cI : ClassId) (cL : ClassId) (p0 : Nat) (p1 : Nat) (p2 : Nat) (p3 : Nat) (hF : hasF fs 22 [(6, .int 0), (7, .int 0), (10, .int 0), (13, .int 0), (15, .int 0), (19, .int 0), (20, .int 0), (21, .long 0)]) : Met l yX7_init pw_c_X7_init ({ frames := 1, cells := 10, slots := 26628, locals := 12 }) (va_Pc [.ref h0, .ref p0, .ref p1, .ref p2, .ref p3] (fun U => U.heap.size = sz ∧ va_P (dC, dI) vwCl [(h0, .inr (7, fs))] U.heap ∧ va_K (dC, dI) vwCl [(cI, .int), (cL, .long)] U ∧ va_D (fun _ => True) [(h0, .inr (7, fs))])) (va_Qv (fun (u : (List Value)) => hasF u 22 [(0, .ref p0), (1, .ref p1), (2, .ref p2), (3, .ref p3), (6, .int 0), (7, .int 0), (10, .int 0), (13, .int 0), (15, .int 0), (19, .int 0), (20, .int 0), (21, .long 0)]) (fun (u : (List Value)) (t : State) => va_P (dC, dI) vwCl [(h0, .inr (7, u))] t.heap ∧ va_K (dC, dI) vwCl [(cI, .int), (cL, .long)] t ∧ va_D (va_A [(h0, .inr (7, fs))] sz) [(h0, .inr (7, u))]) (va_A [(h0, .inr (7, fs))] sz)) 10 26628 (va_A [(h0, .inr (7, fs))] sz) := by
  refine Met.ofW (cc := cX7_init) (maxL := 5) (ret := none) (by decide) rfl ?_
  intro p e s m args below meth c s₁ B hml hv
  obtain ⟨rfl, hsz, hP, hK, hD0⟩ := hv
  have hx := B.exec
  have hb := B.bytes
  have hr := B.returns
  have hts := atoms_spec (ws := pw_c_X7_init) B.pre
  have hown : s.vm.findClass RX7 = some m.cls := findClass_of_methodNamed B.named
  have hlocks := B.notSynchronized
  have hin : meth.name = "<init>" := (name_of_methodNamed B.named B.method).1
  have hin_X7 : ∀ w ∈ u_ws RX7 TX7 22, w ∈ pw_c_X7_init := fun w h => List.mem_cons_of_mem _ (List.mem_append_right _ (List.mem_append_left _ h))
  subst hsz
  have hD := hD0.self (sz := s.heap.size)
  generalize hAe : va_A [(h0, .inr (7, fs))] s.heap.size = A at hD ⊢
  have hA : ∀ q : Nat, s.heap.size ≤ q → A q := fun q h => by rw [← hAe]; exact Or.inr h
  have hS : va_S A s.heap s.heap [] := va_S.rf
  have hP : va_P (dC, dI) vwCl [(h0, .inr (7, fs))] s.heap := hP
  have hl := lv_entry ([.ref h0, .ref p0, .ref p1, .ref p2, .ref p3]) (n := 5) (Nat.le_of_ble_eq_true rfl)
  rw [lg_entry_eq]
  generalize (lg_sl ([.ref h0, .ref p0, .ref p1, .ref p2, .ref p3]) ++ List.replicate (5 - (lg_sl ([.ref h0, .ref p0, .ref p1, .ref p2, .ref p3])).length) Slot.unset).toArray = ls at hl ⊢
  have hl : lv_has ls 5 [(0, .ref h0), (1, .ref p0), (2, .ref p1), (3, .ref p2), (4, .ref p3)] := hl
  refine lv_aload_n hx hb dX7_init_0 rfl (lv_at hl 0 rfl) ?_
  refine W.objInit hx hb hown (hts (.methodLink RX7 3 objectInit) (List.mem_of_getElem? (i := 2) rfl)) (hts (.instanceMethod objectInit) (List.mem_of_getElem? (i := 3) rfl)) (hts _ (List.mem_of_getElem? (i := 1) rfl)) rfl (by rw [hml]; exact hl.1) rfl dX7_init_1 (Nat.le_of_ble_eq_true rfl) (Nat.le_of_ble_eq_true rfl) ?_
  refine W.eq (g2 := F0 m 4 ls []) rfl ?_
  refine lv_aload_n hx hb dX7_init_4 rfl (lv_at hl 0 rfl) ?_
  refine lv_sipush (v := 4000) hx hb dX7_init_5 (by decide) ?_
  refine va_newa (atype := .long) (a0 := (4000, .inr (.inl (fun _ => 0)))) hx hb (hts (.arrayClass .long) (List.mem_of_getElem? (i := 4) rfl)) (ty := .long) rfl hK hP hD hS hA (na_long 4000) (by decide) (by decide +kernel) (show 4000 * 8 ≤ 536870912 by decide) (show 0 + 1 ≤ 10 by decide) (show 0 + 4000 ≤ 26628 by decide) dX7_init_8 (fun q_1 cA_2 H hK hP hD hS => ?_)
  have hK : va_K (dC, dI) vwCl [(cI, .int), (cL, .long), (cA_2, .long)] s := hK
  obtain rfl := kU_long hK 1 2 rfl rfl
  have hK := hK.sub (tys' := [(cI, .int), (cL, .long)]) [0, 1] rfl
  have hP : va_P (dC, dI) vwCl [(h0, .inr (7, fs)), (q_1, .inl (cL, 4000, .inr (.inl (fun _ => 0))))] H := hP
  have hD : va_D A [(h0, .inr (7, fs)), (q_1, .inl (cL, 4000, .inr (.inl (fun _ => 0))))] := hD
  refine W.widen (k := 1) (n := 4000) (by decide) (by decide) ?_
  refine va_put (D := (dC, dI)) (ci := 7) (v := .ref q_1) (ty := (.array .long)) (C := RX7) (T := TX7) (N := 22) hx hb hts hin_X7 tyX7 tyX7_ok nmX7 hown hK hP hD hS 0 rfl rfl 4 (by decide) (hts (.fieldLink RX7 11 "NeedHouse$Store" "heap" "[J") (List.mem_of_getElem? (i := 5) rfl)) (fun _ h9 => h9) rfl (by decide +kernel) rfl rfl (by rw [hF.1]; decide) dX7_init_10 (fun H locs hP hD hS => ?_)
  have hP : va_P (dC, dI) vwCl [(h0, .inr (7, (fs.set 4 (.ref q_1)))), (q_1, .inl (cL, 4000, .inr (.inl (fun _ => 0))))] H := hP
  have hD : va_D A [(h0, .inr (7, (fs.set 4 (.ref q_1)))), (q_1, .inl (cL, 4000, .inr (.inl (fun _ => 0))))] := hD
  have hF_3 := hF.set 4 (.ref q_1) (l' := [(4, .ref q_1), (6, .int 0), (7, .int 0), (10, .int 0), (13, .int 0), (15, .int 0), (19, .int 0), (20, .int 0), (21, .long 0)]) (by decide) rfl
  generalize fs.set 4 (.ref q_1) = fs_4 at hP hD hF_3
  have hP : va_P (dC, dI) vwCl [(h0, .inr (7, fs_4)), (q_1, .inl (cL, 4000, .inr (.inl (fun _ => 0))))] H := hP
  have hD : va_D A [(h0, .inr (7, fs_4)), (q_1, .inl (cL, 4000, .inr (.inl (fun _ => 0))))] := hD
  have hP := hP.sub (ws' := [(h0, .inr (7, fs_4))]) [0] rfl
  have hD := hD.sub (ws' := [(h0, .inr (7, fs_4))]) [0] (by decide) rfl
  refine lv_aload_n hx hb dX7_init_13 rfl (lv_at hl 0 rfl) ?_
  refine lv_sipush (v := 4000) hx hb dX7_init_14 (by decide) ?_
  refine va_newa (atype := .long) (a0 := (4000, .inr (.inl (fun _ => 0)))) hx hb (hts (.arrayClass .long) (List.mem_of_getElem? (i := 4) rfl)) (ty := .long) rfl hK hP hD hS hA (na_long 4000) (by decide) (by decide +kernel) (show 4000 * 8 ≤ 536870912 by decide) (show 1 + 1 ≤ 10 by decide) (show 4000 + 4000 ≤ 26628 by decide) dX7_init_17 (fun q_5 cA_6 H hK hP hD hS => ?_)
  have hK : va_K (dC, dI) vwCl [(cI, .int), (cL, .long), (cA_6, .long)] s := hK
  obtain rfl := kU_long hK 1 2 rfl rfl
  have hK := hK.sub (tys' := [(cI, .int), (cL, .long)]) [0, 1] rfl
  have hP : va_P (dC, dI) vwCl [(h0, .inr (7, fs_4)), (q_5, .inl (cL, 4000, .inr (.inl (fun _ => 0))))] H := hP
  have hD : va_D A [(h0, .inr (7, fs_4)), (q_5, .inl (cL, 4000, .inr (.inl (fun _ => 0))))] := hD
  refine W.widen (k := 2) (n := 8000) (by decide) (by decide) ?_
  refine va_put (D := (dC, dI)) (ci := 7) (v := .ref q_5) (ty := (.array .long)) (C := RX7) (T := TX7) (N := 22) hx hb hts hin_X7 tyX7 tyX7_ok nmX7 hown hK hP hD hS 0 rfl rfl 5 (by decide) (hts (.fieldLink RX7 15 "NeedHouse$Store" "spare" "[J") (List.mem_of_getElem? (i := 6) rfl)) (fun _ h9 => h9) rfl (by decide +kernel) rfl rfl (by rw [hF_3.1]; decide) dX7_init_19 (fun H locs hP hD hS => ?_)
  have hP : va_P (dC, dI) vwCl [(h0, .inr (7, (fs_4.set 5 (.ref q_5)))), (q_5, .inl (cL, 4000, .inr (.inl (fun _ => 0))))] H := hP
  have hD : va_D A [(h0, .inr (7, (fs_4.set 5 (.ref q_5)))), (q_5, .inl (cL, 4000, .inr (.inl (fun _ => 0))))] := hD
  have hF_7 := hF_3.set 5 (.ref q_5) (l' := [(5, .ref q_5), (4, .ref q_1), (6, .int 0), (7, .int 0), (10, .int 0), (13, .int 0), (15, .int 0), (19, .int 0), (20, .int 0), (21, .long 0)]) (by decide) rfl
  generalize fs_4.set 5 (.ref q_5) = fs_8 at hP hD hF_7
  have hP : va_P (dC, dI) vwCl [(h0, .inr (7, fs_8)), (q_5, .inl (cL, 4000, .inr (.inl (fun _ => 0))))] H := hP
  have hD : va_D A [(h0, .inr (7, fs_8)), (q_5, .inl (cL, 4000, .inr (.inl (fun _ => 0))))] := hD
  have hP := hP.sub (ws' := [(h0, .inr (7, fs_8))]) [0] rfl
  have hD := hD.sub (ws' := [(h0, .inr (7, fs_8))]) [0] (by decide) rfl
  refine lv_aload_n hx hb dX7_init_22 rfl (lv_at hl 0 rfl) ?_
  refine lv_sipush (v := 300) hx hb dX7_init_23 (by decide) ?_
  refine va_newa (atype := .long) (a0 := (300, .inr (.inl (fun _ => 0)))) hx hb (hts (.arrayClass .long) (List.mem_of_getElem? (i := 4) rfl)) (ty := .long) rfl hK hP hD hS hA (na_long 300) (by decide) (by decide +kernel) (show 300 * 8 ≤ 536870912 by decide) (show 2 + 1 ≤ 10 by decide) (show 8000 + 300 ≤ 26628 by decide) dX7_init_26 (fun q_9 cA_10 H hK hP hD hS => ?_)
  have hK : va_K (dC, dI) vwCl [(cI, .int), (cL, .long), (cA_10, .long)] s := hK
  obtain rfl := kU_long hK 1 2 rfl rfl
  have hK := hK.sub (tys' := [(cI, .int), (cL, .long)]) [0, 1] rfl
  have hP : va_P (dC, dI) vwCl [(h0, .inr (7, fs_8)), (q_9, .inl (cL, 300, .inr (.inl (fun _ => 0))))] H := hP
  have hD : va_D A [(h0, .inr (7, fs_8)), (q_9, .inl (cL, 300, .inr (.inl (fun _ => 0))))] := hD
  refine W.widen (k := 3) (n := 8300) (by decide) (by decide) ?_
  refine va_putF (D := (dC, dI)) (ci := 7) (v := .ref q_9) (ty := (.array .long)) (C := RX7) (T := TX7) (N := 22) hx hb hts hin_X7 tyX7 tyX7_ok nmX7 hown hK hP hD hS 0 rfl rfl 8 (by decide) (hts (.fieldLink RX7 20 "NeedHouse$Store" "variable" "[J") (List.mem_of_getElem? (i := 7) rfl)) (fun _ h9 => h9) rfl hin rfl (by decide +kernel) rfl rfl (by rw [hF_7.1]; decide) dX7_init_28 (fun H locs hP hD hS => ?_)
  have hP : va_P (dC, dI) vwCl [(h0, .inr (7, (fs_8.set 8 (.ref q_9)))), (q_9, .inl (cL, 300, .inr (.inl (fun _ => 0))))] H := hP
  have hD : va_D A [(h0, .inr (7, (fs_8.set 8 (.ref q_9)))), (q_9, .inl (cL, 300, .inr (.inl (fun _ => 0))))] := hD
  have hF_11 := hF_7.set 8 (.ref q_9) (l' := [(8, .ref q_9), (5, .ref q_5), (4, .ref q_1), (6, .int 0), (7, .int 0), (10, .int 0), (13, .int 0), (15, .int 0), (19, .int 0), (20, .int 0), (21, .long 0)]) (by decide) rfl
  generalize fs_8.set 8 (.ref q_9) = fs_12 at hP hD hF_11
  have hP : va_P (dC, dI) vwCl [(h0, .inr (7, fs_12)), (q_9, .inl (cL, 300, .inr (.inl (fun _ => 0))))] H := hP
  have hD : va_D A [(h0, .inr (7, fs_12)), (q_9, .inl (cL, 300, .inr (.inl (fun _ => 0))))] := hD
  have hP := hP.sub (ws' := [(h0, .inr (7, fs_12))]) [0] rfl
  have hD := hD.sub (ws' := [(h0, .inr (7, fs_12))]) [0] (by decide) rfl
  refine lv_aload_n hx hb dX7_init_31 rfl (lv_at hl 0 rfl) ?_
  refine lv_bipush (v := 16) hx hb dX7_init_32 (by decide) ?_
  refine va_newa (atype := .long) (a0 := (16, .inr (.inl (fun _ => 0)))) hx hb (hts (.arrayClass .long) (List.mem_of_getElem? (i := 4) rfl)) (ty := .long) rfl hK hP hD hS hA (na_long 16) (by decide) (by decide +kernel) (show 16 * 8 ≤ 536870912 by decide) (show 3 + 1 ≤ 10 by decide) (show 8300 + 16 ≤ 26628 by decide) dX7_init_34 (fun q_13 cA_14 H hK hP hD hS => ?_)
  have hK : va_K (dC, dI) vwCl [(cI, .int), (cL, .long), (cA_14, .long)] s := hK
  obtain rfl := kU_long hK 1 2 rfl rfl
  have hK := hK.sub (tys' := [(cI, .int), (cL, .long)]) [0, 1] rfl
  have hP : va_P (dC, dI) vwCl [(h0, .inr (7, fs_12)), (q_13, .inl (cL, 16, .inr (.inl (fun _ => 0))))] H := hP
  have hD : va_D A [(h0, .inr (7, fs_12)), (q_13, .inl (cL, 16, .inr (.inl (fun _ => 0))))] := hD
  refine W.widen (k := 4) (n := 8316) (by decide) (by decide) ?_
  refine va_putF (D := (dC, dI)) (ci := 7) (v := .ref q_13) (ty := (.array .long)) (C := RX7) (T := TX7) (N := 22) hx hb hts hin_X7 tyX7 tyX7_ok nmX7 hown hK hP hD hS 0 rfl rfl 9 (by decide) (hts (.fieldLink RX7 23 "NeedHouse$Store" "argument" "[J") (List.mem_of_getElem? (i := 8) rfl)) (fun _ h9 => h9) rfl hin rfl (by decide +kernel) rfl rfl (by rw [hF_11.1]; decide) dX7_init_36 (fun H locs hP hD hS => ?_)
  have hP : va_P (dC, dI) vwCl [(h0, .inr (7, (fs_12.set 9 (.ref q_13)))), (q_13, .inl (cL, 16, .inr (.inl (fun _ => 0))))] H := hP
  have hD : va_D A [(h0, .inr (7, (fs_12.set 9 (.ref q_13)))), (q_13, .inl (cL, 16, .inr (.inl (fun _ => 0))))] := hD
  have hF_15 := hF_11.set 9 (.ref q_13) (l' := [(9, .ref q_13), (8, .ref q_9), (5, .ref q_5), (4, .ref q_1), (6, .int 0), (7, .int 0), (10, .int 0), (13, .int 0), (15, .int 0), (19, .int 0), (20, .int 0), (21, .long 0)]) (by decide) rfl
  generalize fs_12.set 9 (.ref q_13) = fs_16 at hP hD hF_15
  have hP : va_P (dC, dI) vwCl [(h0, .inr (7, fs_16)), (q_13, .inl (cL, 16, .inr (.inl (fun _ => 0))))] H := hP
  have hD : va_D A [(h0, .inr (7, fs_16)), (q_13, .inl (cL, 16, .inr (.inl (fun _ => 0))))] := hD
  have hP := hP.sub (ws' := [(h0, .inr (7, fs_16))]) [0] rfl
  have hD := hD.sub (ws' := [(h0, .inr (7, fs_16))]) [0] (by decide) rfl
  refine lv_aload_n hx hb dX7_init_39 rfl (lv_at hl 0 rfl) ?_
  refine lv_sipush (v := 1000) hx hb dX7_init_40 (by decide) ?_
  refine va_newa (atype := .int) (a0 := (1000, .inl (fun _ => 0))) hx hb (hts (.arrayClass .int) (List.mem_of_getElem? (i := 9) rfl)) (ty := .int) rfl hK hP hD hS hA (na_int 1000) (by decide) (by decide +kernel) (show 1000 * 4 ≤ 536870912 by decide) (show 4 + 1 ≤ 10 by decide) (show 8316 + 1000 ≤ 26628 by decide) dX7_init_43 (fun q_17 cA_18 H hK hP hD hS => ?_)
  have hK : va_K (dC, dI) vwCl [(cI, .int), (cL, .long), (cA_18, .int)] s := hK
  obtain rfl := kU_int hK 0 2 rfl rfl
  have hK := hK.sub (tys' := [(cI, .int), (cL, .long)]) [0, 1] rfl
  have hP : va_P (dC, dI) vwCl [(h0, .inr (7, fs_16)), (q_17, .inl (cI, 1000, .inl (fun _ => 0)))] H := hP
  have hD : va_D A [(h0, .inr (7, fs_16)), (q_17, .inl (cI, 1000, .inl (fun _ => 0)))] := hD
  refine W.widen (k := 5) (n := 9316) (by decide) (by decide) ?_
  refine va_putF (D := (dC, dI)) (ci := 7) (v := .ref q_17) (ty := (.array .int)) (C := RX7) (T := TX7) (N := 22) hx hb hts hin_X7 tyX7 tyX7_ok nmX7 hown hK hP hD hS 0 rfl rfl 11 (by decide) (hts (.fieldLink RX7 26 "NeedHouse$Store" "frame" "[I") (List.mem_of_getElem? (i := 10) rfl)) (fun _ h9 => h9) rfl hin rfl (by decide +kernel) rfl rfl (by rw [hF_15.1]; decide) dX7_init_45 (fun H locs hP hD hS => ?_)
  have hP : va_P (dC, dI) vwCl [(h0, .inr (7, (fs_16.set 11 (.ref q_17)))), (q_17, .inl (cI, 1000, .inl (fun _ => 0)))] H := hP
  have hD : va_D A [(h0, .inr (7, (fs_16.set 11 (.ref q_17)))), (q_17, .inl (cI, 1000, .inl (fun _ => 0)))] := hD
  have hF_19 := hF_15.set 11 (.ref q_17) (l' := [(11, .ref q_17), (9, .ref q_13), (8, .ref q_9), (5, .ref q_5), (4, .ref q_1), (6, .int 0), (7, .int 0), (10, .int 0), (13, .int 0), (15, .int 0), (19, .int 0), (20, .int 0), (21, .long 0)]) (by decide) rfl
  generalize fs_16.set 11 (.ref q_17) = fs_20 at hP hD hF_19
  have hP : va_P (dC, dI) vwCl [(h0, .inr (7, fs_20)), (q_17, .inl (cI, 1000, .inl (fun _ => 0)))] H := hP
  have hD : va_D A [(h0, .inr (7, fs_20)), (q_17, .inl (cI, 1000, .inl (fun _ => 0)))] := hD
  have hP := hP.sub (ws' := [(h0, .inr (7, fs_20))]) [0] rfl
  have hD := hD.sub (ws' := [(h0, .inr (7, fs_20))]) [0] (by decide) rfl
  refine lv_aload_n hx hb dX7_init_48 rfl (lv_at hl 0 rfl) ?_
  refine lv_sipush (v := 1000) hx hb dX7_init_49 (by decide) ?_
  refine va_newa (atype := .int) (a0 := (1000, .inl (fun _ => 0))) hx hb (hts (.arrayClass .int) (List.mem_of_getElem? (i := 9) rfl)) (ty := .int) rfl hK hP hD hS hA (na_int 1000) (by decide) (by decide +kernel) (show 1000 * 4 ≤ 536870912 by decide) (show 5 + 1 ≤ 10 by decide) (show 9316 + 1000 ≤ 26628 by decide) dX7_init_52 (fun q_21 cA_22 H hK hP hD hS => ?_)
  have hK : va_K (dC, dI) vwCl [(cI, .int), (cL, .long), (cA_22, .int)] s := hK
  obtain rfl := kU_int hK 0 2 rfl rfl
  have hK := hK.sub (tys' := [(cI, .int), (cL, .long)]) [0, 1] rfl
  have hP : va_P (dC, dI) vwCl [(h0, .inr (7, fs_20)), (q_21, .inl (cI, 1000, .inl (fun _ => 0)))] H := hP
  have hD : va_D A [(h0, .inr (7, fs_20)), (q_21, .inl (cI, 1000, .inl (fun _ => 0)))] := hD
  refine W.widen (k := 6) (n := 10316) (by decide) (by decide) ?_
  refine va_putF (D := (dC, dI)) (ci := 7) (v := .ref q_21) (ty := (.array .int)) (C := RX7) (T := TX7) (N := 22) hx hb hts hin_X7 tyX7 tyX7_ok nmX7 hown hK hP hD hS 0 rfl rfl 12 (by decide) (hts (.fieldLink RX7 30 "NeedHouse$Store" "frameFrom" "[I") (List.mem_of_getElem? (i := 11) rfl)) (fun _ h9 => h9) rfl hin rfl (by decide +kernel) rfl rfl (by rw [hF_19.1]; decide) dX7_init_54 (fun H locs hP hD hS => ?_)
  have hP : va_P (dC, dI) vwCl [(h0, .inr (7, (fs_20.set 12 (.ref q_21)))), (q_21, .inl (cI, 1000, .inl (fun _ => 0)))] H := hP
  have hD : va_D A [(h0, .inr (7, (fs_20.set 12 (.ref q_21)))), (q_21, .inl (cI, 1000, .inl (fun _ => 0)))] := hD
  have hF_23 := hF_19.set 12 (.ref q_21) (l' := [(12, .ref q_21), (11, .ref q_17), (9, .ref q_13), (8, .ref q_9), (5, .ref q_5), (4, .ref q_1), (6, .int 0), (7, .int 0), (10, .int 0), (13, .int 0), (15, .int 0), (19, .int 0), (20, .int 0), (21, .long 0)]) (by decide) rfl
  generalize fs_20.set 12 (.ref q_21) = fs_24 at hP hD hF_23
  have hP : va_P (dC, dI) vwCl [(h0, .inr (7, fs_24)), (q_21, .inl (cI, 1000, .inl (fun _ => 0)))] H := hP
  have hD : va_D A [(h0, .inr (7, fs_24)), (q_21, .inl (cI, 1000, .inl (fun _ => 0)))] := hD
  have hP := hP.sub (ws' := [(h0, .inr (7, fs_24))]) [0] rfl
  have hD := hD.sub (ws' := [(h0, .inr (7, fs_24))]) [0] (by decide) rfl
  refine lv_aload_n hx hb dX7_init_57 rfl (lv_at hl 0 rfl) ?_
  refine lv_sipush (v := 8192) hx hb dX7_init_58 (by decide) ?_
  refine va_newa (atype := .long) (a0 := (8192, .inr (.inl (fun _ => 0)))) hx hb (hts (.arrayClass .long) (List.mem_of_getElem? (i := 4) rfl)) (ty := .long) rfl hK hP hD hS hA (na_long 8192) (by decide) (by decide +kernel) (show 8192 * 8 ≤ 536870912 by decide) (show 6 + 1 ≤ 10 by decide) (show 10316 + 8192 ≤ 26628 by decide) dX7_init_61 (fun q_25 cA_26 H hK hP hD hS => ?_)
  have hK : va_K (dC, dI) vwCl [(cI, .int), (cL, .long), (cA_26, .long)] s := hK
  obtain rfl := kU_long hK 1 2 rfl rfl
  have hK := hK.sub (tys' := [(cI, .int), (cL, .long)]) [0, 1] rfl
  have hP : va_P (dC, dI) vwCl [(h0, .inr (7, fs_24)), (q_25, .inl (cL, 8192, .inr (.inl (fun _ => 0))))] H := hP
  have hD : va_D A [(h0, .inr (7, fs_24)), (q_25, .inl (cL, 8192, .inr (.inl (fun _ => 0))))] := hD
  refine W.widen (k := 7) (n := 18508) (by decide) (by decide) ?_
  refine va_put (D := (dC, dI)) (ci := 7) (v := .ref q_25) (ty := (.array .long)) (C := RX7) (T := TX7) (N := 22) hx hb hts hin_X7 tyX7 tyX7_ok nmX7 hown hK hP hD hS 0 rfl rfl 14 (by decide) (hts (.fieldLink RX7 33 "NeedHouse$Store" "saved" "[J") (List.mem_of_getElem? (i := 12) rfl)) (fun _ h9 => h9) rfl (by decide +kernel) rfl rfl (by rw [hF_23.1]; decide) dX7_init_63 (fun H locs hP hD hS => ?_)
  have hP : va_P (dC, dI) vwCl [(h0, .inr (7, (fs_24.set 14 (.ref q_25)))), (q_25, .inl (cL, 8192, .inr (.inl (fun _ => 0))))] H := hP
  have hD : va_D A [(h0, .inr (7, (fs_24.set 14 (.ref q_25)))), (q_25, .inl (cL, 8192, .inr (.inl (fun _ => 0))))] := hD
  have hF_27 := hF_23.set 14 (.ref q_25) (l' := [(14, .ref q_25), (12, .ref q_21), (11, .ref q_17), (9, .ref q_13), (8, .ref q_9), (5, .ref q_5), (4, .ref q_1), (6, .int 0), (7, .int 0), (10, .int 0), (13, .int 0), (15, .int 0), (19, .int 0), (20, .int 0), (21, .long 0)]) (by decide) rfl
  generalize fs_24.set 14 (.ref q_25) = fs_28 at hP hD hF_27
  have hP : va_P (dC, dI) vwCl [(h0, .inr (7, fs_28)), (q_25, .inl (cL, 8192, .inr (.inl (fun _ => 0))))] H := hP
  have hD : va_D A [(h0, .inr (7, fs_28)), (q_25, .inl (cL, 8192, .inr (.inl (fun _ => 0))))] := hD
  have hP := hP.sub (ws' := [(h0, .inr (7, fs_28))]) [0] rfl
  have hD := hD.sub (ws' := [(h0, .inr (7, fs_28))]) [0] (by decide) rfl
  refine lv_aload_n hx hb dX7_init_66 rfl (lv_at hl 0 rfl) ?_
  refine lv_bipush (v := 60) hx hb dX7_init_67 (by decide) ?_
  refine va_newa (atype := .int) (a0 := (60, .inl (fun _ => 0))) hx hb (hts (.arrayClass .int) (List.mem_of_getElem? (i := 9) rfl)) (ty := .int) rfl hK hP hD hS hA (na_int 60) (by decide) (by decide +kernel) (show 60 * 4 ≤ 536870912 by decide) (show 7 + 1 ≤ 10 by decide) (show 18508 + 60 ≤ 26628 by decide) dX7_init_69 (fun q_29 cA_30 H hK hP hD hS => ?_)
  have hK : va_K (dC, dI) vwCl [(cI, .int), (cL, .long), (cA_30, .int)] s := hK
  obtain rfl := kU_int hK 0 2 rfl rfl
  have hK := hK.sub (tys' := [(cI, .int), (cL, .long)]) [0, 1] rfl
  have hP : va_P (dC, dI) vwCl [(h0, .inr (7, fs_28)), (q_29, .inl (cI, 60, .inl (fun _ => 0)))] H := hP
  have hD : va_D A [(h0, .inr (7, fs_28)), (q_29, .inl (cI, 60, .inl (fun _ => 0)))] := hD
  refine W.widen (k := 8) (n := 18568) (by decide) (by decide) ?_
  refine va_putF (D := (dC, dI)) (ci := 7) (v := .ref q_29) (ty := (.array .int)) (C := RX7) (T := TX7) (N := 22) hx hb hts hin_X7 tyX7 tyX7_ok nmX7 hown hK hP hD hS 0 rfl rfl 16 (by decide) (hts (.fieldLink RX7 36 "NeedHouse$Store" "globalState" "[I") (List.mem_of_getElem? (i := 13) rfl)) (fun _ h9 => h9) rfl hin rfl (by decide +kernel) rfl rfl (by rw [hF_27.1]; decide) dX7_init_71 (fun H locs hP hD hS => ?_)
  have hP : va_P (dC, dI) vwCl [(h0, .inr (7, (fs_28.set 16 (.ref q_29)))), (q_29, .inl (cI, 60, .inl (fun _ => 0)))] H := hP
  have hD : va_D A [(h0, .inr (7, (fs_28.set 16 (.ref q_29)))), (q_29, .inl (cI, 60, .inl (fun _ => 0)))] := hD
  have hF_31 := hF_27.set 16 (.ref q_29) (l' := [(16, .ref q_29), (14, .ref q_25), (12, .ref q_21), (11, .ref q_17), (9, .ref q_13), (8, .ref q_9), (5, .ref q_5), (4, .ref q_1), (6, .int 0), (7, .int 0), (10, .int 0), (13, .int 0), (15, .int 0), (19, .int 0), (20, .int 0), (21, .long 0)]) (by decide) rfl
  generalize fs_28.set 16 (.ref q_29) = fs_32 at hP hD hF_31
  have hP : va_P (dC, dI) vwCl [(h0, .inr (7, fs_32)), (q_29, .inl (cI, 60, .inl (fun _ => 0)))] H := hP
  have hD : va_D A [(h0, .inr (7, fs_32)), (q_29, .inl (cI, 60, .inl (fun _ => 0)))] := hD
  have hP := hP.sub (ws' := [(h0, .inr (7, fs_32))]) [0] rfl
  have hD := hD.sub (ws' := [(h0, .inr (7, fs_32))]) [0] (by decide) rfl
  refine lv_aload_n hx hb dX7_init_74 rfl (lv_at hl 0 rfl) ?_
  refine lv_bipush (v := 60) hx hb dX7_init_75 (by decide) ?_
  refine va_newa (atype := .long) (a0 := (60, .inr (.inl (fun _ => 0)))) hx hb (hts (.arrayClass .long) (List.mem_of_getElem? (i := 4) rfl)) (ty := .long) rfl hK hP hD hS hA (na_long 60) (by decide) (by decide +kernel) (show 60 * 8 ≤ 536870912 by decide) (show 8 + 1 ≤ 10 by decide) (show 18568 + 60 ≤ 26628 by decide) dX7_init_77 (fun q_33 cA_34 H hK hP hD hS => ?_)
  have hK : va_K (dC, dI) vwCl [(cI, .int), (cL, .long), (cA_34, .long)] s := hK
  obtain rfl := kU_long hK 1 2 rfl rfl
  have hK := hK.sub (tys' := [(cI, .int), (cL, .long)]) [0, 1] rfl
  have hP : va_P (dC, dI) vwCl [(h0, .inr (7, fs_32)), (q_33, .inl (cL, 60, .inr (.inl (fun _ => 0))))] H := hP
  have hD : va_D A [(h0, .inr (7, fs_32)), (q_33, .inl (cL, 60, .inr (.inl (fun _ => 0))))] := hD
  refine W.widen (k := 9) (n := 18628) (by decide) (by decide) ?_
  refine va_putF (D := (dC, dI)) (ci := 7) (v := .ref q_33) (ty := (.array .long)) (C := RX7) (T := TX7) (N := 22) hx hb hts hin_X7 tyX7 tyX7_ok nmX7 hown hK hP hD hS 0 rfl rfl 17 (by decide) (hts (.fieldLink RX7 39 "NeedHouse$Store" "globalValue" "[J") (List.mem_of_getElem? (i := 14) rfl)) (fun _ h9 => h9) rfl hin rfl (by decide +kernel) rfl rfl (by rw [hF_31.1]; decide) dX7_init_79 (fun H locs hP hD hS => ?_)
  have hP : va_P (dC, dI) vwCl [(h0, .inr (7, (fs_32.set 17 (.ref q_33)))), (q_33, .inl (cL, 60, .inr (.inl (fun _ => 0))))] H := hP
  have hD : va_D A [(h0, .inr (7, (fs_32.set 17 (.ref q_33)))), (q_33, .inl (cL, 60, .inr (.inl (fun _ => 0))))] := hD
  have hF_35 := hF_31.set 17 (.ref q_33) (l' := [(17, .ref q_33), (16, .ref q_29), (14, .ref q_25), (12, .ref q_21), (11, .ref q_17), (9, .ref q_13), (8, .ref q_9), (5, .ref q_5), (4, .ref q_1), (6, .int 0), (7, .int 0), (10, .int 0), (13, .int 0), (15, .int 0), (19, .int 0), (20, .int 0), (21, .long 0)]) (by decide) rfl
  generalize fs_32.set 17 (.ref q_33) = fs_36 at hP hD hF_35
  have hP : va_P (dC, dI) vwCl [(h0, .inr (7, fs_36)), (q_33, .inl (cL, 60, .inr (.inl (fun _ => 0))))] H := hP
  have hD : va_D A [(h0, .inr (7, fs_36)), (q_33, .inl (cL, 60, .inr (.inl (fun _ => 0))))] := hD
  have hP := hP.sub (ws' := [(h0, .inr (7, fs_36))]) [0] rfl
  have hD := hD.sub (ws' := [(h0, .inr (7, fs_36))]) [0] (by decide) rfl
  refine lv_aload_n hx hb dX7_init_82 rfl (lv_at hl 0 rfl) ?_
  refine lv_sipush (v := 8000) hx hb dX7_init_83 (by decide) ?_
  refine va_newa (atype := .int) (a0 := (8000, .inl (fun _ => 0))) hx hb (hts (.arrayClass .int) (List.mem_of_getElem? (i := 9) rfl)) (ty := .int) rfl hK hP hD hS hA (na_int 8000) (by decide) (by decide +kernel) (show 8000 * 4 ≤ 536870912 by decide) (show 9 + 1 ≤ 10 by decide) (show 18628 + 8000 ≤ 26628 by decide) dX7_init_86 (fun q_37 cA_38 H hK hP hD hS => ?_)
  have hK : va_K (dC, dI) vwCl [(cI, .int), (cL, .long), (cA_38, .int)] s := hK
  obtain rfl := kU_int hK 0 2 rfl rfl
  have hK := hK.sub (tys' := [(cI, .int), (cL, .long)]) [0, 1] rfl
  have hP : va_P (dC, dI) vwCl [(h0, .inr (7, fs_36)), (q_37, .inl (cI, 8000, .inl (fun _ => 0)))] H := hP
  have hD : va_D A [(h0, .inr (7, fs_36)), (q_37, .inl (cI, 8000, .inl (fun _ => 0)))] := hD
  refine W.widen (k := 10) (n := 26628) (by decide) (by decide) ?_
  refine va_putF (D := (dC, dI)) (ci := 7) (v := .ref q_37) (ty := (.array .int)) (C := RX7) (T := TX7) (N := 22) hx hb hts hin_X7 tyX7 tyX7_ok nmX7 hown hK hP hD hS 0 rfl rfl 18 (by decide) (hts (.fieldLink RX7 42 "NeedHouse$Store" "unfilled" "[I") (List.mem_of_getElem? (i := 15) rfl)) (fun _ h9 => h9) rfl hin rfl (by decide +kernel) rfl rfl (by rw [hF_35.1]; decide) dX7_init_88 (fun H locs hP hD hS => ?_)
  have hP : va_P (dC, dI) vwCl [(h0, .inr (7, (fs_36.set 18 (.ref q_37)))), (q_37, .inl (cI, 8000, .inl (fun _ => 0)))] H := hP
  have hD : va_D A [(h0, .inr (7, (fs_36.set 18 (.ref q_37)))), (q_37, .inl (cI, 8000, .inl (fun _ => 0)))] := hD
  have hF_39 := hF_35.set 18 (.ref q_37) (l' := [(18, .ref q_37), (17, .ref q_33), (16, .ref q_29), (14, .ref q_25), (12, .ref q_21), (11, .ref q_17), (9, .ref q_13), (8, .ref q_9), (5, .ref q_5), (4, .ref q_1), (6, .int 0), (7, .int 0), (10, .int 0), (13, .int 0), (15, .int 0), (19, .int 0), (20, .int 0), (21, .long 0)]) (by decide) rfl
  generalize fs_36.set 18 (.ref q_37) = fs_40 at hP hD hF_39
  have hP : va_P (dC, dI) vwCl [(h0, .inr (7, fs_40)), (q_37, .inl (cI, 8000, .inl (fun _ => 0)))] H := hP
  have hD : va_D A [(h0, .inr (7, fs_40)), (q_37, .inl (cI, 8000, .inl (fun _ => 0)))] := hD
  have hP := hP.sub (ws' := [(h0, .inr (7, fs_40))]) [0] rfl
  have hD := hD.sub (ws' := [(h0, .inr (7, fs_40))]) [0] (by decide) rfl
  refine lv_aload_n hx hb dX7_init_91 rfl (lv_at hl 0 rfl) ?_
  refine lv_aload_n hx hb dX7_init_92 rfl (lv_at hl 1 rfl) ?_
  refine va_putF (D := (dC, dI)) (ci := 7) (v := .ref p0) (ty := (.object "NeedHouse$Tree")) (C := RX7) (T := TX7) (N := 22) hx hb hts hin_X7 tyX7 tyX7_ok nmX7 hown hK hP hD hS 0 rfl rfl 0 (by decide) (hts (.fieldLink RX7 45 "NeedHouse$Store" "tree" "LNeedHouse$Tree;") (List.mem_of_getElem? (i := 16) rfl)) (fun _ h9 => h9) rfl hin rfl (by decide +kernel) rfl rfl (by rw [hF_39.1]; decide) dX7_init_93 (fun H locs hP hD hS => ?_)
  have hP : va_P (dC, dI) vwCl [(h0, .inr (7, (fs_40.set 0 (.ref p0))))] H := hP
  have hD : va_D A [(h0, .inr (7, (fs_40.set 0 (.ref p0))))] := hD
  have hF_41 := hF_39.set 0 (.ref p0) (l' := [(0, .ref p0), (18, .ref q_37), (17, .ref q_33), (16, .ref q_29), (14, .ref q_25), (12, .ref q_21), (11, .ref q_17), (9, .ref q_13), (8, .ref q_9), (5, .ref q_5), (4, .ref q_1), (6, .int 0), (7, .int 0), (10, .int 0), (13, .int 0), (15, .int 0), (19, .int 0), (20, .int 0), (21, .long 0)]) (by decide) rfl
  generalize fs_40.set 0 (.ref p0) = fs_42 at hP hD hF_41
  have hP : va_P (dC, dI) vwCl [(h0, .inr (7, fs_42))] H := hP
  have hD : va_D A [(h0, .inr (7, fs_42))] := hD
  refine lv_aload_n hx hb dX7_init_96 rfl (lv_at hl 0 rfl) ?_
  refine lv_aload_n hx hb dX7_init_97 rfl (lv_at hl 2 rfl) ?_
  refine va_putF (D := (dC, dI)) (ci := 7) (v := .ref p1) (ty := (.object "NeedHouse$Told")) (C := RX7) (T := TX7) (N := 22) hx hb hts hin_X7 tyX7 tyX7_ok nmX7 hown hK hP hD hS 0 rfl rfl 1 (by decide) (hts (.fieldLink RX7 49 "NeedHouse$Store" "told" "LNeedHouse$Told;") (List.mem_of_getElem? (i := 17) rfl)) (fun _ h9 => h9) rfl hin rfl (by decide +kernel) rfl rfl (by rw [hF_41.1]; decide) dX7_init_98 (fun H locs hP hD hS => ?_)
  have hP : va_P (dC, dI) vwCl [(h0, .inr (7, (fs_42.set 1 (.ref p1))))] H := hP
  have hD : va_D A [(h0, .inr (7, (fs_42.set 1 (.ref p1))))] := hD
  have hF_43 := hF_41.set 1 (.ref p1) (l' := [(1, .ref p1), (0, .ref p0), (18, .ref q_37), (17, .ref q_33), (16, .ref q_29), (14, .ref q_25), (12, .ref q_21), (11, .ref q_17), (9, .ref q_13), (8, .ref q_9), (5, .ref q_5), (4, .ref q_1), (6, .int 0), (7, .int 0), (10, .int 0), (13, .int 0), (15, .int 0), (19, .int 0), (20, .int 0), (21, .long 0)]) (by decide) rfl
  generalize fs_42.set 1 (.ref p1) = fs_44 at hP hD hF_43
  have hP : va_P (dC, dI) vwCl [(h0, .inr (7, fs_44))] H := hP
  have hD : va_D A [(h0, .inr (7, fs_44))] := hD
  refine lv_aload_n hx hb dX7_init_101 rfl (lv_at hl 0 rfl) ?_
  refine lv_aload_n hx hb dX7_init_102 rfl (lv_at hl 3 rfl) ?_
  refine va_putF (D := (dC, dI)) (ci := 7) (v := .ref p2) (ty := (.object "NeedHouse$Datas")) (C := RX7) (T := TX7) (N := 22) hx hb hts hin_X7 tyX7 tyX7_ok nmX7 hown hK hP hD hS 0 rfl rfl 2 (by decide) (hts (.fieldLink RX7 53 "NeedHouse$Store" "datas" "LNeedHouse$Datas;") (List.mem_of_getElem? (i := 18) rfl)) (fun _ h9 => h9) rfl hin rfl (by decide +kernel) rfl rfl (by rw [hF_43.1]; decide) dX7_init_103 (fun H locs hP hD hS => ?_)
  have hP : va_P (dC, dI) vwCl [(h0, .inr (7, (fs_44.set 2 (.ref p2))))] H := hP
  have hD : va_D A [(h0, .inr (7, (fs_44.set 2 (.ref p2))))] := hD
  have hF_45 := hF_43.set 2 (.ref p2) (l' := [(2, .ref p2), (1, .ref p1), (0, .ref p0), (18, .ref q_37), (17, .ref q_33), (16, .ref q_29), (14, .ref q_25), (12, .ref q_21), (11, .ref q_17), (9, .ref q_13), (8, .ref q_9), (5, .ref q_5), (4, .ref q_1), (6, .int 0), (7, .int 0), (10, .int 0), (13, .int 0), (15, .int 0), (19, .int 0), (20, .int 0), (21, .long 0)]) (by decide) rfl
  generalize fs_44.set 2 (.ref p2) = fs_46 at hP hD hF_45
  have hP : va_P (dC, dI) vwCl [(h0, .inr (7, fs_46))] H := hP
  have hD : va_D A [(h0, .inr (7, fs_46))] := hD
  refine lv_aload_n hx hb dX7_init_106 rfl (lv_at hl 0 rfl) ?_
  refine lv_aload hx hb dX7_init_107 (lv_at hl 4 rfl) ?_
  refine va_putF (D := (dC, dI)) (ci := 7) (v := .ref p3) (ty := (.object "NeedHouse$Needs")) (C := RX7) (T := TX7) (N := 22) hx hb hts hin_X7 tyX7 tyX7_ok nmX7 hown hK hP hD hS 0 rfl rfl 3 (by decide) (hts (.fieldLink RX7 57 "NeedHouse$Store" "needs" "LNeedHouse$Needs;") (List.mem_of_getElem? (i := 19) rfl)) (fun _ h9 => h9) rfl hin rfl (by decide +kernel) rfl rfl (by rw [hF_45.1]; decide) dX7_init_109 (fun H locs hP hD hS => ?_)
  have hP : va_P (dC, dI) vwCl [(h0, .inr (7, (fs_46.set 3 (.ref p3))))] H := hP
  have hD : va_D A [(h0, .inr (7, (fs_46.set 3 (.ref p3))))] := hD
  have hF_47 := hF_45.set 3 (.ref p3) (l' := [(3, .ref p3), (2, .ref p2), (1, .ref p1), (0, .ref p0), (18, .ref q_37), (17, .ref q_33), (16, .ref q_29), (14, .ref q_25), (12, .ref q_21), (11, .ref q_17), (9, .ref q_13), (8, .ref q_9), (5, .ref q_5), (4, .ref q_1), (6, .int 0), (7, .int 0), (10, .int 0), (13, .int 0), (15, .int 0), (19, .int 0), (20, .int 0), (21, .long 0)]) (by decide) rfl
  generalize fs_46.set 3 (.ref p3) = fs_48 at hP hD hF_47
  have hP : va_P (dC, dI) vwCl [(h0, .inr (7, fs_48))] H := hP
  have hD : va_D A [(h0, .inr (7, fs_48))] := hD
  have hP9 := hP.sub (ws' := [(h0, .inr (7, fs_48))]) [0] rfl
  have hD9 := hD.sub (ws' := [(h0, .inr (7, fs_48))]) [0] (by decide) rfl
  have hK9 := hK.sub (tys' := [(cI, .int), (cL, .long)]) [0, 1] rfl
  exact W.vret hx hb hr (fun t ht hW => ⟨⟨(fs_48), rfl, hF_47.sub [3, 2, 1, 0, 14, 15, 16, 17, 18, 19, 20, 21] rfl, by rw [ht]; exact hP9, va_K.moved hW.alike hK9, hD9⟩, hS.F ht⟩) hS.2.2 dX7_init_112
def pw_c_X5_init : List Cond := .code yX5_init cX5_init 5 none :: ([.code objectInit ⟨#[0xb1]⟩ 1 none, .methodLink RX5 3 objectInit, .instanceMethod objectInit, .arrayClass .int, .fieldLink RX5 11 "NeedHouse$Parser" "held" "[I", .fieldLink RX5 17 "NeedHouse$Parser" "signs" "[I", .fieldLink RX5 20 "NeedHouse$Parser" "operands" "[I", .fieldLink RX5 23 "NeedHouse$Parser" "lexemes" "LNeedHouse$Lexemes;", .fieldLink RX5 27 "NeedHouse$Parser" "tree" "LNeedHouse$Tree;", .fieldLink RX5 31 "NeedHouse$Parser" "told" "LNeedHouse$Told;", .fieldLink RX5 35 "NeedHouse$Parser" "datas" "LNeedHouse$Datas;", .classLink RX5 39 RX1, .instantiable RX1 9, .initialized RX1, .code yX1_init cX1_init 2 none, .methodLink RX1 5 objectInit, .fieldLink RX1 13 "NeedHouse$Layout" "stack" "[I", .fieldLink RX1 17 "NeedHouse$Layout" "lexemes" "LNeedHouse$Lexemes;", .methodLink RX5 41 yX1_init, .instanceMethod yX1_init, .fieldLink RX5 44 "NeedHouse$Parser" "layout" "LNeedHouse$Layout;"] ++ (wsX50 ++ (wsX10 ++ [])))
set_option maxRecDepth 20000 in
theorem g_c_X5_init_c_X1_init_58 : GoodIn pw_c_X5_init (pw_c_X1_init) := goodIn_r _ [15, 1, 16, 3, 4, 17, 18, 32, 33, 34, 35, 36, 37, 38, 39, 40] rfl (by decide +kernel)
set_option maxHeartbeats 4000000 in
set_option maxRecDepth 100000 in
theorem c_X5_init (l : Launch) (dC : Nat → ClassId) (dI : Nat → Nat → Nat) (sz : Nat) (h0 : Nat) (fs : List Value) (cI : ClassId) (p0 : Nat) (p1 : Nat) (p2 : Nat) (p3 : Nat) (hF : hasF fs 10 [(8, .int 0), (9, .int 0)]) : Met l yX5_init pw_c_X5_init ({ frames := 2, cells := 5, slots := 16361, locals := 33 }) (va_Pc [.ref h0, .ref p0, .ref p1, .ref p2, .ref p3] (fun U => U.heap.size = sz ∧ va_P (dC, dI) vwCl [(h0, .inr (5, fs))] U.heap ∧ va_K (dC, dI) vwCl [(cI, .int)] U ∧ va_D (fun _ => True) [(h0, .inr (5, fs))])) (va_Qv (fun (u : (List Value) × (Nat) × (List Value) × (Nat)) => hasF u.1 10 [(0, .ref p0), (1, .ref u.2.1), (2, .ref p1), (3, .ref p2), (4, .ref p3), (8, .int 0), (9, .int 0)] ∧ hasF u.2.2.1 9 [(0, .ref p0), (1, .ref u.2.2.2), (2, .int 0), (3, .int 0), (4, .int 0), (5, .int 0), (6, .int 0), (7, .int 0), (8, .int 0)]) (fun (u : (List Value) × (Nat) × (List Value) × (Nat)) (t : State) => va_P (dC, dI) vwCl [(h0, .inr (5, u.1)), (u.2.1, .inr (1, u.2.2.1)), (u.2.2.2, .inl (cI, 8008, .inl (fun _ => 0)))] t.heap ∧ va_K (dC, dI) vwCl [(cI, .int)] t ∧ va_D (va_A [(h0, .inr (5, fs))] sz) [(h0, .inr (5, u.1)), (u.2.1, .inr (1, u.2.2.1)), (u.2.2.2, .inl (cI, 8008, .inl (fun _ => 0)))]) (va_A [(h0, .inr (5, fs))] sz)) 5 16361 (va_A [(h0, .inr (5, fs))] sz) := by
  refine Met.ofW (cc := cX5_init) (maxL := 5) (ret := none) (by decide) rfl ?_
  intro p e s m args below meth c s₁ B hml hv
  obtain ⟨rfl, hsz, hP, hK, hD0⟩ := hv
  have hx := B.exec
  have hb := B.bytes
  have hr := B.returns
  have hts := atoms_spec (ws := pw_c_X5_init) B.pre
  have hown : s.vm.findClass RX5 = some m.cls := findClass_of_methodNamed B.named
  have hlocks := B.notSynchronized
  have hin : meth.name = "<init>" := (name_of_methodNamed B.named B.method).1
  have hin_X5 : ∀ w ∈ u_ws RX5 TX5 10, w ∈ pw_c_X5_init := fun w h => List.mem_cons_of_mem _ (List.mem_append_right _ (List.mem_append_left _ h))
  have hin_X1 : ∀ w ∈ u_ws RX1 TX1 9, w ∈ pw_c_X5_init := fun w h => List.mem_cons_of_mem _ (List.mem_append_right _ (List.mem_append_right _ (List.mem_append_left _ h)))
  subst hsz
  have hD := hD0.self (sz := s.heap.size)
  generalize hAe : va_A [(h0, .inr (5, fs))] s.heap.size = A at hD ⊢
  have hA : ∀ q : Nat, s.heap.size ≤ q → A q := fun q h => by rw [← hAe]; exact Or.inr h
  have hS : va_S A s.heap s.heap [] := va_S.rf
  have hP : va_P (dC, dI) vwCl [(h0, .inr (5, fs))] s.heap := hP
  have hl := lv_entry ([.ref h0, .ref p0, .ref p1, .ref p2, .ref p3]) (n := 5) (Nat.le_of_ble_eq_true rfl)
  rw [lg_entry_eq]
  generalize (lg_sl ([.ref h0, .ref p0, .ref p1, .ref p2, .ref p3]) ++ List.replicate (5 - (lg_sl ([.ref h0, .ref p0, .ref p1, .ref p2, .ref p3])).length) Slot.unset).toArray = ls at hl ⊢
  have hl : lv_has ls 5 [(0, .ref h0), (1, .ref p0), (2, .ref p1), (3, .ref p2), (4, .ref p3)] := hl
  refine lv_aload_n hx hb dX5_init_0 rfl (lv_at hl 0 rfl) ?_
  refine W.objInit hx hb hown (hts (.methodLink RX5 3 objectInit) (List.mem_of_getElem? (i := 2) rfl)) (hts (.instanceMethod objectInit) (List.mem_of_getElem? (i := 3) rfl)) (hts _ (List.mem_of_getElem? (i := 1) rfl)) rfl (by rw [hml]; exact hl.1) rfl dX5_init_1 (Nat.le_of_ble_eq_true rfl) (Nat.le_of_ble_eq_true rfl) ?_
  refine W.eq (g2 := F0 m 4 ls []) rfl ?_
  refine lv_aload_n hx hb dX5_init_4 rfl (lv_at hl 0 rfl) ?_
  refine lv_sipush (v := 4004) hx hb dX5_init_5 (by decide) ?_
  refine va_newa (atype := .int) (a0 := (4004, .inl (fun _ => 0))) hx hb (hts (.arrayClass .int) (List.mem_of_getElem? (i := 4) rfl)) (ty := .int) rfl hK hP hD hS hA (na_int 4004) (by decide) (by decide +kernel) (show 4004 * 4 ≤ 536870912 by decide) (show 0 + 1 ≤ 5 by decide) (show 0 + 4004 ≤ 16361 by decide) dX5_init_8 (fun q_1 cA_2 H hK hP hD hS => ?_)
  have hK : va_K (dC, dI) vwCl [(cI, .int), (cA_2, .int)] s := hK
  obtain rfl := kU_int hK 0 1 rfl rfl
  have hK := hK.sub (tys' := [(cI, .int)]) [0] rfl
  have hP : va_P (dC, dI) vwCl [(h0, .inr (5, fs)), (q_1, .inl (cI, 4004, .inl (fun _ => 0)))] H := hP
  have hD : va_D A [(h0, .inr (5, fs)), (q_1, .inl (cI, 4004, .inl (fun _ => 0)))] := hD
  refine W.widen (k := 1) (n := 4004) (by decide) (by decide) ?_
  refine va_putF (D := (dC, dI)) (ci := 5) (v := .ref q_1) (ty := (.array .int)) (C := RX5) (T := TX5) (N := 10) hx hb hts hin_X5 tyX5 tyX5_ok nmX5 hown hK hP hD hS 0 rfl rfl 5 (by decide) (hts (.fieldLink RX5 11 "NeedHouse$Parser" "held" "[I") (List.mem_of_getElem? (i := 5) rfl)) (fun _ h9 => h9) rfl hin rfl (by decide +kernel) rfl rfl (by rw [hF.1]; decide) dX5_init_10 (fun H locs hP hD hS => ?_)
  have hP : va_P (dC, dI) vwCl [(h0, .inr (5, (fs.set 5 (.ref q_1)))), (q_1, .inl (cI, 4004, .inl (fun _ => 0)))] H := hP
  have hD : va_D A [(h0, .inr (5, (fs.set 5 (.ref q_1)))), (q_1, .inl (cI, 4004, .inl (fun _ => 0)))] := hD
  have hF_3 := hF.set 5 (.ref q_1) (l' := [(5, .ref q_1), (8, .int 0), (9, .int 0)]) (by decide) rfl
  generalize fs.set 5 (.ref q_1) = fs_4 at hP hD hF_3
  have hP : va_P (dC, dI) vwCl [(h0, .inr (5, fs_4)), (q_1, .inl (cI, 4004, .inl (fun _ => 0)))] H := hP
  have hD : va_D A [(h0, .inr (5, fs_4)), (q_1, .inl (cI, 4004, .inl (fun _ => 0)))] := hD
  have hP := hP.sub (ws' := [(h0, .inr (5, fs_4))]) [0] rfl
  have hD := hD.sub (ws' := [(h0, .inr (5, fs_4))]) [0] (by decide) rfl
  refine lv_aload_n hx hb dX5_init_13 rfl (lv_at hl 0 rfl) ?_
  refine lv_sipush (v := 4004) hx hb dX5_init_14 (by decide) ?_
  refine va_newa (atype := .int) (a0 := (4004, .inl (fun _ => 0))) hx hb (hts (.arrayClass .int) (List.mem_of_getElem? (i := 4) rfl)) (ty := .int) rfl hK hP hD hS hA (na_int 4004) (by decide) (by decide +kernel) (show 4004 * 4 ≤ 536870912 by decide) (show 1 + 1 ≤ 5 by decide) (show 4004 + 4004 ≤ 16361 by decide) dX5_init_17 (fun q_5 cA_6 H hK hP hD hS => ?_)
  have hK : va_K (dC, dI) vwCl [(cI, .int), (cA_6, .int)] s := hK
  obtain rfl := kU_int hK 0 1 rfl rfl
  have hK := hK.sub (tys' := [(cI, .int)]) [0] rfl
  have hP : va_P (dC, dI) vwCl [(h0, .inr (5, fs_4)), (q_5, .inl (cI, 4004, .inl (fun _ => 0)))] H := hP
  have hD : va_D A [(h0, .inr (5, fs_4)), (q_5, .inl (cI, 4004, .inl (fun _ => 0)))] := hD
  refine W.widen (k := 2) (n := 8008) (by decide) (by decide) ?_
  refine va_putF (D := (dC, dI)) (ci := 5) (v := .ref q_5) (ty := (.array .int)) (C := RX5) (T := TX5) (N := 10) hx hb hts hin_X5 tyX5 tyX5_ok nmX5 hown hK hP hD hS 0 rfl rfl 6 (by decide) (hts (.fieldLink RX5 17 "NeedHouse$Parser" "signs" "[I") (List.mem_of_getElem? (i := 6) rfl)) (fun _ h9 => h9) rfl hin rfl (by decide +kernel) rfl rfl (by rw [hF_3.1]; decide) dX5_init_19 (fun H locs hP hD hS => ?_)
  have hP : va_P (dC, dI) vwCl [(h0, .inr (5, (fs_4.set 6 (.ref q_5)))), (q_5, .inl (cI, 4004, .inl (fun _ => 0)))] H := hP
  have hD : va_D A [(h0, .inr (5, (fs_4.set 6 (.ref q_5)))), (q_5, .inl (cI, 4004, .inl (fun _ => 0)))] := hD
  have hF_7 := hF_3.set 6 (.ref q_5) (l' := [(6, .ref q_5), (5, .ref q_1), (8, .int 0), (9, .int 0)]) (by decide) rfl
  generalize fs_4.set 6 (.ref q_5) = fs_8 at hP hD hF_7
  have hP : va_P (dC, dI) vwCl [(h0, .inr (5, fs_8)), (q_5, .inl (cI, 4004, .inl (fun _ => 0)))] H := hP
  have hD : va_D A [(h0, .inr (5, fs_8)), (q_5, .inl (cI, 4004, .inl (fun _ => 0)))] := hD
  have hP := hP.sub (ws' := [(h0, .inr (5, fs_8))]) [0] rfl
  have hD := hD.sub (ws' := [(h0, .inr (5, fs_8))]) [0] (by decide) rfl
  refine lv_aload_n hx hb dX5_init_22 rfl (lv_at hl 0 rfl) ?_
  refine lv_sipush (v := 336) hx hb dX5_init_23 (by decide) ?_
  refine va_newa (atype := .int) (a0 := (336, .inl (fun _ => 0))) hx hb (hts (.arrayClass .int) (List.mem_of_getElem? (i := 4) rfl)) (ty := .int) rfl hK hP hD hS hA (na_int 336) (by decide) (by decide +kernel) (show 336 * 4 ≤ 536870912 by decide) (show 2 + 1 ≤ 5 by decide) (show 8008 + 336 ≤ 16361 by decide) dX5_init_26 (fun q_9 cA_10 H hK hP hD hS => ?_)
  have hK : va_K (dC, dI) vwCl [(cI, .int), (cA_10, .int)] s := hK
  obtain rfl := kU_int hK 0 1 rfl rfl
  have hK := hK.sub (tys' := [(cI, .int)]) [0] rfl
  have hP : va_P (dC, dI) vwCl [(h0, .inr (5, fs_8)), (q_9, .inl (cI, 336, .inl (fun _ => 0)))] H := hP
  have hD : va_D A [(h0, .inr (5, fs_8)), (q_9, .inl (cI, 336, .inl (fun _ => 0)))] := hD
  refine W.widen (k := 3) (n := 8344) (by decide) (by decide) ?_
  refine va_putF (D := (dC, dI)) (ci := 5) (v := .ref q_9) (ty := (.array .int)) (C := RX5) (T := TX5) (N := 10) hx hb hts hin_X5 tyX5 tyX5_ok nmX5 hown hK hP hD hS 0 rfl rfl 7 (by decide) (hts (.fieldLink RX5 20 "NeedHouse$Parser" "operands" "[I") (List.mem_of_getElem? (i := 7) rfl)) (fun _ h9 => h9) rfl hin rfl (by decide +kernel) rfl rfl (by rw [hF_7.1]; decide) dX5_init_28 (fun H locs hP hD hS => ?_)
  have hP : va_P (dC, dI) vwCl [(h0, .inr (5, (fs_8.set 7 (.ref q_9)))), (q_9, .inl (cI, 336, .inl (fun _ => 0)))] H := hP
  have hD : va_D A [(h0, .inr (5, (fs_8.set 7 (.ref q_9)))), (q_9, .inl (cI, 336, .inl (fun _ => 0)))] := hD
  have hF_11 := hF_7.set 7 (.ref q_9) (l' := [(7, .ref q_9), (6, .ref q_5), (5, .ref q_1), (8, .int 0), (9, .int 0)]) (by decide) rfl
  generalize fs_8.set 7 (.ref q_9) = fs_12 at hP hD hF_11
  have hP : va_P (dC, dI) vwCl [(h0, .inr (5, fs_12)), (q_9, .inl (cI, 336, .inl (fun _ => 0)))] H := hP
  have hD : va_D A [(h0, .inr (5, fs_12)), (q_9, .inl (cI, 336, .inl (fun _ => 0)))] := hD
  have hP := hP.sub (ws' := [(h0, .inr (5, fs_12))]) [0] rfl
  have hD := hD.sub (ws' := [(h0, .inr (5, fs_12))]) [0] (by decide) rfl
  refine lv_aload_n hx hb dX5_init_31 rfl (lv_at hl 0 rfl) ?_
  refine lv_aload_n hx hb dX5_init_32 rfl (lv_at hl 1 rfl) ?_
  refine va_putF (D := (dC, dI)) (ci := 5) (v := .ref p0) (ty := (.object "NeedHouse$Lexemes")) (C := RX5) (T := TX5) (N := 10) hx hb hts hin_X5 tyX5 tyX5_ok nmX5 hown hK hP hD hS 0 rfl rfl 0 (by decide) (hts (.fieldLink RX5 23 "NeedHouse$Parser" "lexemes" "LNeedHouse$Lexemes;") (List.mem_of_getElem? (i := 8) rfl)) (fun _ h9 => h9) rfl hin rfl (by decide +kernel) rfl rfl (by rw [hF_11.1]; decide) dX5_init_33 (fun H locs hP hD hS => ?_)
  have hP : va_P (dC, dI) vwCl [(h0, .inr (5, (fs_12.set 0 (.ref p0))))] H := hP
  have hD : va_D A [(h0, .inr (5, (fs_12.set 0 (.ref p0))))] := hD
  have hF_13 := hF_11.set 0 (.ref p0) (l' := [(0, .ref p0), (7, .ref q_9), (6, .ref q_5), (5, .ref q_1), (8, .int 0), (9, .int 0)]) (by decide) rfl
  generalize fs_12.set 0 (.ref p0) = fs_14 at hP hD hF_13
  have hP : va_P (dC, dI) vwCl [(h0, .inr (5, fs_14))] H := hP
  have hD : va_D A [(h0, .inr (5, fs_14))] := hD
  refine lv_aload_n hx hb dX5_init_36 rfl (lv_at hl 0 rfl) ?_
  refine lv_aload_n hx hb dX5_init_37 rfl (lv_at hl 2 rfl) ?_
  refine va_putF (D := (dC, dI)) (ci := 5) (v := .ref p1) (ty := (.object "NeedHouse$Tree")) (C := RX5) (T := TX5) (N := 10) hx hb hts hin_X5 tyX5 tyX5_ok nmX5 hown hK hP hD hS 0 rfl rfl 2 (by decide) (hts (.fieldLink RX5 27 "NeedHouse$Parser" "tree" "LNeedHouse$Tree;") (List.mem_of_getElem? (i := 9) rfl)) (fun _ h9 => h9) rfl hin rfl (by decide +kernel) rfl rfl (by rw [hF_13.1]; decide) dX5_init_38 (fun H locs hP hD hS => ?_)
  have hP : va_P (dC, dI) vwCl [(h0, .inr (5, (fs_14.set 2 (.ref p1))))] H := hP
  have hD : va_D A [(h0, .inr (5, (fs_14.set 2 (.ref p1))))] := hD
  have hF_15 := hF_13.set 2 (.ref p1) (l' := [(2, .ref p1), (0, .ref p0), (7, .ref q_9), (6, .ref q_5), (5, .ref q_1), (8, .int 0), (9, .int 0)]) (by decide) rfl
  generalize fs_14.set 2 (.ref p1) = fs_16 at hP hD hF_15
  have hP : va_P (dC, dI) vwCl [(h0, .inr (5, fs_16))] H := hP
  have hD : va_D A [(h0, .inr (5, fs_16))] := hD
  refine lv_aload_n hx hb dX5_init_41 rfl (lv_at hl 0 rfl) ?_
  refine lv_aload_n hx hb dX5_init_42 rfl (lv_at hl 3 rfl) ?_
  refine va_putF (D := (dC, dI)) (ci := 5) (v := .ref p2) (ty := (.object "NeedHouse$Told")) (C := RX5) (T := TX5) (N := 10) hx hb hts hin_X5 tyX5 tyX5_ok nmX5 hown hK hP hD hS 0 rfl rfl 3 (by decide) (hts (.fieldLink RX5 31 "NeedHouse$Parser" "told" "LNeedHouse$Told;") (List.mem_of_getElem? (i := 10) rfl)) (fun _ h9 => h9) rfl hin rfl (by decide +kernel) rfl rfl (by rw [hF_15.1]; decide) dX5_init_43 (fun H locs hP hD hS => ?_)
  have hP : va_P (dC, dI) vwCl [(h0, .inr (5, (fs_16.set 3 (.ref p2))))] H := hP
  have hD : va_D A [(h0, .inr (5, (fs_16.set 3 (.ref p2))))] := hD
  have hF_17 := hF_15.set 3 (.ref p2) (l' := [(3, .ref p2), (2, .ref p1), (0, .ref p0), (7, .ref q_9), (6, .ref q_5), (5, .ref q_1), (8, .int 0), (9, .int 0)]) (by decide) rfl
  generalize fs_16.set 3 (.ref p2) = fs_18 at hP hD hF_17
  have hP : va_P (dC, dI) vwCl [(h0, .inr (5, fs_18))] H := hP
  have hD : va_D A [(h0, .inr (5, fs_18))] := hD
  refine lv_aload_n hx hb dX5_init_46 rfl (lv_at hl 0 rfl) ?_
  refine lv_aload hx hb dX5_init_47 (lv_at hl 4 rfl) ?_
  refine va_putF (D := (dC, dI)) (ci := 5) (v := .ref p3) (ty := (.object "NeedHouse$Datas")) (C := RX5) (T := TX5) (N := 10) hx hb hts hin_X5 tyX5 tyX5_ok nmX5 hown hK hP hD hS 0 rfl rfl 4 (by decide) (hts (.fieldLink RX5 35 "NeedHouse$Parser" "datas" "LNeedHouse$Datas;") (List.mem_of_getElem? (i := 11) rfl)) (fun _ h9 => h9) rfl hin rfl (by decide +kernel) rfl rfl (by rw [hF_17.1]; decide) dX5_init_49 (fun H locs hP hD hS => ?_)
  have hP : va_P (dC, dI) vwCl [(h0, .inr (5, (fs_18.set 4 (.ref p3))))] H := hP
  have hD : va_D A [(h0, .inr (5, (fs_18.set 4 (.ref p3))))] := hD
  have hF_19 := hF_17.set 4 (.ref p3) (l' := [(4, .ref p3), (3, .ref p2), (2, .ref p1), (0, .ref p0), (7, .ref q_9), (6, .ref q_5), (5, .ref q_1), (8, .int 0), (9, .int 0)]) (by decide) rfl
  generalize fs_18.set 4 (.ref p3) = fs_20 at hP hD hF_19
  have hP : va_P (dC, dI) vwCl [(h0, .inr (5, fs_20))] H := hP
  have hD : va_D A [(h0, .inr (5, fs_20))] := hD
  refine lv_aload_n hx hb dX5_init_52 rfl (lv_at hl 0 rfl) ?_
  refine va_new (ci := 1) (fs := dfs 9 tyX1) (C := RX1) (T := TX1) (N := 9) hx hb hts hin_X1 tyX1 tyX1_ok hown (hts (.classLink RX5 39 RX1) (List.mem_of_getElem? (i := 12) rfl)) (hts (.instantiable RX1 9) (List.mem_of_getElem? (i := 13) rfl)) (hts (.initialized RX1) (List.mem_of_getElem? (i := 14) rfl)) hK hP hD hS hA rfl dfs_ok (show 3 + 1 ≤ 5 by decide) (show 8344 + 9 ≤ 16361 by decide) dX5_init_53 (fun q_21 H hP hD hS => ?_)
  have hP : va_P (dC, dI) vwCl [(h0, .inr (5, fs_20)), (q_21, .inr (1, (dfs 9 tyX1)))] H := hP
  have hD : va_D A [(h0, .inr (5, fs_20)), (q_21, .inr (1, (dfs 9 tyX1)))] := hD
  have hF_22 : hasF (dfs 9 tyX1) 9 [(2, .int 0), (3, .int 0), (4, .int 0), (5, .int 0), (6, .int 0), (7, .int 0), (8, .int 0)] := dfs_has (List.forall_mem_cons.mpr ⟨⟨by decide, rfl⟩, List.forall_mem_cons.mpr ⟨⟨by decide, rfl⟩, List.forall_mem_cons.mpr ⟨⟨by decide, rfl⟩, List.forall_mem_cons.mpr ⟨⟨by decide, rfl⟩, List.forall_mem_cons.mpr ⟨⟨by decide, rfl⟩, List.forall_mem_cons.mpr ⟨⟨by decide, rfl⟩, List.forall_mem_cons.mpr ⟨⟨by decide, rfl⟩, fun _ h => absurd h List.not_mem_nil⟩⟩⟩⟩⟩⟩⟩)
  generalize dfs 9 tyX1 = fs_23 at hP hD hF_22
  have hP : va_P (dC, dI) vwCl [(h0, .inr (5, fs_20)), (q_21, .inr (1, fs_23))] H := hP
  have hD : va_D A [(h0, .inr (5, fs_20)), (q_21, .inr (1, fs_23))] := hD
  refine W.widen (k := 4) (n := 8353) (by decide) (by decide) ?_
  refine lv_dup hx hb dX5_init_56 rfl ?_
  refine lv_aload_n hx hb dX5_init_57 rfl (lv_at hl 1 rfl) ?_
  have hPc := hP.sub (ws' := [(q_21, .inr (1, fs_23))]) [1] rfl
  have hDc := hD.sub (ws' := [(q_21, .inr (1, fs_23))]) [1] (by decide) rfl
  have hKc := hK.sub (tys' := [(cI, .int)]) [0] rfl
  have hFc := va_free (wc := [(q_21, .inr (1, fs_23))]) hD hS hA [1] rfl
  refine va_callv (va_runI (As := [.ref p0]) (rest := [.ref q_21, .ref h0]) ⟨hx, hb, hml, hown, hts⟩ (c_X1_init l dC dI H.size q_21 fs_23 cI p0 (hF_22.sub [0, 1, 2, 3, 4, 5, 6] rfl)) (cwI 1 hts g_c_X5_init_c_X1_init_58 rfl rfl rfl (hts (.initialized RX1) (List.mem_of_getElem? (i := 14) rfl)) (hts (.methodLink RX5 41 yX1_init) (List.mem_of_getElem? (i := 19) rfl)) (hts (.instanceMethod yX1_init) (List.mem_of_getElem? (i := 20) rfl)) rfl (by decide +kernel) ⟨Nat.le_of_ble_eq_true rfl, Nat.le_of_ble_eq_true rfl⟩) ⟨fun a U g mk q => by obtain ⟨q0, q1, qP, qK, qD⟩ := q; exact ⟨q0, q1, qP, va_K.moved (u := U) (U := U.calling g mk a) (Vm.Alike.refl U.vm) qK, qD⟩, fun U hU hW => ⟨rfl, by rw [hU], by rw [hU]; exact hPc, va_K.moved hW.alike hKc, hDc.weaken (fun _ _ _ _ => trivial)⟩⟩ rfl rfl hl.1 rfl (lv_room (Nat.le_of_ble_eq_true rfl)) dX5_init_58 ⟨show 4 + 1 ≤ 5 by decide, show 8353 + 8008 ≤ 16361 by decide⟩) hS (fun q _ h => hFc q h) hFc (fun u t H1 locs ht hvm hw hB hz1 hk1 hS => ?_)
  obtain ⟨fs1_26, a1__27⟩ := u
  obtain ⟨hP1, hK1, hD1⟩ := hB
  rw [ht] at hP1
  have hK1 := va_K.moved hvm.symm hK1
  try dsimp only at hw hP1 hK1 hD1
  have hF_28 := hw
  obtain ⟨hP, hD⟩ := va_join (wr := [(h0, .inr (5, fs_20))]) (w1 := [(q_21, .inr (1, fs1_26)), (a1__27, .inl (cI, 8008, .inl (fun _ => 0)))]) hP hD [1] [0] rfl rfl (by decide) (by decide) hk1 hFc hP1 hD1
  generalize H1 = H at hP hS ⊢
  have hK := (hK.sub (tys' := []) [] rfl).app hK1
  have hK : va_K (dC, dI) vwCl [(cI, .int)] s := hK
  have hP : va_P (dC, dI) vwCl [(h0, .inr (5, fs_20)), (q_21, .inr (1, fs1_26)), (a1__27, .inl (cI, 8008, .inl (fun _ => 0)))] H := hP
  have hD : va_D A [(h0, .inr (5, fs_20)), (q_21, .inr (1, fs1_26)), (a1__27, .inl (cI, 8008, .inl (fun _ => 0)))] := hD
  refine W.widen (k := 5) (n := 16361) (by decide) (by decide) ?_
  refine va_putF (D := (dC, dI)) (ci := 5) (v := .ref q_21) (ty := (.object "NeedHouse$Layout")) (C := RX5) (T := TX5) (N := 10) hx hb hts hin_X5 tyX5 tyX5_ok nmX5 hown hK hP hD hS 0 rfl rfl 1 (by decide) (hts (.fieldLink RX5 44 "NeedHouse$Parser" "layout" "LNeedHouse$Layout;") (List.mem_of_getElem? (i := 21) rfl)) (fun _ h9 => h9) rfl hin rfl (by decide +kernel) rfl rfl (by rw [hF_19.1]; decide) dX5_init_61 (fun H locs hP hD hS => ?_)
  have hP : va_P (dC, dI) vwCl [(h0, .inr (5, (fs_20.set 1 (.ref q_21)))), (q_21, .inr (1, fs1_26)), (a1__27, .inl (cI, 8008, .inl (fun _ => 0)))] H := hP
  have hD : va_D A [(h0, .inr (5, (fs_20.set 1 (.ref q_21)))), (q_21, .inr (1, fs1_26)), (a1__27, .inl (cI, 8008, .inl (fun _ => 0)))] := hD
  have hF_29 := hF_19.set 1 (.ref q_21) (l' := [(1, .ref q_21), (4, .ref p3), (3, .ref p2), (2, .ref p1), (0, .ref p0), (7, .ref q_9), (6, .ref q_5), (5, .ref q_1), (8, .int 0), (9, .int 0)]) (by decide) rfl
  generalize fs_20.set 1 (.ref q_21) = fs_30 at hP hD hF_29
  have hP : va_P (dC, dI) vwCl [(h0, .inr (5, fs_30)), (q_21, .inr (1, fs1_26)), (a1__27, .inl (cI, 8008, .inl (fun _ => 0)))] H := hP
  have hD : va_D A [(h0, .inr (5, fs_30)), (q_21, .inr (1, fs1_26)), (a1__27, .inl (cI, 8008, .inl (fun _ => 0)))] := hD
  have hP9 := hP.sub (ws' := [(h0, .inr (5, fs_30)), (q_21, .inr (1, fs1_26)), (a1__27, .inl (cI, 8008, .inl (fun _ => 0)))]) [0, 1, 2] rfl
  have hD9 := hD.sub (ws' := [(h0, .inr (5, fs_30)), (q_21, .inr (1, fs1_26)), (a1__27, .inl (cI, 8008, .inl (fun _ => 0)))]) [0, 1, 2] (by decide) rfl
  have hK9 := hK.sub (tys' := [(cI, .int)]) [0] rfl
  exact W.vret hx hb hr (fun t ht hW => ⟨⟨((fs_30, q_21, fs1_26, a1__27)), rfl, ⟨hF_29.sub [4, 0, 3, 2, 1, 8, 9] rfl, hF_28.sub [0, 1, 2, 3, 4, 5, 6, 7, 8] rfl⟩, by rw [ht]; exact hP9, va_K.moved hW.alike hK9, hD9⟩, hS.F ht⟩) hS.2.2 dX5_init_64
def pw_c_X3_init : List Cond := .code yX3_init cX3_init 6 none :: ([.code objectInit ⟨#[0xb1]⟩ 1 none, .methodLink RX3 3 objectInit, .instanceMethod objectInit, .arrayClass .int, .fieldLink RX3 11 "NeedHouse$Machine" "output" "[I", .fieldLink RX3 15 "NeedHouse$Machine" "tree" "LNeedHouse$Tree;", .fieldLink RX3 19 "NeedHouse$Machine" "told" "LNeedHouse$Told;", .fieldLink RX3 23 "NeedHouse$Machine" "datas" "LNeedHouse$Datas;", .fieldLink RX3 27 "NeedHouse$Machine" "needs" "LNeedHouse$Needs;", .classLink RX3 31 RX7, .instantiable RX7 22, .initialized RX7, .code yX7_init cX7_init 5 none, .methodLink RX7 3 objectInit, .arrayClass .long, .fieldLink RX7 11 "NeedHouse$Store" "heap" "[J", .fieldLink RX7 15 "NeedHouse$Store" "spare" "[J", .fieldLink RX7 20 "NeedHouse$Store" "variable" "[J", .fieldLink RX7 23 "NeedHouse$Store" "argument" "[J", .fieldLink RX7 26 "NeedHouse$Store" "frame" "[I", .fieldLink RX7 30 "NeedHouse$Store" "frameFrom" "[I", .fieldLink RX7 33 "NeedHouse$Store" "saved" "[J", .fieldLink RX7 36 "NeedHouse$Store" "globalState" "[I", .fieldLink RX7 39 "NeedHouse$Store" "globalValue" "[J", .fieldLink RX7 42 "NeedHouse$Store" "unfilled" "[I", .fieldLink RX7 45 "NeedHouse$Store" "tree" "LNeedHouse$Tree;", .fieldLink RX7 49 "NeedHouse$Store" "told" "LNeedHouse$Told;", .fieldLink RX7 53 "NeedHouse$Store" "datas" "LNeedHouse$Datas;", .fieldLink RX7 57 "NeedHouse$Store" "needs" "LNeedHouse$Needs;", .methodLink RX3 33 yX7_init, .instanceMethod yX7_init, .fieldLink RX3 36 "NeedHouse$Machine" "store" "LNeedHouse$Store;", .classLink RX3 40 RX6, .instantiable RX6 3, .initialized RX6, .code yX6_init cX6_init 3 none, .methodLink RX6 3 objectInit, .fieldLink RX6 9 "NeedHouse$Sheet" "lexemes" "LNeedHouse$Lexemes;", .arrayClass .byte, .fieldLink RX6 15 "NeedHouse$Sheet" "row" "[B", .fieldLink RX6 19 "NeedHouse$Sheet" "size" "I", .methodLink RX3 42 yX6_init, .instanceMethod yX6_init, .fieldLink RX3 45 "NeedHouse$Machine" "text" "LNeedHouse$Sheet;"] ++ (wsX30 ++ (wsX70 ++ (wsX60 ++ []))))
set_option maxRecDepth 20000 in
theorem g_c_X3_init_c_X7_init_46 : GoodIn pw_c_X3_init (pw_c_X7_init) := goodIn_r _ [13, 1, 14, 3, 15, 16, 17, 18, 19, 4, 20, 21, 22, 23, 24, 25, 26, 27, 28, 29, 59, 60, 61, 62, 63, 64, 65, 66, 67, 68, 69, 70, 71, 72, 73, 74, 75, 76, 77, 78, 79, 80] rfl (by decide +kernel)
set_option maxRecDepth 20000 in
theorem g_c_X3_init_c_X6_init_1000_61 : GoodIn pw_c_X3_init (pw_c_X6_init_1000) := goodIn_r _ [36, 1, 37, 3, 38, 39, 40, 41, 81, 82, 83] rfl (by decide +kernel)
set_option maxHeartbeats 4000000 in
set_option maxRecDepth 100000 in
theorem c_X3_init (l : Launch) (dC : Nat → ClassId) (dI : Nat → Nat → Nat) (sz : Nat) (h0 : Nat) (fs : List Value) (cI : ClassId) (cL : ClassId) (cB : ClassId) (p0 : Nat) (p1 : Nat) (p2 : Nat) (p3 : Nat) (p4 : Nat) (hF : hasF fs 14 [(7, .int 0), (8, .int 0), (9, .int 0), (10, .int 0), (11, .int 0), (12, .long 0), (13, .int 0)]) : Met l yX3_init pw_c_X3_init ({ frames := 2, cells := 14, slots := 28153, locals := 36 }) (va_Pc [.ref h0, .ref p0, .ref p1, .ref p2, .ref p3, .ref p4] (fun U => U.heap.size = sz ∧ va_P (dC, dI) vwCl [(h0, .inr (3, fs))] U.heap ∧ va_K (dC, dI) vwCl [(cI, .int), (cL, .long), (cB, .byte)] U ∧ va_D (fun _ => True) [(h0, .inr (3, fs))])) (va_Qv (fun (u : (List Value) × (Nat) × (List Value)) => hasF u.1 14 [(0, .ref p1), (1, .ref p2), (2, .ref p3), (3, .ref p4), (5, .ref u.2.1), (7, .int 0), (8, .int 0), (9, .int 0), (10, .int 0), (11, .int 0), (12, .long 0), (13, .int 0)] ∧ hasF u.2.2 3 [(0, .ref p0), (2, .int 0)]) (fun (u : (List Value) × (Nat) × (List Value)) (t : State) => va_P (dC, dI) vwCl [(h0, .inr (3, u.1)), (u.2.1, .inr (6, u.2.2))] t.heap ∧ va_K (dC, dI) vwCl [(cI, .int), (cL, .long), (cB, .byte)] t ∧ va_D (va_A [(h0, .inr (3, fs))] sz) [(h0, .inr (3, u.1)), (u.2.1, .inr (6, u.2.2))]) (va_A [(h0, .inr (3, fs))] sz)) 14 28153 (va_A [(h0, .inr (3, fs))] sz) := by
  refine Met.ofW (cc := cX3_init) (maxL := 6) (ret := none) (by decide) rfl ?_
  intro p e s m args below meth c s₁ B hml hv
  obtain ⟨rfl, hsz, hP, hK, hD0⟩ := hv
  have hx := B.exec
  have hb := B.bytes
  have hr := B.returns
  have hts := atoms_spec (ws := pw_c_X3_init) B.pre
  have hown : s.vm.findClass RX3 = some m.cls := findClass_of_methodNamed B.named
  have hlocks := B.notSynchronized
  have hin : meth.name = "<init>" := (name_of_methodNamed B.named B.method).1
  have hin_X3 : ∀ w ∈ u_ws RX3 TX3 14, w ∈ pw_c_X3_init := fun w h => List.mem_cons_of_mem _ (List.mem_append_right _ (List.mem_append_left _ h))
  have hin_X7 : ∀ w ∈ u_ws RX7 TX7 22, w ∈ pw_c_X3_init := fun w h => List.mem_cons_of_mem _ (List.mem_append_right _ (List.mem_append_right _ (List.mem_append_left _ h)))
  have hin_X6 : ∀ w ∈ u_ws RX6 TX6 3, w ∈ pw_c_X3_init := fun w h => List.mem_cons_of_mem _ (List.mem_append_right _ (List.mem_append_right _ (List.mem_append_right _ (List.mem_append_left _ h))))
  subst hsz
  have hD := hD0.self (sz := s.heap.size)
  generalize hAe : va_A [(h0, .inr (3, fs))] s.heap.size = A at hD ⊢
  have hA : ∀ q : Nat, s.heap.size ≤ q → A q := fun q h => by rw [← hAe]; exact Or.inr h
  have hS : va_S A s.heap s.heap [] := va_S.rf
  have hP : va_P (dC, dI) vwCl [(h0, .inr (3, fs))] s.heap := hP
  have hl := lv_entry ([.ref h0, .ref p0, .ref p1, .ref p2, .ref p3, .ref p4]) (n := 6) (Nat.le_of_ble_eq_true rfl)
  rw [lg_entry_eq]
  generalize (lg_sl ([.ref h0, .ref p0, .ref p1, .ref p2, .ref p3, .ref p4]) ++ List.replicate (6 - (lg_sl ([.ref h0, .ref p0, .ref p1, .ref p2, .ref p3, .ref p4])).length) Slot.unset).toArray = ls at hl ⊢
  have hl : lv_has ls 6 [(0, .ref h0), (1, .ref p0), (2, .ref p1), (3, .ref p2), (4, .ref p3), (5, .ref p4)] := hl
  refine lv_aload_n hx hb dX3_init_0 rfl (lv_at hl 0 rfl) ?_
  refine W.objInit hx hb hown (hts (.methodLink RX3 3 objectInit) (List.mem_of_getElem? (i := 2) rfl)) (hts (.instanceMethod objectInit) (List.mem_of_getElem? (i := 3) rfl)) (hts _ (List.mem_of_getElem? (i := 1) rfl)) rfl (by rw [hml]; exact hl.1) rfl dX3_init_1 (Nat.le_of_ble_eq_true rfl) (Nat.le_of_ble_eq_true rfl) ?_
  refine W.eq (g2 := F0 m 4 ls []) rfl ?_
  refine lv_aload_n hx hb dX3_init_4 rfl (lv_at hl 0 rfl) ?_
  refine lv_sipush (v := 500) hx hb dX3_init_5 (by decide) ?_
  refine va_newa (atype := .int) (a0 := (500, .inl (fun _ => 0))) hx hb (hts (.arrayClass .int) (List.mem_of_getElem? (i := 4) rfl)) (ty := .int) rfl hK hP hD hS hA (na_int 500) (by decide) (by decide +kernel) (show 500 * 4 ≤ 536870912 by decide) (show 0 + 1 ≤ 14 by decide) (show 0 + 500 ≤ 28153 by decide) dX3_init_8 (fun q_1 cA_2 H hK hP hD hS => ?_)
  have hK : va_K (dC, dI) vwCl [(cI, .int), (cL, .long), (cB, .byte), (cA_2, .int)] s := hK
  obtain rfl := kU_int hK 0 3 rfl rfl
  have hK := hK.sub (tys' := [(cI, .int), (cL, .long), (cB, .byte)]) [0, 1, 2] rfl
  have hP : va_P (dC, dI) vwCl [(h0, .inr (3, fs)), (q_1, .inl (cI, 500, .inl (fun _ => 0)))] H := hP
  have hD : va_D A [(h0, .inr (3, fs)), (q_1, .inl (cI, 500, .inl (fun _ => 0)))] := hD
  refine W.widen (k := 1) (n := 500) (by decide) (by decide) ?_
  refine va_putF (D := (dC, dI)) (ci := 3) (v := .ref q_1) (ty := (.array .int)) (C := RX3) (T := TX3) (N := 14) hx hb hts hin_X3 tyX3 tyX3_ok nmX3 hown hK hP hD hS 0 rfl rfl 6 (by decide) (hts (.fieldLink RX3 11 "NeedHouse$Machine" "output" "[I") (List.mem_of_getElem? (i := 5) rfl)) (fun _ h9 => h9) rfl hin rfl (by decide +kernel) rfl rfl (by rw [hF.1]; decide) dX3_init_10 (fun H locs hP hD hS => ?_)
  have hP : va_P (dC, dI) vwCl [(h0, .inr (3, (fs.set 6 (.ref q_1)))), (q_1, .inl (cI, 500, .inl (fun _ => 0)))] H := hP
  have hD : va_D A [(h0, .inr (3, (fs.set 6 (.ref q_1)))), (q_1, .inl (cI, 500, .inl (fun _ => 0)))] := hD
  have hF_3 := hF.set 6 (.ref q_1) (l' := [(6, .ref q_1), (7, .int 0), (8, .int 0), (9, .int 0), (10, .int 0), (11, .int 0), (12, .long 0), (13, .int 0)]) (by decide) rfl
  generalize fs.set 6 (.ref q_1) = fs_4 at hP hD hF_3
  have hP : va_P (dC, dI) vwCl [(h0, .inr (3, fs_4)), (q_1, .inl (cI, 500, .inl (fun _ => 0)))] H := hP
  have hD : va_D A [(h0, .inr (3, fs_4)), (q_1, .inl (cI, 500, .inl (fun _ => 0)))] := hD
  have hP := hP.sub (ws' := [(h0, .inr (3, fs_4))]) [0] rfl
  have hD := hD.sub (ws' := [(h0, .inr (3, fs_4))]) [0] (by decide) rfl
  refine lv_aload_n hx hb dX3_init_13 rfl (lv_at hl 0 rfl) ?_
  refine lv_aload_n hx hb dX3_init_14 rfl (lv_at hl 2 rfl) ?_
  refine va_putF (D := (dC, dI)) (ci := 3) (v := .ref p1) (ty := (.object "NeedHouse$Tree")) (C := RX3) (T := TX3) (N := 14) hx hb hts hin_X3 tyX3 tyX3_ok nmX3 hown hK hP hD hS 0 rfl rfl 0 (by decide) (hts (.fieldLink RX3 15 "NeedHouse$Machine" "tree" "LNeedHouse$Tree;") (List.mem_of_getElem? (i := 6) rfl)) (fun _ h9 => h9) rfl hin rfl (by decide +kernel) rfl rfl (by rw [hF_3.1]; decide) dX3_init_15 (fun H locs hP hD hS => ?_)
  have hP : va_P (dC, dI) vwCl [(h0, .inr (3, (fs_4.set 0 (.ref p1))))] H := hP
  have hD : va_D A [(h0, .inr (3, (fs_4.set 0 (.ref p1))))] := hD
  have hF_5 := hF_3.set 0 (.ref p1) (l' := [(0, .ref p1), (6, .ref q_1), (7, .int 0), (8, .int 0), (9, .int 0), (10, .int 0), (11, .int 0), (12, .long 0), (13, .int 0)]) (by decide) rfl
  generalize fs_4.set 0 (.ref p1) = fs_6 at hP hD hF_5
  have hP : va_P (dC, dI) vwCl [(h0, .inr (3, fs_6))] H := hP
  have hD : va_D A [(h0, .inr (3, fs_6))] := hD
  refine lv_aload_n hx hb dX3_init_18 rfl (lv_at hl 0 rfl) ?_
  refine lv_aload_n hx hb dX3_init_19 rfl (lv_at hl 3 rfl) ?_
  refine va_putF (D := (dC, dI)) (ci := 3) (v := .ref p2) (ty := (.object "NeedHouse$Told")) (C := RX3) (T := TX3) (N := 14) hx hb hts hin_X3 tyX3 tyX3_ok nmX3 hown hK hP hD hS 0 rfl rfl 1 (by decide) (hts (.fieldLink RX3 19 "NeedHouse$Machine" "told" "LNeedHouse$Told;") (List.mem_of_getElem? (i := 7) rfl)) (fun _ h9 => h9) rfl hin rfl (by decide +kernel) rfl rfl (by rw [hF_5.1]; decide) dX3_init_20 (fun H locs hP hD hS => ?_)
  have hP : va_P (dC, dI) vwCl [(h0, .inr (3, (fs_6.set 1 (.ref p2))))] H := hP
  have hD : va_D A [(h0, .inr (3, (fs_6.set 1 (.ref p2))))] := hD
  have hF_7 := hF_5.set 1 (.ref p2) (l' := [(1, .ref p2), (0, .ref p1), (6, .ref q_1), (7, .int 0), (8, .int 0), (9, .int 0), (10, .int 0), (11, .int 0), (12, .long 0), (13, .int 0)]) (by decide) rfl
  generalize fs_6.set 1 (.ref p2) = fs_8 at hP hD hF_7
  have hP : va_P (dC, dI) vwCl [(h0, .inr (3, fs_8))] H := hP
  have hD : va_D A [(h0, .inr (3, fs_8))] := hD
  refine lv_aload_n hx hb dX3_init_23 rfl (lv_at hl 0 rfl) ?_
  refine lv_aload hx hb dX3_init_24 (lv_at hl 4 rfl) ?_
  refine va_putF (D := (dC, dI)) (ci := 3) (v := .ref p3) (ty := (.object "NeedHouse$Datas")) (C := RX3) (T := TX3) (N := 14) hx hb hts hin_X3 tyX3 tyX3_ok nmX3 hown hK hP hD hS 0 rfl rfl 2 (by decide) (hts (.fieldLink RX3 23 "NeedHouse$Machine" "datas" "LNeedHouse$Datas;") (List.mem_of_getElem? (i := 8) rfl)) (fun _ h9 => h9) rfl hin rfl (by decide +kernel) rfl rfl (by rw [hF_7.1]; decide) dX3_init_26 (fun H locs hP hD hS => ?_)
  have hP : va_P (dC, dI) vwCl [(h0, .inr (3, (fs_8.set 2 (.ref p3))))] H := hP
  have hD : va_D A [(h0, .inr (3, (fs_8.set 2 (.ref p3))))] := hD
  have hF_9 := hF_7.set 2 (.ref p3) (l' := [(2, .ref p3), (1, .ref p2), (0, .ref p1), (6, .ref q_1), (7, .int 0), (8, .int 0), (9, .int 0), (10, .int 0), (11, .int 0), (12, .long 0), (13, .int 0)]) (by decide) rfl
  generalize fs_8.set 2 (.ref p3) = fs_10 at hP hD hF_9
  have hP : va_P (dC, dI) vwCl [(h0, .inr (3, fs_10))] H := hP
  have hD : va_D A [(h0, .inr (3, fs_10))] := hD
  refine lv_aload_n hx hb dX3_init_29 rfl (lv_at hl 0 rfl) ?_
  refine lv_aload hx hb dX3_init_30 (lv_at hl 5 rfl) ?_
  refine va_putF (D := (dC, dI)) (ci := 3) (v := .ref p4) (ty := (.object "NeedHouse$Needs")) (C := RX3) (T := TX3) (N := 14) hx hb hts hin_X3 tyX3 tyX3_ok nmX3 hown hK hP hD hS 0 rfl rfl 3 (by decide) (hts (.fieldLink RX3 27 "NeedHouse$Machine" "needs" "LNeedHouse$Needs;") (List.mem_of_getElem? (i := 9) rfl)) (fun _ h9 => h9) rfl hin rfl (by decide +kernel) rfl rfl (by rw [hF_9.1]; decide) dX3_init_32 (fun H locs hP hD hS => ?_)
  have hP : va_P (dC, dI) vwCl [(h0, .inr (3, (fs_10.set 3 (.ref p4))))] H := hP
  have hD : va_D A [(h0, .inr (3, (fs_10.set 3 (.ref p4))))] := hD
  have hF_11 := hF_9.set 3 (.ref p4) (l' := [(3, .ref p4), (2, .ref p3), (1, .ref p2), (0, .ref p1), (6, .ref q_1), (7, .int 0), (8, .int 0), (9, .int 0), (10, .int 0), (11, .int 0), (12, .long 0), (13, .int 0)]) (by decide) rfl
  generalize fs_10.set 3 (.ref p4) = fs_12 at hP hD hF_11
  have hP : va_P (dC, dI) vwCl [(h0, .inr (3, fs_12))] H := hP
  have hD : va_D A [(h0, .inr (3, fs_12))] := hD
  refine lv_aload_n hx hb dX3_init_35 rfl (lv_at hl 0 rfl) ?_
  refine va_new (ci := 7) (fs := dfs 22 tyX7) (C := RX7) (T := TX7) (N := 22) hx hb hts hin_X7 tyX7 tyX7_ok hown (hts (.classLink RX3 31 RX7) (List.mem_of_getElem? (i := 10) rfl)) (hts (.instantiable RX7 22) (List.mem_of_getElem? (i := 11) rfl)) (hts (.initialized RX7) (List.mem_of_getElem? (i := 12) rfl)) hK hP hD hS hA rfl dfs_ok (show 1 + 1 ≤ 14 by decide) (show 500 + 22 ≤ 28153 by decide) dX3_init_36 (fun q_13 H hP hD hS => ?_)
  have hP : va_P (dC, dI) vwCl [(h0, .inr (3, fs_12)), (q_13, .inr (7, (dfs 22 tyX7)))] H := hP
  have hD : va_D A [(h0, .inr (3, fs_12)), (q_13, .inr (7, (dfs 22 tyX7)))] := hD
  have hF_14 : hasF (dfs 22 tyX7) 22 [(6, .int 0), (7, .int 0), (10, .int 0), (13, .int 0), (15, .int 0), (19, .int 0), (20, .int 0), (21, .long 0)] := dfs_has (List.forall_mem_cons.mpr ⟨⟨by decide, rfl⟩, List.forall_mem_cons.mpr ⟨⟨by decide, rfl⟩, List.forall_mem_cons.mpr ⟨⟨by decide, rfl⟩, List.forall_mem_cons.mpr ⟨⟨by decide, rfl⟩, List.forall_mem_cons.mpr ⟨⟨by decide, rfl⟩, List.forall_mem_cons.mpr ⟨⟨by decide, rfl⟩, List.forall_mem_cons.mpr ⟨⟨by decide, rfl⟩, List.forall_mem_cons.mpr ⟨⟨by decide, rfl⟩, fun _ h => absurd h List.not_mem_nil⟩⟩⟩⟩⟩⟩⟩⟩)
  generalize dfs 22 tyX7 = fs_15 at hP hD hF_14
  have hP : va_P (dC, dI) vwCl [(h0, .inr (3, fs_12)), (q_13, .inr (7, fs_15))] H := hP
  have hD : va_D A [(h0, .inr (3, fs_12)), (q_13, .inr (7, fs_15))] := hD
  refine W.widen (k := 2) (n := 522) (by decide) (by decide) ?_
  refine lv_dup hx hb dX3_init_39 rfl ?_
  refine lv_aload_n hx hb dX3_init_40 rfl (lv_at hl 2 rfl) ?_
  refine lv_aload_n hx hb dX3_init_41 rfl (lv_at hl 3 rfl) ?_
  refine lv_aload hx hb dX3_init_42 (lv_at hl 4 rfl) ?_
  refine lv_aload hx hb dX3_init_44 (lv_at hl 5 rfl) ?_
  have hPc := hP.sub (ws' := [(q_13, .inr (7, fs_15))]) [1] rfl
  have hDc := hD.sub (ws' := [(q_13, .inr (7, fs_15))]) [1] (by decide) rfl
  have hKc := hK.sub (tys' := [(cI, .int), (cL, .long)]) [0, 1] rfl
  have hFc := va_free (wc := [(q_13, .inr (7, fs_15))]) hD hS hA [1] rfl
  refine va_callv (va_runI (As := [.ref p1, .ref p2, .ref p3, .ref p4]) (rest := [.ref q_13, .ref h0]) ⟨hx, hb, hml, hown, hts⟩ (c_X7_init l dC dI H.size q_13 fs_15 cI cL p1 p2 p3 p4 (hF_14.sub [0, 1, 2, 3, 4, 5, 6, 7] rfl)) (cwI 4 hts g_c_X3_init_c_X7_init_46 rfl rfl rfl (hts (.initialized RX7) (List.mem_of_getElem? (i := 12) rfl)) (hts (.methodLink RX3 33 yX7_init) (List.mem_of_getElem? (i := 30) rfl)) (hts (.instanceMethod yX7_init) (List.mem_of_getElem? (i := 31) rfl)) rfl (by decide +kernel) ⟨Nat.le_of_ble_eq_true rfl, Nat.le_of_ble_eq_true rfl⟩) ⟨fun a U g mk q => by obtain ⟨q0, q1, qP, qK, qD⟩ := q; exact ⟨q0, q1, qP, va_K.moved (u := U) (U := U.calling g mk a) (Vm.Alike.refl U.vm) qK, qD⟩, fun U hU hW => ⟨rfl, by rw [hU], by rw [hU]; exact hPc, va_K.moved hW.alike hKc, hDc.weaken (fun _ _ _ _ => trivial)⟩⟩ rfl rfl hl.1 rfl (lv_room (Nat.le_of_ble_eq_true rfl)) dX3_init_46 ⟨show 2 + 10 ≤ 14 by decide, show 522 + 26628 ≤ 28153 by decide⟩) hS (fun q _ h => hFc q h) hFc (fun u t H1 locs ht hvm hw hB hz1 hk1 hS => ?_)
  obtain ⟨fs1_18, rfl⟩ : ∃ z, z = u := ⟨_, rfl⟩
  obtain ⟨hP1, hK1, hD1⟩ := hB
  rw [ht] at hP1
  have hK1 := va_K.moved hvm.symm hK1
  try dsimp only at hw hP1 hK1 hD1
  have hF_19 := hw
  obtain ⟨hP, hD⟩ := va_join (wr := [(h0, .inr (3, fs_12))]) (w1 := [(q_13, .inr (7, fs1_18))]) hP hD [1] [0] rfl rfl (by decide) (by decide) hk1 hFc hP1 hD1
  generalize H1 = H at hP hS ⊢
  have hK := (hK.sub (tys' := [(cB, .byte)]) [2] rfl).app hK1
  have hK : va_K (dC, dI) vwCl [(cB, .byte), (cI, .int), (cL, .long)] s := hK
  have hP : va_P (dC, dI) vwCl [(h0, .inr (3, fs_12)), (q_13, .inr (7, fs1_18))] H := hP
  have hD : va_D A [(h0, .inr (3, fs_12)), (q_13, .inr (7, fs1_18))] := hD
  refine W.widen (k := 12) (n := 27150) (by decide) (by decide) ?_
  refine va_putF (D := (dC, dI)) (ci := 3) (v := .ref q_13) (ty := (.object "NeedHouse$Store")) (C := RX3) (T := TX3) (N := 14) hx hb hts hin_X3 tyX3 tyX3_ok nmX3 hown hK hP hD hS 0 rfl rfl 4 (by decide) (hts (.fieldLink RX3 36 "NeedHouse$Machine" "store" "LNeedHouse$Store;") (List.mem_of_getElem? (i := 32) rfl)) (fun _ h9 => h9) rfl hin rfl (by decide +kernel) rfl rfl (by rw [hF_11.1]; decide) dX3_init_49 (fun H locs hP hD hS => ?_)
  have hP : va_P (dC, dI) vwCl [(h0, .inr (3, (fs_12.set 4 (.ref q_13)))), (q_13, .inr (7, fs1_18))] H := hP
  have hD : va_D A [(h0, .inr (3, (fs_12.set 4 (.ref q_13)))), (q_13, .inr (7, fs1_18))] := hD
  have hF_20 := hF_11.set 4 (.ref q_13) (l' := [(4, .ref q_13), (3, .ref p4), (2, .ref p3), (1, .ref p2), (0, .ref p1), (6, .ref q_1), (7, .int 0), (8, .int 0), (9, .int 0), (10, .int 0), (11, .int 0), (12, .long 0), (13, .int 0)]) (by decide) rfl
  generalize fs_12.set 4 (.ref q_13) = fs_21 at hP hD hF_20
  have hP : va_P (dC, dI) vwCl [(h0, .inr (3, fs_21)), (q_13, .inr (7, fs1_18))] H := hP
  have hD : va_D A [(h0, .inr (3, fs_21)), (q_13, .inr (7, fs1_18))] := hD
  refine lv_aload_n hx hb dX3_init_52 rfl (lv_at hl 0 rfl) ?_
  refine va_new (ci := 6) (fs := dfs 3 tyX6) (C := RX6) (T := TX6) (N := 3) hx hb hts hin_X6 tyX6 tyX6_ok hown (hts (.classLink RX3 40 RX6) (List.mem_of_getElem? (i := 33) rfl)) (hts (.instantiable RX6 3) (List.mem_of_getElem? (i := 34) rfl)) (hts (.initialized RX6) (List.mem_of_getElem? (i := 35) rfl)) hK hP hD hS hA rfl dfs_ok (show 12 + 1 ≤ 14 by decide) (show 27150 + 3 ≤ 28153 by decide) dX3_init_53 (fun q_22 H hP hD hS => ?_)
  have hP : va_P (dC, dI) vwCl [(h0, .inr (3, fs_21)), (q_13, .inr (7, fs1_18)), (q_22, .inr (6, (dfs 3 tyX6)))] H := hP
  have hD : va_D A [(h0, .inr (3, fs_21)), (q_13, .inr (7, fs1_18)), (q_22, .inr (6, (dfs 3 tyX6)))] := hD
  have hF_23 : hasF (dfs 3 tyX6) 3 [(2, .int 0)] := dfs_has (List.forall_mem_cons.mpr ⟨⟨by decide, rfl⟩, fun _ h => absurd h List.not_mem_nil⟩)
  generalize dfs 3 tyX6 = fs_24 at hP hD hF_23
  have hP : va_P (dC, dI) vwCl [(h0, .inr (3, fs_21)), (q_13, .inr (7, fs1_18)), (q_22, .inr (6, fs_24))] H := hP
  have hD : va_D A [(h0, .inr (3, fs_21)), (q_13, .inr (7, fs1_18)), (q_22, .inr (6, fs_24))] := hD
  refine W.widen (k := 13) (n := 27153) (by decide) (by decide) ?_
  refine lv_dup hx hb dX3_init_56 rfl ?_
  refine lv_aload_n hx hb dX3_init_57 rfl (lv_at hl 1 rfl) ?_
  refine lv_sipush (v := 1000) hx hb dX3_init_58 (by decide) ?_
  have hPc := hP.sub (ws' := [(q_22, .inr (6, fs_24))]) [2] rfl
  have hDc := hD.sub (ws' := [(q_22, .inr (6, fs_24))]) [2] (by decide) rfl
  have hKc := hK.sub (tys' := [(cB, .byte)]) [0] rfl
  have hFc := va_free (wc := [(q_22, .inr (6, fs_24))]) hD hS hA [2] rfl
  refine va_callv (va_runI (As := [.ref p0, .int 1000]) (rest := [.ref q_22, .ref h0]) ⟨hx, hb, hml, hown, hts⟩ (c_X6_init_1000 l dC dI H.size q_22 fs_24 cB p0 (hF_23.sub [0] rfl)) (cwI 2 hts g_c_X3_init_c_X6_init_1000_61 rfl rfl rfl (hts (.initialized RX6) (List.mem_of_getElem? (i := 35) rfl)) (hts (.methodLink RX3 42 yX6_init) (List.mem_of_getElem? (i := 42) rfl)) (hts (.instanceMethod yX6_init) (List.mem_of_getElem? (i := 43) rfl)) rfl (by decide +kernel) ⟨Nat.le_of_ble_eq_true rfl, Nat.le_of_ble_eq_true rfl⟩) ⟨fun a U g mk q => by obtain ⟨q0, q1, qP, qK, qD⟩ := q; exact ⟨q0, q1, qP, va_K.moved (u := U) (U := U.calling g mk a) (Vm.Alike.refl U.vm) qK, qD⟩, fun U hU hW => ⟨rfl, by rw [hU], by rw [hU]; exact hPc, va_K.moved hW.alike hKc, hDc.weaken (fun _ _ _ _ => trivial)⟩⟩ rfl rfl hl.1 rfl (lv_room (Nat.le_of_ble_eq_true rfl)) dX3_init_61 ⟨show 13 + 1 ≤ 14 by decide, show 27153 + 1000 ≤ 28153 by decide⟩) hS (fun q _ h => hFc q h) hFc (fun u t H1 locs ht hvm hw hB hz1 hk1 hS => ?_)
  obtain ⟨fs1_27, rfl⟩ : ∃ z, z = u := ⟨_, rfl⟩
  obtain ⟨hP1, hK1, hD1⟩ := hB
  rw [ht] at hP1
  have hK1 := va_K.moved hvm.symm hK1
  try dsimp only at hw hP1 hK1 hD1
  have hF_28 := hw
  obtain ⟨hP, hD⟩ := va_join (wr := [(h0, .inr (3, fs_21)), (q_13, .inr (7, fs1_18))]) (w1 := [(q_22, .inr (6, fs1_27))]) hP hD [2] [0, 1] rfl rfl (by decide) (by decide) hk1 hFc hP1 hD1
  generalize H1 = H at hP hS ⊢
  have hK := (hK.sub (tys' := [(cI, .int), (cL, .long)]) [1, 2] rfl).app hK1
  have hK : va_K (dC, dI) vwCl [(cI, .int), (cL, .long), (cB, .byte)] s := hK
  have hP : va_P (dC, dI) vwCl [(h0, .inr (3, fs_21)), (q_13, .inr (7, fs1_18)), (q_22, .inr (6, fs1_27))] H := hP
  have hD : va_D A [(h0, .inr (3, fs_21)), (q_13, .inr (7, fs1_18)), (q_22, .inr (6, fs1_27))] := hD
  refine W.widen (k := 14) (n := 28153) (by decide) (by decide) ?_
  refine va_putF (D := (dC, dI)) (ci := 3) (v := .ref q_22) (ty := (.object "NeedHouse$Sheet")) (C := RX3) (T := TX3) (N := 14) hx hb hts hin_X3 tyX3 tyX3_ok nmX3 hown hK hP hD hS 0 rfl rfl 5 (by decide) (hts (.fieldLink RX3 45 "NeedHouse$Machine" "text" "LNeedHouse$Sheet;") (List.mem_of_getElem? (i := 44) rfl)) (fun _ h9 => h9) rfl hin rfl (by decide +kernel) rfl rfl (by rw [hF_20.1]; decide) dX3_init_64 (fun H locs hP hD hS => ?_)
  have hP : va_P (dC, dI) vwCl [(h0, .inr (3, (fs_21.set 5 (.ref q_22)))), (q_13, .inr (7, fs1_18)), (q_22, .inr (6, fs1_27))] H := hP
  have hD : va_D A [(h0, .inr (3, (fs_21.set 5 (.ref q_22)))), (q_13, .inr (7, fs1_18)), (q_22, .inr (6, fs1_27))] := hD
  have hF_29 := hF_20.set 5 (.ref q_22) (l' := [(5, .ref q_22), (4, .ref q_13), (3, .ref p4), (2, .ref p3), (1, .ref p2), (0, .ref p1), (6, .ref q_1), (7, .int 0), (8, .int 0), (9, .int 0), (10, .int 0), (11, .int 0), (12, .long 0), (13, .int 0)]) (by decide) rfl
  generalize fs_21.set 5 (.ref q_22) = fs_30 at hP hD hF_29
  have hP : va_P (dC, dI) vwCl [(h0, .inr (3, fs_30)), (q_13, .inr (7, fs1_18)), (q_22, .inr (6, fs1_27))] H := hP
  have hD : va_D A [(h0, .inr (3, fs_30)), (q_13, .inr (7, fs1_18)), (q_22, .inr (6, fs1_27))] := hD
  have hP9 := hP.sub (ws' := [(h0, .inr (3, fs_30)), (q_22, .inr (6, fs1_27))]) [0, 2] rfl
  have hD9 := hD.sub (ws' := [(h0, .inr (3, fs_30)), (q_22, .inr (6, fs1_27))]) [0, 2] (by decide) rfl
  have hK9 := hK.sub (tys' := [(cI, .int), (cL, .long), (cB, .byte)]) [0, 1, 2] rfl
  exact W.vret hx hb hr (fun t ht hW => ⟨⟨((fs_30, q_22, fs1_27)), rfl, ⟨hF_29.sub [5, 4, 3, 2, 0, 7, 8, 9, 10, 11, 12, 13] rfl, hF_28.sub [0, 1] rfl⟩, by rw [ht]; exact hP9, va_K.moved hW.alike hK9, hD9⟩, hS.F ht⟩) hS.2.2 dX3_init_67
