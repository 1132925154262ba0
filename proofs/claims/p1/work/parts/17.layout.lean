theorem dX1_push_0 : decode cX1_push 0 = .ok (.aload_n 0, 1) := by decide +kernel
theorem dX1_push_1 : decode cX1_push 1 = .ok (.getfield 21, 3) := by decide +kernel
theorem dX1_push_4 : decode cX1_push 4 = .ok (.sipush 8008, 3) := by decide +kernel
theorem dX1_push_7 : decode cX1_push 7 = .ok (.if_icmp .ge 23, 3) := by decide +kernel
theorem dX1_push_10 : decode cX1_push 10 = .ok (.aload_n 0, 1) := by decide +kernel
theorem dX1_push_11 : decode cX1_push 11 = .ok (.getfield 13, 3) := by decide +kernel
theorem dX1_push_14 : decode cX1_push 14 = .ok (.aload_n 0, 1) := by decide +kernel
theorem dX1_push_15 : decode cX1_push 15 = .ok (.getfield 21, 3) := by decide +kernel
theorem dX1_push_18 : decode cX1_push 18 = .ok (.iload_n 1, 1) := by decide +kernel
theorem dX1_push_19 : decode cX1_push 19 = .ok (.iastore, 1) := by decide +kernel
theorem dX1_push_20 : decode cX1_push 20 = .ok (.aload_n 0, 1) := by decide +kernel
theorem dX1_push_21 : decode cX1_push 21 = .ok (.dup, 1) := by decide +kernel
theorem dX1_push_22 : decode cX1_push 22 = .ok (.getfield 21, 3) := by decide +kernel
theorem dX1_push_25 : decode cX1_push 25 = .ok (.iconst 1, 1) := by decide +kernel
theorem dX1_push_26 : decode cX1_push 26 = .ok (.iadd, 1) := by decide +kernel
theorem dX1_push_27 : decode cX1_push 27 = .ok (.putfield 21, 3) := by decide +kernel
theorem dX1_push_30 : decode cX1_push 30 = .ok (.return_, 1) := by decide +kernel
theorem dX1_close_0 : decode cX1_close 0 = .ok (.aload_n 0, 1) := by decide +kernel
theorem dX1_close_1 : decode cX1_close 1 = .ok (.getfield 21, 3) := by decide +kernel
theorem dX1_close_4 : decode cX1_close 4 = .ok (.iconst 1, 1) := by decide +kernel
theorem dX1_close_5 : decode cX1_close 5 = .ok (.isub, 1) := by decide +kernel
theorem dX1_close_6 : decode cX1_close 6 = .ok (.istore_n 3, 1) := by decide +kernel
theorem dX1_close_7 : decode cX1_close 7 = .ok (.iload_n 3, 1) := by decide +kernel
theorem dX1_close_8 : decode cX1_close 8 = .ok (.ifCond .le 18, 3) := by decide +kernel
theorem dX1_close_11 : decode cX1_close 11 = .ok (.aload_n 0, 1) := by decide +kernel
theorem dX1_close_12 : decode cX1_close 12 = .ok (.getfield 13, 3) := by decide +kernel
theorem dX1_close_15 : decode cX1_close 15 = .ok (.iload_n 3, 1) := by decide +kernel
theorem dX1_close_16 : decode cX1_close 16 = .ok (.iaload, 1) := by decide +kernel
theorem dX1_close_17 : decode cX1_close 17 = .ok (.ifCond .lt 9, 3) := by decide +kernel
theorem dX1_close_20 : decode cX1_close 20 = .ok (.iinc 3 (-1), 3) := by decide +kernel
theorem dX1_close_23 : decode cX1_close 23 = .ok (.goto (-16), 3) := by decide +kernel
theorem dX1_close_26 : decode cX1_close 26 = .ok (.iload_n 3, 1) := by decide +kernel
theorem dX1_close_27 : decode cX1_close 27 = .ok (.ifCond .le 13, 3) := by decide +kernel
theorem dX1_close_30 : decode cX1_close 30 = .ok (.aload_n 0, 1) := by decide +kernel
theorem dX1_close_31 : decode cX1_close 31 = .ok (.getfield 13, 3) := by decide +kernel
theorem dX1_close_34 : decode cX1_close 34 = .ok (.iload_n 3, 1) := by decide +kernel
theorem dX1_close_35 : decode cX1_close 35 = .ok (.iaload, 1) := by decide +kernel
theorem dX1_close_36 : decode cX1_close 36 = .ok (.ineg, 1) := by decide +kernel
theorem dX1_close_37 : decode cX1_close 37 = .ok (.goto 4, 3) := by decide +kernel
theorem dX1_close_40 : decode cX1_close 40 = .ok (.iconst 0, 1) := by decide +kernel
theorem dX1_close_41 : decode cX1_close 41 = .ok (.istore 4, 2) := by decide +kernel
theorem dX1_close_43 : decode cX1_close 43 = .ok (.iload_n 1, 1) := by decide +kernel
theorem dX1_close_44 : decode cX1_close 44 = .ok (.bipush 18, 2) := by decide +kernel
theorem dX1_close_46 : decode cX1_close 46 = .ok (.if_icmp .ne 23, 3) := by decide +kernel
theorem dX1_close_49 : decode cX1_close 49 = .ok (.aload_n 0, 1) := by decide +kernel
theorem dX1_close_50 : decode cX1_close 50 = .ok (.getfield 13, 3) := by decide +kernel
theorem dX1_close_53 : decode cX1_close 53 = .ok (.aload_n 0, 1) := by decide +kernel
theorem dX1_close_54 : decode cX1_close 54 = .ok (.getfield 21, 3) := by decide +kernel
theorem dX1_close_57 : decode cX1_close 57 = .ok (.iconst 1, 1) := by decide +kernel
theorem dX1_close_58 : decode cX1_close 58 = .ok (.isub, 1) := by decide +kernel
theorem dX1_close_59 : decode cX1_close 59 = .ok (.iaload, 1) := by decide +kernel
theorem dX1_close_60 : decode cX1_close 60 = .ok (.ifCond .lt 7, 3) := by decide +kernel
theorem dX1_close_63 : decode cX1_close 63 = .ok (.iconst 1, 1) := by decide +kernel
theorem dX1_close_64 : decode cX1_close 64 = .ok (.goto 4, 3) := by decide +kernel
theorem dX1_close_67 : decode cX1_close 67 = .ok (.iconst 0, 1) := by decide +kernel
theorem dX1_close_68 : decode cX1_close 68 = .ok (.ireturn, 1) := by decide +kernel
theorem dX1_close_69 : decode cX1_close 69 = .ok (.iload_n 1, 1) := by decide +kernel
theorem dX1_close_70 : decode cX1_close 70 = .ok (.bipush 17, 2) := by decide +kernel
theorem dX1_close_72 : decode cX1_close 72 = .ok (.if_icmp .ne 42, 3) := by decide +kernel
theorem dX1_close_75 : decode cX1_close 75 = .ok (.aload_n 0, 1) := by decide +kernel
theorem dX1_close_76 : decode cX1_close 76 = .ok (.aload_n 0, 1) := by decide +kernel
theorem dX1_close_77 : decode cX1_close 77 = .ok (.getfield 21, 3) := by decide +kernel
theorem dX1_close_80 : decode cX1_close 80 = .ok (.iconst 1, 1) := by decide +kernel
theorem dX1_close_81 : decode cX1_close 81 = .ok (.isub, 1) := by decide +kernel
theorem dX1_close_82 : decode cX1_close 82 = .ok (.iload_n 3, 1) := by decide +kernel
theorem dX1_close_83 : decode cX1_close 83 = .ok (.isub, 1) := by decide +kernel
theorem dX1_close_84 : decode cX1_close 84 = .ok (.putfield 51, 3) := by decide +kernel
theorem dX1_close_87 : decode cX1_close 87 = .ok (.aload_n 0, 1) := by decide +kernel
theorem dX1_close_88 : decode cX1_close 88 = .ok (.iload_n 3, 1) := by decide +kernel
theorem dX1_close_89 : decode cX1_close 89 = .ok (.iconst 1, 1) := by decide +kernel
theorem dX1_close_90 : decode cX1_close 90 = .ok (.iadd, 1) := by decide +kernel
theorem dX1_close_91 : decode cX1_close 91 = .ok (.putfield 21, 3) := by decide +kernel
theorem dX1_close_94 : decode cX1_close 94 = .ok (.iload 4, 2) := by decide +kernel
theorem dX1_close_96 : decode cX1_close 96 = .ok (.bipush 13, 2) := by decide +kernel
theorem dX1_close_98 : decode cX1_close 98 = .ok (.if_icmp .eq 10, 3) := by decide +kernel
theorem dX1_close_101 : decode cX1_close 101 = .ok (.iload 4, 2) := by decide +kernel
theorem dX1_close_103 : decode cX1_close 103 = .ok (.bipush 15, 2) := by decide +kernel
theorem dX1_close_105 : decode cX1_close 105 = .ok (.if_icmp .ne 7, 3) := by decide +kernel
theorem dX1_close_108 : decode cX1_close 108 = .ok (.iconst 1, 1) := by decide +kernel
theorem dX1_close_109 : decode cX1_close 109 = .ok (.goto 4, 3) := by decide +kernel
theorem dX1_close_112 : decode cX1_close 112 = .ok (.iconst 0, 1) := by decide +kernel
theorem dX1_close_113 : decode cX1_close 113 = .ok (.ireturn, 1) := by decide +kernel
theorem dX1_close_114 : decode cX1_close 114 = .ok (.iload_n 1, 1) := by decide +kernel
theorem dX1_close_115 : decode cX1_close 115 = .ok (.ifCond .eq 7, 3) := by decide +kernel
theorem dX1_close_118 : decode cX1_close 118 = .ok (.iload_n 2, 1) := by decide +kernel
theorem dX1_close_119 : decode cX1_close 119 = .ok (.ifCond .eq 36, 3) := by decide +kernel
theorem dX1_close_122 : decode cX1_close 122 = .ok (.aload_n 0, 1) := by decide +kernel
theorem dX1_close_123 : decode cX1_close 123 = .ok (.aload_n 0, 1) := by decide +kernel
theorem dX1_close_124 : decode cX1_close 124 = .ok (.getfield 21, 3) := by decide +kernel
theorem dX1_close_127 : decode cX1_close 127 = .ok (.iconst 1, 1) := by decide +kernel
theorem dX1_close_128 : decode cX1_close 128 = .ok (.isub, 1) := by decide +kernel
theorem dX1_close_129 : decode cX1_close 129 = .ok (.iload_n 3, 1) := by decide +kernel
theorem dX1_close_130 : decode cX1_close 130 = .ok (.isub, 1) := by decide +kernel
theorem dX1_close_131 : decode cX1_close 131 = .ok (.putfield 51, 3) := by decide +kernel
theorem dX1_close_134 : decode cX1_close 134 = .ok (.aload_n 0, 1) := by decide +kernel
theorem dX1_close_135 : decode cX1_close 135 = .ok (.iload_n 3, 1) := by decide +kernel
theorem dX1_close_136 : decode cX1_close 136 = .ok (.iconst 1, 1) := by decide +kernel
theorem dX1_close_137 : decode cX1_close 137 = .ok (.invokestatic 96, 3) := by decide +kernel
theorem dX1_close_140 : decode cX1_close 140 = .ok (.putfield 21, 3) := by decide +kernel
theorem dX1_close_143 : decode cX1_close 143 = .ok (.iload 4, 2) := by decide +kernel
theorem dX1_close_145 : decode cX1_close 145 = .ok (.iload_n 2, 1) := by decide +kernel
theorem dX1_close_146 : decode cX1_close 146 = .ok (.if_icmp .ne 7, 3) := by decide +kernel
theorem dX1_close_149 : decode cX1_close 149 = .ok (.iconst 1, 1) := by decide +kernel
theorem dX1_close_150 : decode cX1_close 150 = .ok (.goto 4, 3) := by decide +kernel
theorem dX1_close_153 : decode cX1_close 153 = .ok (.iconst 0, 1) := by decide +kernel
theorem dX1_close_154 : decode cX1_close 154 = .ok (.ireturn, 1) := by decide +kernel
theorem dX1_close_155 : decode cX1_close 155 = .ok (.iconst 1, 1) := by decide +kernel
theorem dX1_close_156 : decode cX1_close 156 = .ok (.ireturn, 1) := by decide +kernel
theorem dX1_arrive_0 : decode cX1_arrive 0 = .ok (.aload_n 0, 1) := by decide +kernel
theorem dX1_arrive_1 : decode cX1_arrive 1 = .ok (.iconst 0, 1) := by decide +kernel
theorem dX1_arrive_2 : decode cX1_arrive 2 = .ok (.putfield 45, 3) := by decide +kernel
theorem dX1_arrive_5 : decode cX1_arrive 5 = .ok (.aload_n 0, 1) := by decide +kernel
theorem dX1_arrive_6 : decode cX1_arrive 6 = .ok (.iconst 0, 1) := by decide +kernel
theorem dX1_arrive_7 : decode cX1_arrive 7 = .ok (.putfield 51, 3) := by decide +kernel
theorem dX1_arrive_10 : decode cX1_arrive 10 = .ok (.aload_n 0, 1) := by decide +kernel
theorem dX1_arrive_11 : decode cX1_arrive 11 = .ok (.iconst 0, 1) := by decide +kernel
theorem dX1_arrive_12 : decode cX1_arrive 12 = .ok (.putfield 48, 3) := by decide +kernel
theorem dX1_arrive_15 : decode cX1_arrive 15 = .ok (.aload_n 0, 1) := by decide +kernel
theorem dX1_arrive_16 : decode cX1_arrive 16 = .ok (.iconst 0, 1) := by decide +kernel
theorem dX1_arrive_17 : decode cX1_arrive 17 = .ok (.putfield 31, 3) := by decide +kernel
theorem dX1_arrive_20 : decode cX1_arrive 20 = .ok (.aload_n 0, 1) := by decide +kernel
theorem dX1_arrive_21 : decode cX1_arrive 21 = .ok (.getfield 17, 3) := by decide +kernel
theorem dX1_arrive_24 : decode cX1_arrive 24 = .ok (.getfield 54, 3) := by decide +kernel
theorem dX1_arrive_27 : decode cX1_arrive 27 = .ok (.aload_n 0, 1) := by decide +kernel
theorem dX1_arrive_28 : decode cX1_arrive 28 = .ok (.getfield 25, 3) := by decide +kernel
theorem dX1_arrive_31 : decode cX1_arrive 31 = .ok (.iaload, 1) := by decide +kernel
theorem dX1_arrive_32 : decode cX1_arrive 32 = .ok (.istore_n 1, 1) := by decide +kernel
theorem dX1_arrive_33 : decode cX1_arrive 33 = .ok (.aload_n 0, 1) := by decide +kernel
theorem dX1_arrive_34 : decode cX1_arrive 34 = .ok (.getfield 25, 3) := by decide +kernel
theorem dX1_arrive_37 : decode cX1_arrive 37 = .ok (.ifCond .le 20, 3) := by decide +kernel
theorem dX1_arrive_40 : decode cX1_arrive 40 = .ok (.aload_n 0, 1) := by decide +kernel
theorem dX1_arrive_41 : decode cX1_arrive 41 = .ok (.getfield 17, 3) := by decide +kernel
theorem dX1_arrive_44 : decode cX1_arrive 44 = .ok (.getfield 54, 3) := by decide +kernel
theorem dX1_arrive_47 : decode cX1_arrive 47 = .ok (.aload_n 0, 1) := by decide +kernel
theorem dX1_arrive_48 : decode cX1_arrive 48 = .ok (.getfield 25, 3) := by decide +kernel
theorem dX1_arrive_51 : decode cX1_arrive 51 = .ok (.iconst 1, 1) := by decide +kernel
theorem dX1_arrive_52 : decode cX1_arrive 52 = .ok (.isub, 1) := by decide +kernel
theorem dX1_arrive_53 : decode cX1_arrive 53 = .ok (.iaload, 1) := by decide +kernel
theorem dX1_arrive_54 : decode cX1_arrive 54 = .ok (.goto 4, 3) := by decide +kernel
theorem dX1_arrive_57 : decode cX1_arrive 57 = .ok (.iconst 0, 1) := by decide +kernel
theorem dX1_arrive_58 : decode cX1_arrive 58 = .ok (.istore_n 2, 1) := by decide +kernel
theorem dX1_arrive_59 : decode cX1_arrive 59 = .ok (.iload_n 2, 1) := by decide +kernel
theorem dX1_arrive_60 : decode cX1_arrive 60 = .ok (.bipush 12, 2) := by decide +kernel
theorem dX1_arrive_62 : decode cX1_arrive 62 = .ok (.if_icmp .eq 9, 3) := by decide +kernel
theorem dX1_arrive_65 : decode cX1_arrive 65 = .ok (.iload_n 2, 1) := by decide +kernel
theorem dX1_arrive_66 : decode cX1_arrive 66 = .ok (.bipush 6, 2) := by decide +kernel
theorem dX1_arrive_68 : decode cX1_arrive 68 = .ok (.if_icmp .ne 7, 3) := by decide +kernel
theorem dX1_arrive_71 : decode cX1_arrive 71 = .ok (.iconst 1, 1) := by decide +kernel
theorem dX1_arrive_72 : decode cX1_arrive 72 = .ok (.goto 4, 3) := by decide +kernel
theorem dX1_arrive_75 : decode cX1_arrive 75 = .ok (.iconst 0, 1) := by decide +kernel
theorem dX1_arrive_76 : decode cX1_arrive 76 = .ok (.istore_n 3, 1) := by decide +kernel
theorem dX1_arrive_77 : decode cX1_arrive 77 = .ok (.iload_n 1, 1) := by decide +kernel
theorem dX1_arrive_78 : decode cX1_arrive 78 = .ok (.iconst 1, 1) := by decide +kernel
theorem dX1_arrive_79 : decode cX1_arrive 79 = .ok (.if_icmp .ne 8, 3) := by decide +kernel
theorem dX1_arrive_82 : decode cX1_arrive 82 = .ok (.aload_n 0, 1) := by decide +kernel
theorem dX1_arrive_83 : decode cX1_arrive 83 = .ok (.iconst 1, 1) := by decide +kernel
theorem dX1_arrive_84 : decode cX1_arrive 84 = .ok (.invokevirtual 38, 3) := by decide +kernel
theorem dX1_arrive_87 : decode cX1_arrive 87 = .ok (.iload_n 3, 1) := by decide +kernel
theorem dX1_arrive_88 : decode cX1_arrive 88 = .ok (.ifCond .eq 12, 3) := by decide +kernel
theorem dX1_arrive_91 : decode cX1_arrive 91 = .ok (.iload_n 1, 1) := by decide +kernel
theorem dX1_arrive_92 : decode cX1_arrive 92 = .ok (.ifCond .ne 8, 3) := by decide +kernel
theorem dX1_arrive_95 : decode cX1_arrive 95 = .ok (.aload_n 0, 1) := by decide +kernel
theorem dX1_arrive_96 : decode cX1_arrive 96 = .ok (.iconst 2, 1) := by decide +kernel
theorem dX1_arrive_97 : decode cX1_arrive 97 = .ok (.invokevirtual 38, 3) := by decide +kernel
theorem dX1_arrive_100 : decode cX1_arrive 100 = .ok (.iload_n 3, 1) := by decide +kernel
theorem dX1_arrive_101 : decode cX1_arrive 101 = .ok (.ifCond .eq 36, 3) := by decide +kernel
theorem dX1_arrive_104 : decode cX1_arrive 104 = .ok (.aload_n 0, 1) := by decide +kernel
theorem dX1_arrive_105 : decode cX1_arrive 105 = .ok (.aload_n 0, 1) := by decide +kernel
theorem dX1_arrive_106 : decode cX1_arrive 106 = .ok (.getfield 17, 3) := by decide +kernel
theorem dX1_arrive_109 : decode cX1_arrive 109 = .ok (.getfield 70, 3) := by decide +kernel
theorem dX1_arrive_112 : decode cX1_arrive 112 = .ok (.aload_n 0, 1) := by decide +kernel
theorem dX1_arrive_113 : decode cX1_arrive 113 = .ok (.getfield 25, 3) := by decide +kernel
theorem dX1_arrive_116 : decode cX1_arrive 116 = .ok (.iaload, 1) := by decide +kernel
theorem dX1_arrive_117 : decode cX1_arrive 117 = .ok (.aload_n 0, 1) := by decide +kernel
theorem dX1_arrive_118 : decode cX1_arrive 118 = .ok (.getfield 13, 3) := by decide +kernel
theorem dX1_arrive_121 : decode cX1_arrive 121 = .ok (.aload_n 0, 1) := by decide +kernel
theorem dX1_arrive_122 : decode cX1_arrive 122 = .ok (.invokevirtual 73, 3) := by decide +kernel
theorem dX1_arrive_125 : decode cX1_arrive 125 = .ok (.iaload, 1) := by decide +kernel
theorem dX1_arrive_126 : decode cX1_arrive 126 = .ok (.if_icmp .gt 7, 3) := by decide +kernel
theorem dX1_arrive_129 : decode cX1_arrive 129 = .ok (.iconst 1, 1) := by decide +kernel
theorem dX1_arrive_130 : decode cX1_arrive 130 = .ok (.goto 4, 3) := by decide +kernel
theorem dX1_arrive_133 : decode cX1_arrive 133 = .ok (.iconst 0, 1) := by decide +kernel
theorem dX1_arrive_134 : decode cX1_arrive 134 = .ok (.putfield 31, 3) := by decide +kernel
theorem dX1_arrive_137 : decode cX1_arrive 137 = .ok (.iload_n 3, 1) := by decide +kernel
theorem dX1_arrive_138 : decode cX1_arrive 138 = .ok (.ifCond .ne 10, 3) := by decide +kernel
theorem dX1_arrive_141 : decode cX1_arrive 141 = .ok (.aload_n 0, 1) := by decide +kernel
theorem dX1_arrive_142 : decode cX1_arrive 142 = .ok (.getfield 25, 3) := by decide +kernel
theorem dX1_arrive_145 : decode cX1_arrive 145 = .ok (.ifCond .ne 22, 3) := by decide +kernel
theorem dX1_arrive_148 : decode cX1_arrive 148 = .ok (.aload_n 0, 1) := by decide +kernel
theorem dX1_arrive_149 : decode cX1_arrive 149 = .ok (.aload_n 0, 1) := by decide +kernel
theorem dX1_arrive_150 : decode cX1_arrive 150 = .ok (.getfield 17, 3) := by decide +kernel
theorem dX1_arrive_153 : decode cX1_arrive 153 = .ok (.getfield 70, 3) := by decide +kernel
theorem dX1_arrive_156 : decode cX1_arrive 156 = .ok (.aload_n 0, 1) := by decide +kernel
theorem dX1_arrive_157 : decode cX1_arrive 157 = .ok (.getfield 25, 3) := by decide +kernel
theorem dX1_arrive_160 : decode cX1_arrive 160 = .ok (.iaload, 1) := by decide +kernel
theorem dX1_arrive_161 : decode cX1_arrive 161 = .ok (.invokevirtual 77, 3) := by decide +kernel
theorem dX1_arrive_164 : decode cX1_arrive 164 = .ok (.goto 48, 3) := by decide +kernel
theorem dX1_arrive_167 : decode cX1_arrive 167 = .ok (.iload_n 1, 1) := by decide +kernel
theorem dX1_arrive_168 : decode cX1_arrive 168 = .ok (.ifCond .eq 44, 3) := by decide +kernel
theorem dX1_arrive_171 : decode cX1_arrive 171 = .ok (.aload_n 0, 1) := by decide +kernel
theorem dX1_arrive_172 : decode cX1_arrive 172 = .ok (.getfield 17, 3) := by decide +kernel
theorem dX1_arrive_175 : decode cX1_arrive 175 = .ok (.getfield 57, 3) := by decide +kernel
theorem dX1_arrive_178 : decode cX1_arrive 178 = .ok (.aload_n 0, 1) := by decide +kernel
theorem dX1_arrive_179 : decode cX1_arrive 179 = .ok (.getfield 25, 3) := by decide +kernel
theorem dX1_arrive_182 : decode cX1_arrive 182 = .ok (.iaload, 1) := by decide +kernel
theorem dX1_arrive_183 : decode cX1_arrive 183 = .ok (.aload_n 0, 1) := by decide +kernel
theorem dX1_arrive_184 : decode cX1_arrive 184 = .ok (.getfield 17, 3) := by decide +kernel
theorem dX1_arrive_187 : decode cX1_arrive 187 = .ok (.getfield 57, 3) := by decide +kernel
theorem dX1_arrive_190 : decode cX1_arrive 190 = .ok (.aload_n 0, 1) := by decide +kernel
theorem dX1_arrive_191 : decode cX1_arrive 191 = .ok (.getfield 25, 3) := by decide +kernel
theorem dX1_arrive_194 : decode cX1_arrive 194 = .ok (.iconst 1, 1) := by decide +kernel
theorem dX1_arrive_195 : decode cX1_arrive 195 = .ok (.isub, 1) := by decide +kernel
theorem dX1_arrive_196 : decode cX1_arrive 196 = .ok (.iaload, 1) := by decide +kernel
theorem dX1_arrive_197 : decode cX1_arrive 197 = .ok (.if_icmp .eq 15, 3) := by decide +kernel
theorem dX1_arrive_200 : decode cX1_arrive 200 = .ok (.aload_n 0, 1) := by decide +kernel
theorem dX1_arrive_201 : decode cX1_arrive 201 = .ok (.invokevirtual 80, 3) := by decide +kernel
theorem dX1_arrive_204 : decode cX1_arrive 204 = .ok (.ifCond .ne 8, 3) := by decide +kernel
theorem dX1_arrive_207 : decode cX1_arrive 207 = .ok (.aload_n 0, 1) := by decide +kernel
theorem dX1_arrive_208 : decode cX1_arrive 208 = .ok (.iconst 2, 1) := by decide +kernel
theorem dX1_arrive_209 : decode cX1_arrive 209 = .ok (.invokevirtual 38, 3) := by decide +kernel
theorem dX1_arrive_212 : decode cX1_arrive 212 = .ok (.aload_n 0, 1) := by decide +kernel
theorem dX1_arrive_213 : decode cX1_arrive 213 = .ok (.iload_n 1, 1) := by decide +kernel
theorem dX1_arrive_214 : decode cX1_arrive 214 = .ok (.iload_n 1, 1) := by decide +kernel
theorem dX1_arrive_215 : decode cX1_arrive 215 = .ok (.invokestatic 84, 3) := by decide +kernel
theorem dX1_arrive_218 : decode cX1_arrive 218 = .ok (.invokevirtual 88, 3) := by decide +kernel
theorem dX1_arrive_221 : decode cX1_arrive 221 = .ok (.ifCond .ne 8, 3) := by decide +kernel
theorem dX1_arrive_224 : decode cX1_arrive 224 = .ok (.aload_n 0, 1) := by decide +kernel
theorem dX1_arrive_225 : decode cX1_arrive 225 = .ok (.iconst 2, 1) := by decide +kernel
theorem dX1_arrive_226 : decode cX1_arrive 226 = .ok (.invokevirtual 38, 3) := by decide +kernel
theorem dX1_arrive_229 : decode cX1_arrive 229 = .ok (.iload_n 1, 1) := by decide +kernel
theorem dX1_arrive_230 : decode cX1_arrive 230 = .ok (.invokestatic 92, 3) := by decide +kernel
theorem dX1_arrive_233 : decode cX1_arrive 233 = .ok (.ifCond .eq 9, 3) := by decide +kernel
theorem dX1_arrive_236 : decode cX1_arrive 236 = .ok (.aload_n 0, 1) := by decide +kernel
theorem dX1_arrive_237 : decode cX1_arrive 237 = .ok (.iload_n 1, 1) := by decide +kernel
theorem dX1_arrive_238 : decode cX1_arrive 238 = .ok (.ineg, 1) := by decide +kernel
theorem dX1_arrive_239 : decode cX1_arrive 239 = .ok (.invokevirtual 77, 3) := by decide +kernel
theorem dX1_arrive_242 : decode cX1_arrive 242 = .ok (.return_, 1) := by decide +kernel
theorem dX1_advance_0 : decode cX1_advance 0 = .ok (.aload_n 0, 1) := by decide +kernel
theorem dX1_advance_1 : decode cX1_advance 1 = .ok (.getfield 28, 3) := by decide +kernel
theorem dX1_advance_4 : decode cX1_advance 4 = .ok (.bipush 38, 2) := by decide +kernel
theorem dX1_advance_6 : decode cX1_advance 6 = .ok (.if_icmp .ge 37, 3) := by decide +kernel
theorem dX1_advance_9 : decode cX1_advance 9 = .ok (.aload_n 0, 1) := by decide +kernel
theorem dX1_advance_10 : decode cX1_advance 10 = .ok (.getfield 31, 3) := by decide +kernel
theorem dX1_advance_13 : decode cX1_advance 13 = .ok (.ifCond .eq 8, 3) := by decide +kernel
theorem dX1_advance_16 : decode cX1_advance 16 = .ok (.aload_n 0, 1) := by decide +kernel
theorem dX1_advance_17 : decode cX1_advance 17 = .ok (.iconst 3, 1) := by decide +kernel
theorem dX1_advance_18 : decode cX1_advance 18 = .ok (.invokevirtual 38, 3) := by decide +kernel
theorem dX1_advance_21 : decode cX1_advance 21 = .ok (.aload_n 0, 1) := by decide +kernel
theorem dX1_advance_22 : decode cX1_advance 22 = .ok (.getfield 28, 3) := by decide +kernel
theorem dX1_advance_25 : decode cX1_advance 25 = .ok (.ifCond .ne 4, 3) := by decide +kernel
theorem dX1_advance_28 : decode cX1_advance 28 = .ok (.return_, 1) := by decide +kernel
theorem dX1_advance_29 : decode cX1_advance 29 = .ok (.aload_n 0, 1) := by decide +kernel
theorem dX1_advance_30 : decode cX1_advance 30 = .ok (.dup, 1) := by decide +kernel
theorem dX1_advance_31 : decode cX1_advance 31 = .ok (.getfield 25, 3) := by decide +kernel
theorem dX1_advance_34 : decode cX1_advance 34 = .ok (.iconst 1, 1) := by decide +kernel
theorem dX1_advance_35 : decode cX1_advance 35 = .ok (.iadd, 1) := by decide +kernel
theorem dX1_advance_36 : decode cX1_advance 36 = .ok (.putfield 25, 3) := by decide +kernel
theorem dX1_advance_39 : decode cX1_advance 39 = .ok (.aload_n 0, 1) := by decide +kernel
theorem dX1_advance_40 : decode cX1_advance 40 = .ok (.invokevirtual 42, 3) := by decide +kernel
theorem dX1_advance_43 : decode cX1_advance 43 = .ok (.aload_n 0, 1) := by decide +kernel
theorem dX1_advance_44 : decode cX1_advance 44 = .ok (.getfield 45, 3) := by decide +kernel
theorem dX1_advance_47 : decode cX1_advance 47 = .ok (.ifCond .le 22, 3) := by decide +kernel
theorem dX1_advance_50 : decode cX1_advance 50 = .ok (.aload_n 0, 1) := by decide +kernel
theorem dX1_advance_51 : decode cX1_advance 51 = .ok (.dup, 1) := by decide +kernel
theorem dX1_advance_52 : decode cX1_advance 52 = .ok (.getfield 45, 3) := by decide +kernel
theorem dX1_advance_55 : decode cX1_advance 55 = .ok (.iconst 1, 1) := by decide +kernel
theorem dX1_advance_56 : decode cX1_advance 56 = .ok (.isub, 1) := by decide +kernel
theorem dX1_advance_57 : decode cX1_advance 57 = .ok (.putfield 45, 3) := by decide +kernel
theorem dX1_advance_60 : decode cX1_advance 60 = .ok (.aload_n 0, 1) := by decide +kernel
theorem dX1_advance_61 : decode cX1_advance 61 = .ok (.bipush 39, 2) := by decide +kernel
theorem dX1_advance_63 : decode cX1_advance 63 = .ok (.putfield 28, 3) := by decide +kernel
theorem dX1_advance_66 : decode cX1_advance 66 = .ok (.goto 66, 3) := by decide +kernel
theorem dX1_advance_69 : decode cX1_advance 69 = .ok (.aload_n 0, 1) := by decide +kernel
theorem dX1_advance_70 : decode cX1_advance 70 = .ok (.getfield 48, 3) := by decide +kernel
theorem dX1_advance_73 : decode cX1_advance 73 = .ok (.ifCond .eq 17, 3) := by decide +kernel
theorem dX1_advance_76 : decode cX1_advance 76 = .ok (.aload_n 0, 1) := by decide +kernel
theorem dX1_advance_77 : decode cX1_advance 77 = .ok (.iconst 0, 1) := by decide +kernel
theorem dX1_advance_78 : decode cX1_advance 78 = .ok (.putfield 48, 3) := by decide +kernel
theorem dX1_advance_81 : decode cX1_advance 81 = .ok (.aload_n 0, 1) := by decide +kernel
theorem dX1_advance_82 : decode cX1_advance 82 = .ok (.bipush 38, 2) := by decide +kernel
theorem dX1_advance_84 : decode cX1_advance 84 = .ok (.putfield 28, 3) := by decide +kernel
theorem dX1_advance_87 : decode cX1_advance 87 = .ok (.goto 45, 3) := by decide +kernel
theorem dX1_advance_90 : decode cX1_advance 90 = .ok (.aload_n 0, 1) := by decide +kernel
theorem dX1_advance_91 : decode cX1_advance 91 = .ok (.getfield 51, 3) := by decide +kernel
theorem dX1_advance_94 : decode cX1_advance 94 = .ok (.ifCond .le 22, 3) := by decide +kernel
theorem dX1_advance_97 : decode cX1_advance 97 = .ok (.aload_n 0, 1) := by decide +kernel
theorem dX1_advance_98 : decode cX1_advance 98 = .ok (.dup, 1) := by decide +kernel
theorem dX1_advance_99 : decode cX1_advance 99 = .ok (.getfield 51, 3) := by decide +kernel
theorem dX1_advance_102 : decode cX1_advance 102 = .ok (.iconst 1, 1) := by decide +kernel
theorem dX1_advance_103 : decode cX1_advance 103 = .ok (.isub, 1) := by decide +kernel
theorem dX1_advance_104 : decode cX1_advance 104 = .ok (.putfield 51, 3) := by decide +kernel
theorem dX1_advance_107 : decode cX1_advance 107 = .ok (.aload_n 0, 1) := by decide +kernel
theorem dX1_advance_108 : decode cX1_advance 108 = .ok (.bipush 39, 2) := by decide +kernel
theorem dX1_advance_110 : decode cX1_advance 110 = .ok (.putfield 28, 3) := by decide +kernel
theorem dX1_advance_113 : decode cX1_advance 113 = .ok (.goto 19, 3) := by decide +kernel
theorem dX1_advance_116 : decode cX1_advance 116 = .ok (.aload_n 0, 1) := by decide +kernel
theorem dX1_advance_117 : decode cX1_advance 117 = .ok (.aload_n 0, 1) := by decide +kernel
theorem dX1_advance_118 : decode cX1_advance 118 = .ok (.getfield 17, 3) := by decide +kernel
theorem dX1_advance_121 : decode cX1_advance 121 = .ok (.getfield 54, 3) := by decide +kernel
theorem dX1_advance_124 : decode cX1_advance 124 = .ok (.aload_n 0, 1) := by decide +kernel
theorem dX1_advance_125 : decode cX1_advance 125 = .ok (.getfield 25, 3) := by decide +kernel
theorem dX1_advance_128 : decode cX1_advance 128 = .ok (.iaload, 1) := by decide +kernel
theorem dX1_advance_129 : decode cX1_advance 129 = .ok (.putfield 28, 3) := by decide +kernel
theorem dX1_advance_132 : decode cX1_advance 132 = .ok (.return_, 1) := by decide +kernel
theorem dX1_open_0 : decode cX1_open 0 = .ok (.aload_n 0, 1) := by decide +kernel
theorem dX1_open_1 : decode cX1_open 1 = .ok (.iconst 0, 1) := by decide +kernel
theorem dX1_open_2 : decode cX1_open 2 = .ok (.putfield 21, 3) := by decide +kernel
theorem dX1_open_5 : decode cX1_open 5 = .ok (.aload_n 0, 1) := by decide +kernel
theorem dX1_open_6 : decode cX1_open 6 = .ok (.iconst (-1), 1) := by decide +kernel
theorem dX1_open_7 : decode cX1_open 7 = .ok (.putfield 25, 3) := by decide +kernel
theorem dX1_open_10 : decode cX1_open 10 = .ok (.aload_n 0, 1) := by decide +kernel
theorem dX1_open_11 : decode cX1_open 11 = .ok (.iconst 2, 1) := by decide +kernel
theorem dX1_open_12 : decode cX1_open 12 = .ok (.putfield 28, 3) := by decide +kernel
theorem dX1_open_15 : decode cX1_open 15 = .ok (.aload_n 0, 1) := by decide +kernel
theorem dX1_open_16 : decode cX1_open 16 = .ok (.iconst 0, 1) := by decide +kernel
theorem dX1_open_17 : decode cX1_open 17 = .ok (.putfield 31, 3) := by decide +kernel
theorem dX1_open_20 : decode cX1_open 20 = .ok (.aload_n 0, 1) := by decide +kernel
theorem dX1_open_21 : decode cX1_open 21 = .ok (.invokevirtual 35, 3) := by decide +kernel
theorem dX1_open_24 : decode cX1_open 24 = .ok (.return_, 1) := by decide +kernel
theorem dX5_program_0 : decode cX5_program 0 = .ok (.aload_n 0, 1) := by decide +kernel
theorem dX5_program_1 : decode cX5_program 1 = .ok (.getfield 27, 3) := by decide +kernel
theorem dX5_program_4 : decode cX5_program 4 = .ok (.invokevirtual 48, 3) := by decide +kernel
theorem dX5_program_7 : decode cX5_program 7 = .ok (.aload_n 0, 1) := by decide +kernel
theorem dX5_program_8 : decode cX5_program 8 = .ok (.getfield 31, 3) := by decide +kernel
theorem dX5_program_11 : decode cX5_program 11 = .ok (.invokevirtual 53, 3) := by decide +kernel
theorem dX5_program_14 : decode cX5_program 14 = .ok (.aload_n 0, 1) := by decide +kernel
theorem dX5_program_15 : decode cX5_program 15 = .ok (.getfield 35, 3) := by decide +kernel
theorem dX5_program_18 : decode cX5_program 18 = .ok (.invokevirtual 56, 3) := by decide +kernel
theorem dX5_program_21 : decode cX5_program 21 = .ok (.aload_n 0, 1) := by decide +kernel
theorem dX5_program_22 : decode cX5_program 22 = .ok (.iconst 0, 1) := by decide +kernel
theorem dX5_program_23 : decode cX5_program 23 = .ok (.putfield 59, 3) := by decide +kernel
theorem dX5_program_26 : decode cX5_program 26 = .ok (.aload_n 0, 1) := by decide +kernel
theorem dX5_program_27 : decode cX5_program 27 = .ok (.iconst 0, 1) := by decide +kernel
theorem dX5_program_28 : decode cX5_program 28 = .ok (.putfield 63, 3) := by decide +kernel
theorem dX5_program_31 : decode cX5_program 31 = .ok (.aload_n 0, 1) := by decide +kernel
theorem dX5_program_32 : decode cX5_program 32 = .ok (.getfield 31, 3) := by decide +kernel
theorem dX5_program_35 : decode cX5_program 35 = .ok (.iconst (-1), 1) := by decide +kernel
theorem dX5_program_36 : decode cX5_program 36 = .ok (.iconst (-1), 1) := by decide +kernel
theorem dX5_program_37 : decode cX5_program 37 = .ok (.invokevirtual 66, 3) := by decide +kernel
theorem dX5_program_40 : decode cX5_program 40 = .ok (.pop, 1) := by decide +kernel
theorem dX5_program_41 : decode cX5_program 41 = .ok (.aload_n 0, 1) := by decide +kernel
theorem dX5_program_42 : decode cX5_program 42 = .ok (.getfield 44, 3) := by decide +kernel
theorem dX5_program_45 : decode cX5_program 45 = .ok (.invokevirtual 70, 3) := by decide +kernel
theorem dX5_program_48 : decode cX5_program 48 = .ok (.iconst 0, 1) := by decide +kernel
theorem dX5_program_49 : decode cX5_program 49 = .ok (.istore_n 1, 1) := by decide +kernel
theorem dX5_program_50 : decode cX5_program 50 = .ok (.iload_n 1, 1) := by decide +kernel
theorem dX5_program_51 : decode cX5_program 51 = .ok (.ldc 73, 2) := by decide +kernel
theorem dX5_program_53 : decode cX5_program 53 = .ok (.if_icmp .ge 68, 3) := by decide +kernel
theorem dX5_program_56 : decode cX5_program 56 = .ok (.aload_n 0, 1) := by decide +kernel
theorem dX5_program_57 : decode cX5_program 57 = .ok (.getfield 44, 3) := by decide +kernel
theorem dX5_program_60 : decode cX5_program 60 = .ok (.getfield 74, 3) := by decide +kernel
theorem dX5_program_63 : decode cX5_program 63 = .ok (.ifCond .eq 58, 3) := by decide +kernel
theorem dX5_program_66 : decode cX5_program 66 = .ok (.aload_n 0, 1) := by decide +kernel
theorem dX5_program_67 : decode cX5_program 67 = .ok (.getfield 44, 3) := by decide +kernel
theorem dX5_program_70 : decode cX5_program 70 = .ok (.getfield 74, 3) := by decide +kernel
theorem dX5_program_73 : decode cX5_program 73 = .ok (.iconst 5, 1) := by decide +kernel
theorem dX5_program_74 : decode cX5_program 74 = .ok (.if_icmp .ne 10, 3) := by decide +kernel
theorem dX5_program_77 : decode cX5_program 77 = .ok (.aload_n 0, 1) := by decide +kernel
theorem dX5_program_78 : decode cX5_program 78 = .ok (.invokevirtual 77, 3) := by decide +kernel
theorem dX5_program_81 : decode cX5_program 81 = .ok (.goto 20, 3) := by decide +kernel
theorem dX5_program_84 : decode cX5_program 84 = .ok (.aload_n 0, 1) := by decide +kernel
theorem dX5_program_85 : decode cX5_program 85 = .ok (.getfield 44, 3) := by decide +kernel
theorem dX5_program_88 : decode cX5_program 88 = .ok (.getfield 74, 3) := by decide +kernel
theorem dX5_program_91 : decode cX5_program 91 = .ok (.iconst 2, 1) := by decide +kernel
theorem dX5_program_92 : decode cX5_program 92 = .ok (.if_icmp .ne 9, 3) := by decide +kernel
theorem dX5_program_95 : decode cX5_program 95 = .ok (.aload_n 0, 1) := by decide +kernel
theorem dX5_program_96 : decode cX5_program 96 = .ok (.iconst 0, 1) := by decide +kernel
theorem dX5_program_97 : decode cX5_program 97 = .ok (.iconst 1, 1) := by decide +kernel
theorem dX5_program_98 : decode cX5_program 98 = .ok (.invokevirtual 80, 3) := by decide +kernel
theorem dX5_program_101 : decode cX5_program 101 = .ok (.aload_n 0, 1) := by decide +kernel
theorem dX5_program_102 : decode cX5_program 102 = .ok (.getfield 44, 3) := by decide +kernel
theorem dX5_program_105 : decode cX5_program 105 = .ok (.getfield 74, 3) := by decide +kernel
theorem dX5_program_108 : decode cX5_program 108 = .ok (.ifCond .eq 7, 3) := by decide +kernel
theorem dX5_program_111 : decode cX5_program 111 = .ok (.aload_n 0, 1) := by decide +kernel
theorem dX5_program_112 : decode cX5_program 112 = .ok (.invokevirtual 84, 3) := by decide +kernel
theorem dX5_program_115 : decode cX5_program 115 = .ok (.iinc 1 1, 3) := by decide +kernel
theorem dX5_program_118 : decode cX5_program 118 = .ok (.goto (-68), 3) := by decide +kernel
theorem dX5_program_121 : decode cX5_program 121 = .ok (.return_, 1) := by decide +kernel
theorem dX0_check_0 : decode cX0_check 0 = .ok (.aload_n 0, 1) := by decide +kernel
theorem dX0_check_1 : decode cX0_check 1 = .ok (.getfield 50, 3) := by decide +kernel
theorem dX0_check_4 : decode cX0_check 4 = .ok (.iconst (-1), 1) := by decide +kernel
theorem dX0_check_5 : decode cX0_check 5 = .ok (.invokestatic 86, 3) := by decide +kernel
theorem dX0_check_8 : decode cX0_check 8 = .ok (.aload_n 0, 1) := by decide +kernel
theorem dX0_check_9 : decode cX0_check 9 = .ok (.getfield 53, 3) := by decide +kernel
theorem dX0_check_12 : decode cX0_check 12 = .ok (.iconst (-1), 1) := by decide +kernel
theorem dX0_check_13 : decode cX0_check 13 = .ok (.invokestatic 86, 3) := by decide +kernel
theorem dX0_check_16 : decode cX0_check 16 = .ok (.aload_n 0, 1) := by decide +kernel
theorem dX0_check_17 : decode cX0_check 17 = .ok (.getfield 56, 3) := by decide +kernel
theorem dX0_check_20 : decode cX0_check 20 = .ok (.iconst (-1), 1) := by decide +kernel
theorem dX0_check_21 : decode cX0_check 21 = .ok (.invokestatic 86, 3) := by decide +kernel
theorem dX0_check_24 : decode cX0_check 24 = .ok (.aload_n 0, 1) := by decide +kernel
theorem dX0_check_25 : decode cX0_check 25 = .ok (.getfield 50, 3) := by decide +kernel
theorem dX0_check_28 : decode cX0_check 28 = .ok (.bipush 10, 2) := by decide +kernel
theorem dX0_check_30 : decode cX0_check 30 = .ok (.iconst 2, 1) := by decide +kernel
theorem dX0_check_31 : decode cX0_check 31 = .ok (.iastore, 1) := by decide +kernel
theorem dX0_check_32 : decode cX0_check 32 = .ok (.aload_n 0, 1) := by decide +kernel
theorem dX0_check_33 : decode cX0_check 33 = .ok (.getfield 50, 3) := by decide +kernel
theorem dX0_check_36 : decode cX0_check 36 = .ok (.bipush 11, 2) := by decide +kernel
theorem dX0_check_38 : decode cX0_check 38 = .ok (.iconst 3, 1) := by decide +kernel
theorem dX0_check_39 : decode cX0_check 39 = .ok (.iastore, 1) := by decide +kernel
theorem dX0_check_40 : decode cX0_check 40 = .ok (.aload_n 0, 1) := by decide +kernel
theorem dX0_check_41 : decode cX0_check 41 = .ok (.getfield 53, 3) := by decide +kernel
theorem dX0_check_44 : decode cX0_check 44 = .ok (.bipush 12, 2) := by decide +kernel
theorem dX0_check_46 : decode cX0_check 46 = .ok (.iconst 0, 1) := by decide +kernel
theorem dX0_check_47 : decode cX0_check 47 = .ok (.iastore, 1) := by decide +kernel
theorem dX0_check_48 : decode cX0_check 48 = .ok (.aload_n 0, 1) := by decide +kernel
theorem dX0_check_49 : decode cX0_check 49 = .ok (.getfield 53, 3) := by decide +kernel
theorem dX0_check_52 : decode cX0_check 52 = .ok (.bipush 13, 2) := by decide +kernel
theorem dX0_check_54 : decode cX0_check 54 = .ok (.iconst 1, 1) := by decide +kernel
theorem dX0_check_55 : decode cX0_check 55 = .ok (.iastore, 1) := by decide +kernel
theorem dX0_check_56 : decode cX0_check 56 = .ok (.iconst 0, 1) := by decide +kernel
theorem dX0_check_57 : decode cX0_check 57 = .ok (.istore_n 1, 1) := by decide +kernel
theorem dX0_check_58 : decode cX0_check 58 = .ok (.iload_n 1, 1) := by decide +kernel
theorem dX0_check_59 : decode cX0_check 59 = .ok (.aload_n 0, 1) := by decide +kernel
theorem dX0_check_60 : decode cX0_check 60 = .ok (.getfield 67, 3) := by decide +kernel
theorem dX0_check_63 : decode cX0_check 63 = .ok (.if_icmp .ge 14, 3) := by decide +kernel
theorem dX0_check_66 : decode cX0_check 66 = .ok (.aload_n 0, 1) := by decide +kernel
theorem dX0_check_67 : decode cX0_check 67 = .ok (.iload_n 1, 1) := by decide +kernel
theorem dX0_check_68 : decode cX0_check 68 = .ok (.invokevirtual 94, 3) := by decide +kernel
theorem dX0_check_71 : decode cX0_check 71 = .ok (.iinc 1 1, 3) := by decide +kernel
theorem dX0_check_74 : decode cX0_check 74 = .ok (.goto (-16), 3) := by decide +kernel
theorem dX0_check_77 : decode cX0_check 77 = .ok (.iconst 5, 1) := by decide +kernel
theorem dX0_check_78 : decode cX0_check 78 = .ok (.istore_n 1, 1) := by decide +kernel
theorem dX0_check_79 : decode cX0_check 79 = .ok (.iload_n 1, 1) := by decide +kernel
theorem dX0_check_80 : decode cX0_check 80 = .ok (.aload_n 0, 1) := by decide +kernel
theorem dX0_check_81 : decode cX0_check 81 = .ok (.getfield 63, 3) := by decide +kernel
theorem dX0_check_84 : decode cX0_check 84 = .ok (.if_icmp .ge 57, 3) := by decide +kernel
theorem dX0_check_87 : decode cX0_check 87 = .ok (.aload_n 0, 1) := by decide +kernel
theorem dX0_check_88 : decode cX0_check 88 = .ok (.getfield 59, 3) := by decide +kernel
theorem dX0_check_91 : decode cX0_check 91 = .ok (.getfield 98, 3) := by decide +kernel
theorem dX0_check_94 : decode cX0_check 94 = .ok (.aload_n 0, 1) := by decide +kernel
theorem dX0_check_95 : decode cX0_check 95 = .ok (.getfield 24, 3) := by decide +kernel
theorem dX0_check_98 : decode cX0_check 98 = .ok (.iload_n 1, 1) := by decide +kernel
theorem dX0_check_99 : decode cX0_check 99 = .ok (.iaload, 1) := by decide +kernel
theorem dX0_check_100 : decode cX0_check 100 = .ok (.iaload, 1) := by decide +kernel
theorem dX0_check_101 : decode cX0_check 101 = .ok (.istore_n 2, 1) := by decide +kernel
theorem dX0_check_102 : decode cX0_check 102 = .ok (.aload_n 0, 1) := by decide +kernel
theorem dX0_check_103 : decode cX0_check 103 = .ok (.getfield 53, 3) := by decide +kernel
theorem dX0_check_106 : decode cX0_check 106 = .ok (.iload_n 2, 1) := by decide +kernel
theorem dX0_check_107 : decode cX0_check 107 = .ok (.iaload, 1) := by decide +kernel
theorem dX0_check_108 : decode cX0_check 108 = .ok (.ifCond .lt 20, 3) := by decide +kernel
theorem dX0_check_111 : decode cX0_check 111 = .ok (.aload_n 0, 1) := by decide +kernel
theorem dX0_check_112 : decode cX0_check 112 = .ok (.getfield 59, 3) := by decide +kernel
theorem dX0_check_115 : decode cX0_check 115 = .ok (.iconst 4, 1) := by decide +kernel
theorem dX0_check_116 : decode cX0_check 116 = .ok (.aload_n 0, 1) := by decide +kernel
theorem dX0_check_117 : decode cX0_check 117 = .ok (.getfield 24, 3) := by decide +kernel
theorem dX0_check_120 : decode cX0_check 120 = .ok (.iload_n 1, 1) := by decide +kernel
theorem dX0_check_121 : decode cX0_check 121 = .ok (.iaload, 1) := by decide +kernel
theorem dX0_check_122 : decode cX0_check 122 = .ok (.invokevirtual 101, 3) := by decide +kernel
theorem dX0_check_125 : decode cX0_check 125 = .ok (.goto 10, 3) := by decide +kernel
theorem dX0_check_128 : decode cX0_check 128 = .ok (.aload_n 0, 1) := by decide +kernel
theorem dX0_check_129 : decode cX0_check 129 = .ok (.getfield 53, 3) := by decide +kernel
theorem dX0_check_132 : decode cX0_check 132 = .ok (.iload_n 2, 1) := by decide +kernel
theorem dX0_check_133 : decode cX0_check 133 = .ok (.iload_n 1, 1) := by decide +kernel
theorem dX0_check_134 : decode cX0_check 134 = .ok (.iastore, 1) := by decide +kernel
theorem dX0_check_135 : decode cX0_check 135 = .ok (.iinc 1 1, 3) := by decide +kernel
theorem dX0_check_138 : decode cX0_check 138 = .ok (.goto (-59), 3) := by decide +kernel
theorem dX0_check_141 : decode cX0_check 141 = .ok (.iconst 5, 1) := by decide +kernel
theorem dX0_check_142 : decode cX0_check 142 = .ok (.istore_n 1, 1) := by decide +kernel
theorem dX0_check_143 : decode cX0_check 143 = .ok (.iload_n 1, 1) := by decide +kernel
theorem dX0_check_144 : decode cX0_check 144 = .ok (.aload_n 0, 1) := by decide +kernel
theorem dX0_check_145 : decode cX0_check 145 = .ok (.getfield 63, 3) := by decide +kernel
theorem dX0_check_148 : decode cX0_check 148 = .ok (.if_icmp .ge 14, 3) := by decide +kernel
theorem dX0_check_151 : decode cX0_check 151 = .ok (.aload_n 0, 1) := by decide +kernel
theorem dX0_check_152 : decode cX0_check 152 = .ok (.iload_n 1, 1) := by decide +kernel
theorem dX0_check_153 : decode cX0_check 153 = .ok (.invokevirtual 104, 3) := by decide +kernel
theorem dX0_check_156 : decode cX0_check 156 = .ok (.iinc 1 1, 3) := by decide +kernel
theorem dX0_check_159 : decode cX0_check 159 = .ok (.goto (-16), 3) := by decide +kernel
theorem dX0_check_162 : decode cX0_check 162 = .ok (.return_, 1) := by decide +kernel
theorem dX8_check_0 : decode cX8_check 0 = .ok (.aload_n 0, 1) := by decide +kernel
theorem dX8_check_1 : decode cX8_check 1 = .ok (.getfield 56, 3) := by decide +kernel
theorem dX8_check_4 : decode cX8_check 4 = .ok (.iconst (-1), 1) := by decide +kernel
theorem dX8_check_5 : decode cX8_check 5 = .ok (.invokestatic 76, 3) := by decide +kernel
theorem dX8_check_8 : decode cX8_check 8 = .ok (.iconst 0, 1) := by decide +kernel
theorem dX8_check_9 : decode cX8_check 9 = .ok (.istore_n 1, 1) := by decide +kernel
theorem dX8_check_10 : decode cX8_check 10 = .ok (.iload_n 1, 1) := by decide +kernel
theorem dX8_check_11 : decode cX8_check 11 = .ok (.aload_n 0, 1) := by decide +kernel
theorem dX8_check_12 : decode cX8_check 12 = .ok (.getfield 67, 3) := by decide +kernel
theorem dX8_check_15 : decode cX8_check 15 = .ok (.if_icmp .ge 96, 3) := by decide +kernel
theorem dX8_check_18 : decode cX8_check 18 = .ok (.aload_n 0, 1) := by decide +kernel
theorem dX8_check_19 : decode cX8_check 19 = .ok (.getfield 42, 3) := by decide +kernel
theorem dX8_check_22 : decode cX8_check 22 = .ok (.iload_n 1, 1) := by decide +kernel
theorem dX8_check_23 : decode cX8_check 23 = .ok (.iaload, 1) := by decide +kernel
theorem dX8_check_24 : decode cX8_check 24 = .ok (.istore_n 2, 1) := by decide +kernel
theorem dX8_check_25 : decode cX8_check 25 = .ok (.iload_n 2, 1) := by decide +kernel
theorem dX8_check_26 : decode cX8_check 26 = .ok (.ifCond .lt 79, 3) := by decide +kernel
theorem dX8_check_29 : decode cX8_check 29 = .ok (.iload_n 1, 1) := by decide +kernel
theorem dX8_check_30 : decode cX8_check 30 = .ok (.ifCond .ne 18, 3) := by decide +kernel
theorem dX8_check_33 : decode cX8_check 33 = .ok (.aload_n 0, 1) := by decide +kernel
theorem dX8_check_34 : decode cX8_check 34 = .ok (.getfield 11, 3) := by decide +kernel
theorem dX8_check_37 : decode cX8_check 37 = .ok (.iload_n 2, 1) := by decide +kernel
theorem dX8_check_38 : decode cX8_check 38 = .ok (.iaload, 1) := by decide +kernel
theorem dX8_check_39 : decode cX8_check 39 = .ok (.bipush 8, 2) := by decide +kernel
theorem dX8_check_41 : decode cX8_check 41 = .ok (.if_icmp .ne 7, 3) := by decide +kernel
theorem dX8_check_44 : decode cX8_check 44 = .ok (.iconst 1, 1) := by decide +kernel
theorem dX8_check_45 : decode cX8_check 45 = .ok (.goto 4, 3) := by decide +kernel
theorem dX8_check_48 : decode cX8_check 48 = .ok (.iconst 0, 1) := by decide +kernel
theorem dX8_check_49 : decode cX8_check 49 = .ok (.istore_n 3, 1) := by decide +kernel
theorem dX8_check_50 : decode cX8_check 50 = .ok (.iload_n 3, 1) := by decide +kernel
theorem dX8_check_51 : decode cX8_check 51 = .ok (.ifCond .ne 18, 3) := by decide +kernel
theorem dX8_check_54 : decode cX8_check 54 = .ok (.aload_n 0, 1) := by decide +kernel
theorem dX8_check_55 : decode cX8_check 55 = .ok (.getfield 56, 3) := by decide +kernel
theorem dX8_check_58 : decode cX8_check 58 = .ok (.aload_n 0, 1) := by decide +kernel
theorem dX8_check_59 : decode cX8_check 59 = .ok (.getfield 11, 3) := by decide +kernel
theorem dX8_check_62 : decode cX8_check 62 = .ok (.iload_n 2, 1) := by decide +kernel
theorem dX8_check_63 : decode cX8_check 63 = .ok (.iaload, 1) := by decide +kernel
theorem dX8_check_64 : decode cX8_check 64 = .ok (.iaload, 1) := by decide +kernel
theorem dX8_check_65 : decode cX8_check 65 = .ok (.iload_n 1, 1) := by decide +kernel
theorem dX8_check_66 : decode cX8_check 66 = .ok (.if_icmp .ne 17, 3) := by decide +kernel
theorem dX8_check_69 : decode cX8_check 69 = .ok (.aload_n 0, 1) := by decide +kernel
theorem dX8_check_70 : decode cX8_check 70 = .ok (.getfield 59, 3) := by decide +kernel
theorem dX8_check_73 : decode cX8_check 73 = .ok (.iconst 4, 1) := by decide +kernel
theorem dX8_check_74 : decode cX8_check 74 = .ok (.aload_n 0, 1) := by decide +kernel
theorem dX8_check_75 : decode cX8_check 75 = .ok (.getfield 15, 3) := by decide +kernel
theorem dX8_check_78 : decode cX8_check 78 = .ok (.iload_n 2, 1) := by decide +kernel
theorem dX8_check_79 : decode cX8_check 79 = .ok (.iaload, 1) := by decide +kernel
theorem dX8_check_80 : decode cX8_check 80 = .ok (.invokevirtual 82, 3) := by decide +kernel
theorem dX8_check_83 : decode cX8_check 83 = .ok (.aload_n 0, 1) := by decide +kernel
theorem dX8_check_84 : decode cX8_check 84 = .ok (.getfield 56, 3) := by decide +kernel
theorem dX8_check_87 : decode cX8_check 87 = .ok (.aload_n 0, 1) := by decide +kernel
theorem dX8_check_88 : decode cX8_check 88 = .ok (.getfield 11, 3) := by decide +kernel
theorem dX8_check_91 : decode cX8_check 91 = .ok (.iload_n 2, 1) := by decide +kernel
theorem dX8_check_92 : decode cX8_check 92 = .ok (.iaload, 1) := by decide +kernel
theorem dX8_check_93 : decode cX8_check 93 = .ok (.iload_n 1, 1) := by decide +kernel
theorem dX8_check_94 : decode cX8_check 94 = .ok (.iastore, 1) := by decide +kernel
theorem dX8_check_95 : decode cX8_check 95 = .ok (.aload_n 0, 1) := by decide +kernel
theorem dX8_check_96 : decode cX8_check 96 = .ok (.getfield 24, 3) := by decide +kernel
theorem dX8_check_99 : decode cX8_check 99 = .ok (.iload_n 2, 1) := by decide +kernel
theorem dX8_check_100 : decode cX8_check 100 = .ok (.iaload, 1) := by decide +kernel
theorem dX8_check_101 : decode cX8_check 101 = .ok (.istore_n 2, 1) := by decide +kernel
theorem dX8_check_102 : decode cX8_check 102 = .ok (.goto (-77), 3) := by decide +kernel
theorem dX8_check_105 : decode cX8_check 105 = .ok (.iinc 1 1, 3) := by decide +kernel
theorem dX8_check_108 : decode cX8_check 108 = .ok (.goto (-98), 3) := by decide +kernel
theorem dX8_check_111 : decode cX8_check 111 = .ok (.aload_n 0, 1) := by decide +kernel
theorem dX8_check_112 : decode cX8_check 112 = .ok (.invokevirtual 86, 3) := by decide +kernel
theorem dX8_check_115 : decode cX8_check 115 = .ok (.ifCond .ge 18, 3) := by decide +kernel
theorem dX8_check_118 : decode cX8_check 118 = .ok (.aload_n 0, 1) := by decide +kernel
theorem dX8_check_119 : decode cX8_check 119 = .ok (.getfield 59, 3) := by decide +kernel
theorem dX8_check_122 : decode cX8_check 122 = .ok (.iconst 5, 1) := by decide +kernel
theorem dX8_check_123 : decode cX8_check 123 = .ok (.aload_n 0, 1) := by decide +kernel
theorem dX8_check_124 : decode cX8_check 124 = .ok (.getfield 59, 3) := by decide +kernel
theorem dX8_check_127 : decode cX8_check 127 = .ok (.getfield 90, 3) := by decide +kernel
theorem dX8_check_130 : decode cX8_check 130 = .ok (.invokevirtual 82, 3) := by decide +kernel
theorem dX8_check_133 : decode cX8_check 133 = .ok (.return_, 1) := by decide +kernel
def pw_c_X1_push : List Cond := .code yX1_push cX1_push 2 none :: ([.fieldLink RX1 21 "NeedHouse$Layout" "depth" "I", .fieldLink RX1 13 "NeedHouse$Layout" "stack" "[I"] ++ (wsX10 ++ []))
set_option maxHeartbeats 4000000 in
set_option maxRecDepth 100000 in
theorem c_X1_push (l : Launch) (dC : Nat → ClassId) (dI : Nat → Nat → Nat) (sz : Nat) (cI : ClassId) (h0 : Nat) (fs0 : List Value) (qk : Nat) (fk : Nat → Int32) (hF0 : hasF fs0 9 [(2, .int 0), (1, .ref qk)]) : Met l yX1_push pw_c_X1_push ({ frames := 0, cells := 0, slots := 0, locals := 0 }) (va_Pc [.ref h0, .int 0] (fun U => U.heap.size = sz ∧ va_P (dC, dI) vwCl [(h0, .inr (1, fs0)), (qk, .inl (cI, 8008, .inl fk))] U.heap ∧ va_K (dC, dI) vwCl [(cI, .int)] U ∧ va_D (fun _ => True) [(h0, .inr (1, fs0)), (qk, .inl (cI, 8008, .inl fk))])) (va_Qv (fun (u : (List Value) × (Nat → Int32)) => hasF u.1 9 [(2, .int 1)] ∧ sameF fs0 u.1 [2]) (fun (u : (List Value) × (Nat → Int32)) (t : State) => va_P (dC, dI) vwCl [(h0, .inr (1, u.1)), (qk, .inl (cI, 8008, .inl u.2))] t.heap ∧ va_K (dC, dI) vwCl [(cI, .int)] t ∧ va_D (va_A [(h0, .inr (1, fs0)), (qk, .inl (cI, 8008, .inl fk))] sz) [(h0, .inr (1, u.1)), (qk, .inl (cI, 8008, .inl u.2))]) (va_A [(h0, .inr (1, fs0)), (qk, .inl (cI, 8008, .inl fk))] sz)) 0 0 (va_A [(h0, .inr (1, fs0)), (qk, .inl (cI, 8008, .inl fk))] sz) := by
  refine Met.ofW (cc := cX1_push) (maxL := 2) (ret := none) (by decide) rfl ?_
  intro p e s m args below meth c s₁ B hml hv
  obtain ⟨rfl, hsz, hP, hK, hD0⟩ := hv
  have hx := B.exec
  have hb := B.bytes
  have hr := B.returns
  have hts := atoms_spec (ws := pw_c_X1_push) B.pre
  have hown : s.vm.findClass RX1 = some m.cls := findClass_of_methodNamed B.named
  have hlocks := B.notSynchronized
  have hin_X1 : ∀ w ∈ u_ws RX1 TX1 9, w ∈ pw_c_X1_push := fun w h => List.mem_cons_of_mem _ (List.mem_append_right _ (List.mem_append_left _ h))
  subst hsz
  have hD := hD0.self (sz := s.heap.size)
  generalize hAe : va_A [(h0, .inr (1, fs0)), (qk, .inl (cI, 8008, .inl fk))] s.heap.size = A at hD ⊢
  have hA : ∀ q : Nat, s.heap.size ≤ q → A q := fun q h => by rw [← hAe]; exact Or.inr h
  have hS : va_S A s.heap s.heap [] := va_S.rf
  have hP : va_P (dC, dI) vwCl [(h0, .inr (1, fs0)), (qk, .inl (cI, 8008, .inl fk))] s.heap := hP
  have hl := lv_entry ([.ref h0, .int 0]) (n := 2) (Nat.le_of_ble_eq_true rfl)
  rw [lg_entry_eq]
  generalize (lg_sl ([.ref h0, .int 0]) ++ List.replicate (2 - (lg_sl ([.ref h0, .int 0])).length) Slot.unset).toArray = ls at hl ⊢
  have hl : lv_has ls 2 [(0, .ref h0), (1, .int 0)] := hl
  refine lv_aload_n hx hb dX1_push_0 rfl (lv_at hl 0 rfl) ?_
  refine va_get (D := (dC, dI)) (ci := 1) (v := .int 0) (C := RX1) (T := TX1) (N := 9) hx hb hts hin_X1 hown hK hP 0 rfl rfl 2 (by decide) (hts (.fieldLink RX1 21 "NeedHouse$Layout" "depth" "I") (List.mem_of_getElem? (i := 1) rfl)) (fun _ h9 => h9) (hF0.at 0 rfl) dX1_push_1 ?_
  refine lv_sipush (v := 8008) hx hb dX1_push_4 (by decide) ?_
  refine lv_icmp_ge (tgt := 30) hx hb dX1_push_7 (by decide) (fun c_1 => absurd c_1 (by decide)) (fun _ => ?_)
  refine lv_aload_n hx hb dX1_push_10 rfl (lv_at hl 0 rfl) ?_
  refine va_get (D := (dC, dI)) (ci := 1) (v := .ref qk) (C := RX1) (T := TX1) (N := 9) hx hb hts hin_X1 hown hK hP 0 rfl rfl 1 (by decide) (hts (.fieldLink RX1 13 "NeedHouse$Layout" "stack" "[I") (List.mem_of_getElem? (i := 2) rfl)) (fun _ h9 => h9) (hF0.at 1 rfl) dX1_push_11 ?_
  refine lv_aload_n hx hb dX1_push_14 rfl (lv_at hl 0 rfl) ?_
  refine va_get (D := (dC, dI)) (ci := 1) (v := .int 0) (C := RX1) (T := TX1) (N := 9) hx hb hts hin_X1 hown hK hP 0 rfl rfl 2 (by decide) (hts (.fieldLink RX1 21 "NeedHouse$Layout" "depth" "I") (List.mem_of_getElem? (i := 1) rfl)) (fun _ h9 => h9) (hF0.at 0 rfl) dX1_push_15 ?_
  refine lv_iload_n hx hb dX1_push_18 rfl (lv_at hl 1 rfl) ?_
  refine va_iast hx hb hK hP hD hS 1 0 rfl rfl (show vp_in (nI 0) 8008 from vp_in_nI (by decide) (by decide)) dX1_push_19 (fun H locs hP hD hS => ?_)
  have hP : va_P (dC, dI) vwCl [(h0, .inr (1, fs0)), (qk, .inl (cI, 8008, .inl (upd fk (0 : Int32).toNatClampNeg 0)))] H := hP
  have hD : va_D A [(h0, .inr (1, fs0)), (qk, .inl (cI, 8008, .inl (upd fk (0 : Int32).toNatClampNeg 0)))] := hD
  have hk_3 : (upd fk (0 : Int32).toNatClampNeg 0) 0 = 0 := by rw [show (0 : Int32).toNatClampNeg = 0 from by decide]; exact pk_us
  generalize upd fk (0 : Int32).toNatClampNeg 0 = f_2 at hP hD hk_3
  have hP : va_P (dC, dI) vwCl [(h0, .inr (1, fs0)), (qk, .inl (cI, 8008, .inl f_2))] H := hP
  have hD : va_D A [(h0, .inr (1, fs0)), (qk, .inl (cI, 8008, .inl f_2))] := hD
  refine lv_aload_n hx hb dX1_push_20 rfl (lv_at hl 0 rfl) ?_
  refine lv_dup hx hb dX1_push_21 rfl ?_
  refine va_get (D := (dC, dI)) (ci := 1) (v := .int 0) (C := RX1) (T := TX1) (N := 9) hx hb hts hin_X1 hown hK hP 0 rfl rfl 2 (by decide) (hts (.fieldLink RX1 21 "NeedHouse$Layout" "depth" "I") (List.mem_of_getElem? (i := 1) rfl)) (fun _ h9 => h9) (hF0.at 0 rfl) dX1_push_22 ?_
  refine lv_iconst (v := 1) hx hb dX1_push_25 (by decide) ?_
  refine lv_iadd hx hb dX1_push_26 ?_
  refine lv_topi (fun x_4 ex_4 => ?_)
  obtain rfl : x_4 = 1 := ex_4.trans (by decide +kernel)
  refine va_put (D := (dC, dI)) (ci := 1) (v := .int 1) (ty := .int) (C := RX1) (T := TX1) (N := 9) hx hb hts hin_X1 tyX1 tyX1_ok nmX1 hown hK hP hD hS 0 rfl rfl 2 (by decide) (hts (.fieldLink RX1 21 "NeedHouse$Layout" "depth" "I") (List.mem_of_getElem? (i := 1) rfl)) (fun _ h9 => h9) rfl (by decide +kernel) rfl rfl (by rw [hF0.1]; decide) dX1_push_27 (fun H locs hP hD hS => ?_)
  have hP : va_P (dC, dI) vwCl [(h0, .inr (1, (fs0.set 2 (.int 1)))), (qk, .inl (cI, 8008, .inl f_2))] H := hP
  have hD : va_D A [(h0, .inr (1, (fs0.set 2 (.int 1)))), (qk, .inl (cI, 8008, .inl f_2))] := hD
  have hF_5 := hF0.set 2 (.int 1) (l' := [(2, .int 1), (1, .ref qk)]) (by decide) rfl
  have hE_6 := (sameF.rf (f := fs0)).set 2 (.int 1)
  generalize fs0.set 2 (.int 1) = fs_7 at hP hD hF_5 hE_6
  have hP : va_P (dC, dI) vwCl [(h0, .inr (1, fs_7)), (qk, .inl (cI, 8008, .inl f_2))] H := hP
  have hD : va_D A [(h0, .inr (1, fs_7)), (qk, .inl (cI, 8008, .inl f_2))] := hD
  have hP9 := hP.sub (ws' := [(h0, .inr (1, fs_7)), (qk, .inl (cI, 8008, .inl f_2))]) [0, 1] rfl
  have hD9 := hD.sub (ws' := [(h0, .inr (1, fs_7)), (qk, .inl (cI, 8008, .inl f_2))]) [0, 1] (by decide) rfl
  have hK9 := hK.sub (tys' := [(cI, .int)]) [0] rfl
  exact W.vret hx hb hr (fun t ht hW => ⟨⟨((fs_7, f_2)), rfl, ⟨hF_5.sub [0] rfl, hE_6.mono (by decide)⟩, by rw [ht]; exact hP9, va_K.moved hW.alike hK9, hD9⟩, hS.F ht⟩) hS.2.2 dX1_push_30
def pw_c_X1_close : List Cond := .code yX1_close cX1_close 5 (some .boolean) :: ([.fieldLink RX1 21 "NeedHouse$Layout" "depth" "I", .fieldLink RX1 51 "NeedHouse$Layout" "endsBehind" "I", .methodLink RX1 96 Lib.Math.max.name, .static Lib.Math.max.name, .initialized "java/lang/Math", .code Lib.Math.max.name Lib.Math.max.code 2 (some .int)] ++ (wsX10 ++ []))
set_option maxHeartbeats 4000000 in
set_option maxRecDepth 100000 in
theorem c_X1_close (l : Launch) (dC : Nat → ClassId) (dI : Nat → Nat → Nat) (sz : Nat) (h0 : Nat) (fs0 : List Value) (z1 : Int32) (hF0 : hasF fs0 9 [(2, .int 1), (4, .int z1)]) : Met l yX1_close pw_c_X1_close ({ frames := 1, cells := 0, slots := 0, locals := 24 }) (va_Pc [.ref h0, .int 0, .int 0] (fun U => U.heap.size = sz ∧ va_P (dC, dI) vwCl [(h0, .inr (1, fs0))] U.heap ∧ va_K (dC, dI) vwCl [] U ∧ va_D (fun _ => True) [(h0, .inr (1, fs0))])) (va_Qi (fun (r : Int32) (u : (List Value)) => r = 1 ∧ hasF u 9 [(2, .int 1), (4, .int 0)] ∧ sameF fs0 u [2, 4]) (fun (u : (List Value)) (t : State) => va_P (dC, dI) vwCl [(h0, .inr (1, u))] t.heap ∧ va_K (dC, dI) vwCl [] t ∧ va_D (va_A [(h0, .inr (1, fs0))] sz) [(h0, .inr (1, u))]) (va_A [(h0, .inr (1, fs0))] sz)) 0 0 (va_A [(h0, .inr (1, fs0))] sz) := by
  refine Met.ofW (cc := cX1_close) (maxL := 5) (ret := (some .boolean)) (by decide) rfl ?_
  intro p e s m args below meth c s₁ B hml hv
  obtain ⟨rfl, hsz, hP, hK, hD0⟩ := hv
  have hx := B.exec
  have hb := B.bytes
  have hr := B.returns
  have hts := atoms_spec (ws := pw_c_X1_close) B.pre
  have hown : s.vm.findClass RX1 = some m.cls := findClass_of_methodNamed B.named
  have hlocks := B.notSynchronized
  have hin_X1 : ∀ w ∈ u_ws RX1 TX1 9, w ∈ pw_c_X1_close := fun w h => List.mem_cons_of_mem _ (List.mem_append_right _ (List.mem_append_left _ h))
  subst hsz
  have hD := hD0.self (sz := s.heap.size)
  generalize hAe : va_A [(h0, .inr (1, fs0))] s.heap.size = A at hD ⊢
  have hA : ∀ q : Nat, s.heap.size ≤ q → A q := fun q h => by rw [← hAe]; exact Or.inr h
  have hS : va_S A s.heap s.heap [] := va_S.rf
  have hP : va_P (dC, dI) vwCl [(h0, .inr (1, fs0))] s.heap := hP
  have hl := lv_entry ([.ref h0, .int 0, .int 0]) (n := 5) (Nat.le_of_ble_eq_true rfl)
  rw [lg_entry_eq]
  generalize (lg_sl ([.ref h0, .int 0, .int 0]) ++ List.replicate (5 - (lg_sl ([.ref h0, .int 0, .int 0])).length) Slot.unset).toArray = ls at hl ⊢
  have hl : lv_has ls 5 [(0, .ref h0), (1, .int 0), (2, .int 0)] := hl
  refine lv_aload_n hx hb dX1_close_0 rfl (lv_at hl 0 rfl) ?_
  refine va_get (D := (dC, dI)) (ci := 1) (v := .int 1) (C := RX1) (T := TX1) (N := 9) hx hb hts hin_X1 hown hK hP 0 rfl rfl 2 (by decide) (hts (.fieldLink RX1 21 "NeedHouse$Layout" "depth" "I") (List.mem_of_getElem? (i := 1) rfl)) (fun _ h9 => h9) (hF0.at 0 rfl) dX1_close_1 ?_
  refine lv_iconst (v := 1) hx hb dX1_close_4 (by decide) ?_
  refine lv_isub hx hb dX1_close_5 ?_
  refine lv_topi (fun x_1 ex_1 => ?_)
  obtain rfl : x_1 = 0 := ex_1.trans (by decide +kernel)
  refine lv_istore_n (lv' := [(3, .int 0), (0, .ref h0), (1, .int 0), (2, .int 0)]) hx hb dX1_close_6 rfl hl (by decide) rfl (fun ls hl => ?_)
  refine lv_iload_n hx hb dX1_close_7 rfl (lv_at hl 0 rfl) ?_
  refine lv_if_le (tgt := 26) hx hb dX1_close_8 (by decide) (fun _ => ?_) (fun c_2 => absurd (by decide) c_2)
  refine lv_iload_n hx hb dX1_close_26 rfl (lv_at hl 0 rfl) ?_
  refine lv_if_le (tgt := 40) hx hb dX1_close_27 (by decide) (fun _ => ?_) (fun c_3 => absurd (by decide) c_3)
  refine lv_iconst (v := 0) hx hb dX1_close_40 (by decide) ?_
  refine lv_istore (lv' := [(4, .int 0), (3, .int 0), (0, .ref h0), (1, .int 0), (2, .int 0)]) hx hb dX1_close_41 hl (by decide) rfl (fun ls hl => ?_)
  refine lv_iload_n hx hb dX1_close_43 rfl (lv_at hl 3 rfl) ?_
  refine lv_bipush (v := 18) hx hb dX1_close_44 (by decide) ?_
  refine lv_icmp_ne (tgt := 69) hx hb dX1_close_46 (by decide) (fun _ => ?_) (fun c_4 => absurd c_4 (by decide))
  refine lv_iload_n hx hb dX1_close_69 rfl (lv_at hl 3 rfl) ?_
  refine lv_bipush (v := 17) hx hb dX1_close_70 (by decide) ?_
  refine lv_icmp_ne (tgt := 114) hx hb dX1_close_72 (by decide) (fun _ => ?_) (fun c_5 => absurd c_5 (by decide))
  refine lv_iload_n hx hb dX1_close_114 rfl (lv_at hl 3 rfl) ?_
  refine lv_if_eq (tgt := 122) hx hb dX1_close_115 (by decide) (fun _ => ?_) (fun c_6 => absurd (by decide) c_6)
  refine lv_aload_n hx hb dX1_close_122 rfl (lv_at hl 2 rfl) ?_
  refine lv_aload_n hx hb dX1_close_123 rfl (lv_at hl 2 rfl) ?_
  refine va_get (D := (dC, dI)) (ci := 1) (v := .int 1) (C := RX1) (T := TX1) (N := 9) hx hb hts hin_X1 hown hK hP 0 rfl rfl 2 (by decide) (hts (.fieldLink RX1 21 "NeedHouse$Layout" "depth" "I") (List.mem_of_getElem? (i := 1) rfl)) (fun _ h9 => h9) (hF0.at 0 rfl) dX1_close_124 ?_
  refine lv_iconst (v := 1) hx hb dX1_close_127 (by decide) ?_
  refine lv_isub hx hb dX1_close_128 ?_
  refine lv_topi (fun x_7 ex_7 => ?_)
  obtain rfl : x_7 = 0 := ex_7.trans (by decide +kernel)
  refine lv_iload_n hx hb dX1_close_129 rfl (lv_at hl 1 rfl) ?_
  refine lv_isub hx hb dX1_close_130 ?_
  refine lv_topi (fun x_8 ex_8 => ?_)
  obtain rfl : x_8 = 0 := ex_8.trans (by decide +kernel)
  refine va_put (D := (dC, dI)) (ci := 1) (v := .int 0) (ty := .int) (C := RX1) (T := TX1) (N := 9) hx hb hts hin_X1 tyX1 tyX1_ok nmX1 hown hK hP hD hS 0 rfl rfl 4 (by decide) (hts (.fieldLink RX1 51 "NeedHouse$Layout" "endsBehind" "I") (List.mem_of_getElem? (i := 2) rfl)) (fun _ h9 => h9) rfl (by decide +kernel) rfl rfl (by rw [hF0.1]; decide) dX1_close_131 (fun H locs hP hD hS => ?_)
  have hP : va_P (dC, dI) vwCl [(h0, .inr (1, (fs0.set 4 (.int 0))))] H := hP
  have hD : va_D A [(h0, .inr (1, (fs0.set 4 (.int 0))))] := hD
  have hF_9 := hF0.set 4 (.int 0) (l' := [(4, .int 0), (2, .int 1)]) (by decide) rfl
  have hE_10 := (sameF.rf (f := fs0)).set 4 (.int 0)
  generalize fs0.set 4 (.int 0) = fs_11 at hP hD hF_9 hE_10
  have hP : va_P (dC, dI) vwCl [(h0, .inr (1, fs_11))] H := hP
  have hD : va_D A [(h0, .inr (1, fs_11))] := hD
  refine lv_aload_n hx hb dX1_close_134 rfl (lv_at hl 2 rfl) ?_
  refine lv_iload_n hx hb dX1_close_135 rfl (lv_at hl 1 rfl) ?_
  refine lv_iconst (v := 1) hx hb dX1_close_136 (by decide) ?_
  refine va_mmax hx hb (by rw [hml]; exact hl.1.symm) hown (hts (.methodLink RX1 96 Lib.Math.max.name) (List.mem_of_getElem? (i := 3) rfl)) (hts (.static Lib.Math.max.name) (List.mem_of_getElem? (i := 4) rfl)) (hts (.initialized "java/lang/Math") (List.mem_of_getElem? (i := 5) rfl)) (hts (.code Lib.Math.max.name Lib.Math.max.code 2 (some .int)) (List.mem_of_getElem? (i := 6) rfl)) (Nat.le_of_ble_eq_true rfl) (Nat.le_of_ble_eq_true rfl) (show 0 ≤ 0 by decide) (show 0 ≤ 0 by decide) dX1_close_137 ?_
  refine lv_topi (fun x_12 ex_12 => ?_)
  obtain rfl : x_12 = 1 := ex_12.trans (by decide +kernel)
  refine va_put (D := (dC, dI)) (ci := 1) (v := .int 1) (ty := .int) (C := RX1) (T := TX1) (N := 9) hx hb hts hin_X1 tyX1 tyX1_ok nmX1 hown hK hP hD hS 0 rfl rfl 2 (by decide) (hts (.fieldLink RX1 21 "NeedHouse$Layout" "depth" "I") (List.mem_of_getElem? (i := 1) rfl)) (fun _ h9 => h9) rfl (by decide +kernel) rfl rfl (by rw [hF_9.1]; decide) dX1_close_140 (fun H locs hP hD hS => ?_)
  have hP : va_P (dC, dI) vwCl [(h0, .inr (1, (fs_11.set 2 (.int 1))))] H := hP
  have hD : va_D A [(h0, .inr (1, (fs_11.set 2 (.int 1))))] := hD
  have hF_13 := hF_9.set 2 (.int 1) (l' := [(2, .int 1), (4, .int 0)]) (by decide) rfl
  have hE_14 := hE_10.set 2 (.int 1)
  generalize fs_11.set 2 (.int 1) = fs_15 at hP hD hF_13 hE_14
  have hP : va_P (dC, dI) vwCl [(h0, .inr (1, fs_15))] H := hP
  have hD : va_D A [(h0, .inr (1, fs_15))] := hD
  refine lv_iload hx hb dX1_close_143 (lv_at hl 0 rfl) ?_
  refine lv_iload_n hx hb dX1_close_145 rfl (lv_at hl 4 rfl) ?_
  refine lv_icmp_ne (tgt := 153) hx hb dX1_close_146 (by decide) (fun c_16 => absurd c_16 (by decide)) (fun _ => ?_)
  refine lv_iconst (v := 1) hx hb dX1_close_149 (by decide) ?_
  refine lv_goto (tgt := 154) hx hb dX1_close_150 (by decide) ?_
  have hP9 := hP.sub (ws' := [(h0, .inr (1, fs_15))]) [0] rfl
  have hD9 := hD.sub (ws' := [(h0, .inr (1, fs_15))]) [0] (by decide) rfl
  have hK9 := hK.sub (tys' := []) [] rfl
  exact W.zret (v := 1) hx hb hr (by first | rfl | decide +kernel) (fun t ht hW => ⟨⟨1, (fs_15), rfl, ⟨rfl, hF_13.sub [0, 1] rfl, hE_14.mono (by decide)⟩, by rw [ht]; exact hP9, va_K.moved hW.alike hK9, hD9⟩, hS.F ht⟩) hS.2.2 dX1_close_154
def pw_c_X1_arrive : List Cond := .code yX1_arrive cX1_arrive 4 none :: ([.fieldLink RX1 45 "NeedHouse$Layout" "endsAhead" "I", .fieldLink RX1 51 "NeedHouse$Layout" "endsBehind" "I", .fieldLink RX1 48 "NeedHouse$Layout" "itemEnds" "Z", .fieldLink RX1 31 "NeedHouse$Layout" "misplaced" "Z", .fieldLink RX1 17 "NeedHouse$Layout" "lexemes" "LNeedHouse$Lexemes;", .fieldLink RX1 54 "NeedHouse$Lexemes" "kind" "[I", .fieldLink RX1 25 "NeedHouse$Layout" "token" "I", .fieldLink RX1 70 "NeedHouse$Lexemes" "column" "[I", .methodLink RX1 77 yX1_push, .instanceMethod yX1_push, .selects RX1 yX1_push yX1_push, .initialized RX1, .code yX1_push cX1_push 2 none, .fieldLink RX1 21 "NeedHouse$Layout" "depth" "I", .fieldLink RX1 13 "NeedHouse$Layout" "stack" "[I", .methodLink RX1 84 yX1_closes, .static yX1_closes, .code yX1_closes cX1_closes 1 (some .int), .methodLink RX1 88 yX1_close, .instanceMethod yX1_close, .selects RX1 yX1_close yX1_close, .code yX1_close cX1_close 5 (some .boolean), .methodLink RX1 96 Lib.Math.max.name, .static Lib.Math.max.name, .initialized "java/lang/Math", .code Lib.Math.max.name Lib.Math.max.code 2 (some .int), .methodLink RX1 92 yX1_opens, .static yX1_opens, .code yX1_opens cX1_opens 1 (some .boolean)] ++ (wsX10 ++ (wsX20 ++ [])))
set_option maxRecDepth 20000 in
theorem g_c_X1_arrive_c_X1_push_161 : GoodIn pw_c_X1_arrive (wsV RX1 77 RX1 yX1_push pw_c_X1_push) := goodIn_r _ [9, 10, 11, 12, 13, 14, 15, 30, 31, 32, 33, 34, 35, 36, 37, 38] rfl (by decide +kernel)
set_option maxRecDepth 20000 in
theorem g_c_X1_arrive_c_X1_closes_215 : GoodIn pw_c_X1_arrive (va_wsS RX1 84 yX1_closes pw_c_X1_closes) := goodIn_r _ [16, 17, 12, 18] rfl (by decide +kernel)
set_option maxRecDepth 20000 in
theorem g_c_X1_arrive_c_X1_close_218 : GoodIn pw_c_X1_arrive (wsV RX1 88 RX1 yX1_close pw_c_X1_close) := goodIn_r _ [19, 20, 21, 12, 22, 14, 2, 23, 24, 25, 26, 30, 31, 32, 33, 34, 35, 36, 37, 38] rfl (by decide +kernel)
set_option maxRecDepth 20000 in
theorem g_c_X1_arrive_c_X1_opens_230 : GoodIn pw_c_X1_arrive (va_wsS RX1 92 yX1_opens pw_c_X1_opens) := goodIn_r _ [27, 28, 12, 29] rfl (by decide +kernel)
set_option maxHeartbeats 4000000 in
set_option maxRecDepth 100000 in
theorem c_X1_arrive (l : Launch) (dC : Nat → ClassId) (dI : Nat → Nat → Nat) (sz : Nat) (cI : ClassId) (h0 : Nat) (fs0 : List Value) (z3 : Int32) (z4 : Int32) (z5 : Int32) (z6 : Int32) (z7 : Int32) (ql : Nat) (fsl : List Value) (qk : Nat) (fk : Nat → Int32) (k1 : Nat) (g1 : Nat → Int32) (k2 : Nat) (g2 : Nat → Int32) (hF0 : hasF fs0 9 [(0, .ref ql), (1, .ref qk), (2, .int 0), (3, .int z3), (4, .int z4), (5, .int z5), (6, .int z6), (7, .int 0), (8, .int z7)]) (hFl : hasF fsl 12 [(0, .ref k1), (2, .ref k2)]) (hkg1_0 : g1 0 = 0) (hkg2_0 : g2 0 = 0) : Met l yX1_arrive pw_c_X1_arrive ({ frames := 2, cells := 0, slots := 0, locals := 48 }) (va_Pc [.ref h0] (fun U => U.heap.size = sz ∧ va_P (dC, dI) vwCl [(h0, .inr (1, fs0)), (ql, .inr (2, fsl)), (qk, .inl (cI, 8008, .inl fk)), (k1, .inl (cI, 4004, .inl g1)), (k2, .inl (cI, 4004, .inl g2))] U.heap ∧ va_K (dC, dI) vwCl [(cI, .int)] U ∧ va_D (fun _ => True) [(h0, .inr (1, fs0)), (ql, .inr (2, fsl)), (qk, .inl (cI, 8008, .inl fk)), (k1, .inl (cI, 4004, .inl g1)), (k2, .inl (cI, 4004, .inl g2))])) (va_Qv (fun (u : (List Value) × (Nat → Int32)) => hasF u.1 9 [(2, .int 1), (3, .int 0), (4, .int 0), (5, .int 0), (6, .int 0), (7, .int 0)] ∧ sameF fs0 u.1 [2, 3, 4, 5, 6, 7, 8]) (fun (u : (List Value) × (Nat → Int32)) (t : State) => va_P (dC, dI) vwCl [(h0, .inr (1, u.1)), (ql, .inr (2, fsl)), (qk, .inl (cI, 8008, .inl u.2)), (k1, .inl (cI, 4004, .inl g1)), (k2, .inl (cI, 4004, .inl g2))] t.heap ∧ va_K (dC, dI) vwCl [(cI, .int)] t ∧ va_D (va_A [(h0, .inr (1, fs0)), (ql, .inr (2, fsl)), (qk, .inl (cI, 8008, .inl fk)), (k1, .inl (cI, 4004, .inl g1)), (k2, .inl (cI, 4004, .inl g2))] sz) [(h0, .inr (1, u.1)), (ql, .inr (2, fsl)), (qk, .inl (cI, 8008, .inl u.2)), (k1, .inl (cI, 4004, .inl g1)), (k2, .inl (cI, 4004, .inl g2))]) (va_A [(h0, .inr (1, fs0)), (ql, .inr (2, fsl)), (qk, .inl (cI, 8008, .inl fk)), (k1, .inl (cI, 4004, .inl g1)), (k2, .inl (cI, 4004, .inl g2))] sz)) 0 0 (va_A [(h0, .inr (1, fs0)), (ql, .inr (2, fsl)), (qk, .inl (cI, 8008, .inl fk)), (k1, .inl (cI, 4004, .inl g1)), (k2, .inl (cI, 4004, .inl g2))] sz) := by
  refine Met.ofW (cc := cX1_arrive) (maxL := 4) (ret := none) (by decide) rfl ?_
  intro p e s m args below meth c s₁ B hml hv
  obtain ⟨rfl, hsz, hP, hK, hD0⟩ := hv
  have hx := B.exec
  have hb := B.bytes
  have hr := B.returns
  have hts := atoms_spec (ws := pw_c_X1_arrive) B.pre
  have hown : s.vm.findClass RX1 = some m.cls := findClass_of_methodNamed B.named
  have hlocks := B.notSynchronized
  have hin_X1 : ∀ w ∈ u_ws RX1 TX1 9, w ∈ pw_c_X1_arrive := fun w h => List.mem_cons_of_mem _ (List.mem_append_right _ (List.mem_append_left _ h))
  have hin_X2 : ∀ w ∈ u_ws RX2 TX2 12, w ∈ pw_c_X1_arrive := fun w h => List.mem_cons_of_mem _ (List.mem_append_right _ (List.mem_append_right _ (List.mem_append_left _ h)))
  subst hsz
  have hD := hD0.self (sz := s.heap.size)
  generalize hAe : va_A [(h0, .inr (1, fs0)), (ql, .inr (2, fsl)), (qk, .inl (cI, 8008, .inl fk)), (k1, .inl (cI, 4004, .inl g1)), (k2, .inl (cI, 4004, .inl g2))] s.heap.size = A at hD ⊢
  have hA : ∀ q : Nat, s.heap.size ≤ q → A q := fun q h => by rw [← hAe]; exact Or.inr h
  have hS : va_S A s.heap s.heap [] := va_S.rf
  have hP : va_P (dC, dI) vwCl [(h0, .inr (1, fs0)), (ql, .inr (2, fsl)), (qk, .inl (cI, 8008, .inl fk)), (k1, .inl (cI, 4004, .inl g1)), (k2, .inl (cI, 4004, .inl g2))] s.heap := hP
  have hl := lv_entry ([.ref h0]) (n := 4) (Nat.le_of_ble_eq_true rfl)
  rw [lg_entry_eq]
  generalize (lg_sl ([.ref h0]) ++ List.replicate (4 - (lg_sl ([.ref h0])).length) Slot.unset).toArray = ls at hl ⊢
  have hl : lv_has ls 4 [(0, .ref h0)] := hl
  refine lv_aload_n hx hb dX1_arrive_0 rfl (lv_at hl 0 rfl) ?_
  refine lv_iconst (v := 0) hx hb dX1_arrive_1 (by decide) ?_
  refine va_put (D := (dC, dI)) (ci := 1) (v := .int 0) (ty := .int) (C := RX1) (T := TX1) (N := 9) hx hb hts hin_X1 tyX1 tyX1_ok nmX1 hown hK hP hD hS 0 rfl rfl 3 (by decide) (hts (.fieldLink RX1 45 "NeedHouse$Layout" "endsAhead" "I") (List.mem_of_getElem? (i := 1) rfl)) (fun _ h9 => h9) rfl (by decide +kernel) rfl rfl (by rw [hF0.1]; decide) dX1_arrive_2 (fun H locs hP hD hS => ?_)
  have hP : va_P (dC, dI) vwCl [(h0, .inr (1, (fs0.set 3 (.int 0)))), (ql, .inr (2, fsl)), (qk, .inl (cI, 8008, .inl fk)), (k1, .inl (cI, 4004, .inl g1)), (k2, .inl (cI, 4004, .inl g2))] H := hP
  have hD : va_D A [(h0, .inr (1, (fs0.set 3 (.int 0)))), (ql, .inr (2, fsl)), (qk, .inl (cI, 8008, .inl fk)), (k1, .inl (cI, 4004, .inl g1)), (k2, .inl (cI, 4004, .inl g2))] := hD
  have hF_1 := hF0.set 3 (.int 0) (l' := [(3, .int 0), (0, .ref ql), (1, .ref qk), (2, .int 0), (4, .int z4), (5, .int z5), (6, .int z6), (7, .int 0), (8, .int z7)]) (by decide) rfl
  have hE_2 := (sameF.rf (f := fs0)).set 3 (.int 0)
  generalize fs0.set 3 (.int 0) = fs_3 at hP hD hF_1 hE_2
  have hP : va_P (dC, dI) vwCl [(h0, .inr (1, fs_3)), (ql, .inr (2, fsl)), (qk, .inl (cI, 8008, .inl fk)), (k1, .inl (cI, 4004, .inl g1)), (k2, .inl (cI, 4004, .inl g2))] H := hP
  have hD : va_D A [(h0, .inr (1, fs_3)), (ql, .inr (2, fsl)), (qk, .inl (cI, 8008, .inl fk)), (k1, .inl (cI, 4004, .inl g1)), (k2, .inl (cI, 4004, .inl g2))] := hD
  refine lv_aload_n hx hb dX1_arrive_5 rfl (lv_at hl 0 rfl) ?_
  refine lv_iconst (v := 0) hx hb dX1_arrive_6 (by decide) ?_
  refine va_put (D := (dC, dI)) (ci := 1) (v := .int 0) (ty := .int) (C := RX1) (T := TX1) (N := 9) hx hb hts hin_X1 tyX1 tyX1_ok nmX1 hown hK hP hD hS 0 rfl rfl 4 (by decide) (hts (.fieldLink RX1 51 "NeedHouse$Layout" "endsBehind" "I") (List.mem_of_getElem? (i := 2) rfl)) (fun _ h9 => h9) rfl (by decide +kernel) rfl rfl (by rw [hF_1.1]; decide) dX1_arrive_7 (fun H locs hP hD hS => ?_)
  have hP : va_P (dC, dI) vwCl [(h0, .inr (1, (fs_3.set 4 (.int 0)))), (ql, .inr (2, fsl)), (qk, .inl (cI, 8008, .inl fk)), (k1, .inl (cI, 4004, .inl g1)), (k2, .inl (cI, 4004, .inl g2))] H := hP
  have hD : va_D A [(h0, .inr (1, (fs_3.set 4 (.int 0)))), (ql, .inr (2, fsl)), (qk, .inl (cI, 8008, .inl fk)), (k1, .inl (cI, 4004, .inl g1)), (k2, .inl (cI, 4004, .inl g2))] := hD
  have hF_4 := hF_1.set 4 (.int 0) (l' := [(4, .int 0), (3, .int 0), (0, .ref ql), (1, .ref qk), (2, .int 0), (5, .int z5), (6, .int z6), (7, .int 0), (8, .int z7)]) (by decide) rfl
  have hE_5 := hE_2.set 4 (.int 0)
  generalize fs_3.set 4 (.int 0) = fs_6 at hP hD hF_4 hE_5
  have hP : va_P (dC, dI) vwCl [(h0, .inr (1, fs_6)), (ql, .inr (2, fsl)), (qk, .inl (cI, 8008, .inl fk)), (k1, .inl (cI, 4004, .inl g1)), (k2, .inl (cI, 4004, .inl g2))] H := hP
  have hD : va_D A [(h0, .inr (1, fs_6)), (ql, .inr (2, fsl)), (qk, .inl (cI, 8008, .inl fk)), (k1, .inl (cI, 4004, .inl g1)), (k2, .inl (cI, 4004, .inl g2))] := hD
  refine lv_aload_n hx hb dX1_arrive_10 rfl (lv_at hl 0 rfl) ?_
  refine lv_iconst (v := 0) hx hb dX1_arrive_11 (by decide) ?_
  refine va_put (D := (dC, dI)) (ci := 1) (v := .int 0) (ty := .boolean) (C := RX1) (T := TX1) (N := 9) hx hb hts hin_X1 tyX1 tyX1_ok nmX1 hown hK hP hD hS 0 rfl rfl 5 (by decide) (hts (.fieldLink RX1 48 "NeedHouse$Layout" "itemEnds" "Z") (List.mem_of_getElem? (i := 3) rfl)) (fun _ h9 => h9) rfl (by decide +kernel) rfl rfl (by rw [hF_4.1]; decide) dX1_arrive_12 (fun H locs hP hD hS => ?_)
  have hP : va_P (dC, dI) vwCl [(h0, .inr (1, (fs_6.set 5 (.int 0)))), (ql, .inr (2, fsl)), (qk, .inl (cI, 8008, .inl fk)), (k1, .inl (cI, 4004, .inl g1)), (k2, .inl (cI, 4004, .inl g2))] H := hP
  have hD : va_D A [(h0, .inr (1, (fs_6.set 5 (.int 0)))), (ql, .inr (2, fsl)), (qk, .inl (cI, 8008, .inl fk)), (k1, .inl (cI, 4004, .inl g1)), (k2, .inl (cI, 4004, .inl g2))] := hD
  have hF_7 := hF_4.set 5 (.int 0) (l' := [(5, .int 0), (4, .int 0), (3, .int 0), (0, .ref ql), (1, .ref qk), (2, .int 0), (6, .int z6), (7, .int 0), (8, .int z7)]) (by decide) rfl
  have hE_8 := hE_5.set 5 (.int 0)
  generalize fs_6.set 5 (.int 0) = fs_9 at hP hD hF_7 hE_8
  have hP : va_P (dC, dI) vwCl [(h0, .inr (1, fs_9)), (ql, .inr (2, fsl)), (qk, .inl (cI, 8008, .inl fk)), (k1, .inl (cI, 4004, .inl g1)), (k2, .inl (cI, 4004, .inl g2))] H := hP
  have hD : va_D A [(h0, .inr (1, fs_9)), (ql, .inr (2, fsl)), (qk, .inl (cI, 8008, .inl fk)), (k1, .inl (cI, 4004, .inl g1)), (k2, .inl (cI, 4004, .inl g2))] := hD
  refine lv_aload_n hx hb dX1_arrive_15 rfl (lv_at hl 0 rfl) ?_
  refine lv_iconst (v := 0) hx hb dX1_arrive_16 (by decide) ?_
  refine va_put (D := (dC, dI)) (ci := 1) (v := .int 0) (ty := .boolean) (C := RX1) (T := TX1) (N := 9) hx hb hts hin_X1 tyX1 tyX1_ok nmX1 hown hK hP hD hS 0 rfl rfl 6 (by decide) (hts (.fieldLink RX1 31 "NeedHouse$Layout" "misplaced" "Z") (List.mem_of_getElem? (i := 4) rfl)) (fun _ h9 => h9) rfl (by decide +kernel) rfl rfl (by rw [hF_7.1]; decide) dX1_arrive_17 (fun H locs hP hD hS => ?_)
  have hP : va_P (dC, dI) vwCl [(h0, .inr (1, (fs_9.set 6 (.int 0)))), (ql, .inr (2, fsl)), (qk, .inl (cI, 8008, .inl fk)), (k1, .inl (cI, 4004, .inl g1)), (k2, .inl (cI, 4004, .inl g2))] H := hP
  have hD : va_D A [(h0, .inr (1, (fs_9.set 6 (.int 0)))), (ql, .inr (2, fsl)), (qk, .inl (cI, 8008, .inl fk)), (k1, .inl (cI, 4004, .inl g1)), (k2, .inl (cI, 4004, .inl g2))] := hD
  have hF_10 := hF_7.set 6 (.int 0) (l' := [(6, .int 0), (5, .int 0), (4, .int 0), (3, .int 0), (0, .ref ql), (1, .ref qk), (2, .int 0), (7, .int 0), (8, .int z7)]) (by decide) rfl
  have hE_11 := hE_8.set 6 (.int 0)
  generalize fs_9.set 6 (.int 0) = fs_12 at hP hD hF_10 hE_11
  have hP : va_P (dC, dI) vwCl [(h0, .inr (1, fs_12)), (ql, .inr (2, fsl)), (qk, .inl (cI, 8008, .inl fk)), (k1, .inl (cI, 4004, .inl g1)), (k2, .inl (cI, 4004, .inl g2))] H := hP
  have hD : va_D A [(h0, .inr (1, fs_12)), (ql, .inr (2, fsl)), (qk, .inl (cI, 8008, .inl fk)), (k1, .inl (cI, 4004, .inl g1)), (k2, .inl (cI, 4004, .inl g2))] := hD
  refine lv_aload_n hx hb dX1_arrive_20 rfl (lv_at hl 0 rfl) ?_
  refine va_get (D := (dC, dI)) (ci := 1) (v := .ref ql) (C := RX1) (T := TX1) (N := 9) hx hb hts hin_X1 hown hK hP 0 rfl rfl 0 (by decide) (hts (.fieldLink RX1 17 "NeedHouse$Layout" "lexemes" "LNeedHouse$Lexemes;") (List.mem_of_getElem? (i := 5) rfl)) (fun _ h9 => h9) (hF_10.at 4 rfl) dX1_arrive_21 ?_
  refine va_get (D := (dC, dI)) (ci := 2) (v := .ref k1) (C := RX2) (T := TX2) (N := 12) hx hb hts hin_X2 hown hK hP 1 rfl rfl 0 (by decide) (hts (.fieldLink RX1 54 "NeedHouse$Lexemes" "kind" "[I") (List.mem_of_getElem? (i := 6) rfl)) (fun _ h9 => h9) (hFl.at 0 rfl) dX1_arrive_24 ?_
  refine lv_aload_n hx hb dX1_arrive_27 rfl (lv_at hl 0 rfl) ?_
  refine va_get (D := (dC, dI)) (ci := 1) (v := .int 0) (C := RX1) (T := TX1) (N := 9) hx hb hts hin_X1 hown hK hP 0 rfl rfl 7 (by decide) (hts (.fieldLink RX1 25 "NeedHouse$Layout" "token" "I") (List.mem_of_getElem? (i := 7) rfl)) (fun _ h9 => h9) (hF_10.at 7 rfl) dX1_arrive_28 ?_
  refine va_iald hx hb hK hP 3 0 rfl rfl (show vp_in (nI 0) 4004 from vp_in_nI (by decide) (by decide)) dX1_arrive_31 ?_
  refine lv_topi (fun x_13 ex_13 => ?_)
  obtain rfl : x_13 = 0 := ex_13.trans (by rw [show (0 : Int32).toNatClampNeg = 0 from by decide]; exact hkg1_0)
  refine lv_istore_n (lv' := [(1, .int 0), (0, .ref h0)]) hx hb dX1_arrive_32 rfl hl (by decide) rfl (fun ls hl => ?_)
  refine lv_aload_n hx hb dX1_arrive_33 rfl (lv_at hl 1 rfl) ?_
  refine va_get (D := (dC, dI)) (ci := 1) (v := .int 0) (C := RX1) (T := TX1) (N := 9) hx hb hts hin_X1 hown hK hP 0 rfl rfl 7 (by decide) (hts (.fieldLink RX1 25 "NeedHouse$Layout" "token" "I") (List.mem_of_getElem? (i := 7) rfl)) (fun _ h9 => h9) (hF_10.at 7 rfl) dX1_arrive_34 ?_
  refine lv_if_le (tgt := 57) hx hb dX1_arrive_37 (by decide) (fun _ => ?_) (fun c_14 => absurd (by decide) c_14)
  refine lv_iconst (v := 0) hx hb dX1_arrive_57 (by decide) ?_
  refine lv_istore_n (lv' := [(2, .int 0), (1, .int 0), (0, .ref h0)]) hx hb dX1_arrive_58 rfl hl (by decide) rfl (fun ls hl => ?_)
  refine lv_iload_n hx hb dX1_arrive_59 rfl (lv_at hl 0 rfl) ?_
  refine lv_bipush (v := 12) hx hb dX1_arrive_60 (by decide) ?_
  refine lv_icmp_eq (tgt := 71) hx hb dX1_arrive_62 (by decide) (fun c_15 => absurd c_15 (by decide)) (fun _ => ?_)
  refine lv_iload_n hx hb dX1_arrive_65 rfl (lv_at hl 0 rfl) ?_
  refine lv_bipush (v := 6) hx hb dX1_arrive_66 (by decide) ?_
  refine lv_icmp_ne (tgt := 75) hx hb dX1_arrive_68 (by decide) (fun _ => ?_) (fun c_16 => absurd c_16 (by decide))
  refine lv_iconst (v := 0) hx hb dX1_arrive_75 (by decide) ?_
  refine lv_istore_n (lv' := [(3, .int 0), (2, .int 0), (1, .int 0), (0, .ref h0)]) hx hb dX1_arrive_76 rfl hl (by decide) rfl (fun ls hl => ?_)
  refine lv_iload_n hx hb dX1_arrive_77 rfl (lv_at hl 2 rfl) ?_
  refine lv_iconst (v := 1) hx hb dX1_arrive_78 (by decide) ?_
  refine lv_icmp_ne (tgt := 87) hx hb dX1_arrive_79 (by decide) (fun _ => ?_) (fun c_17 => absurd c_17 (by decide))
  refine lv_iload_n hx hb dX1_arrive_87 rfl (lv_at hl 0 rfl) ?_
  refine lv_if_eq (tgt := 100) hx hb dX1_arrive_88 (by decide) (fun _ => ?_) (fun c_18 => absurd (by decide) c_18)
  refine lv_iload_n hx hb dX1_arrive_100 rfl (lv_at hl 0 rfl) ?_
  refine lv_if_eq (tgt := 137) hx hb dX1_arrive_101 (by decide) (fun _ => ?_) (fun c_19 => absurd (by decide) c_19)
  refine lv_iload_n hx hb dX1_arrive_137 rfl (lv_at hl 0 rfl) ?_
  refine lv_if_ne (tgt := 148) hx hb dX1_arrive_138 (by decide) (fun c_20 => absurd c_20 (by decide)) (fun _ => ?_)
  refine lv_aload_n hx hb dX1_arrive_141 rfl (lv_at hl 3 rfl) ?_
  refine va_get (D := (dC, dI)) (ci := 1) (v := .int 0) (C := RX1) (T := TX1) (N := 9) hx hb hts hin_X1 hown hK hP 0 rfl rfl 7 (by decide) (hts (.fieldLink RX1 25 "NeedHouse$Layout" "token" "I") (List.mem_of_getElem? (i := 7) rfl)) (fun _ h9 => h9) (hF_10.at 7 rfl) dX1_arrive_142 ?_
  refine lv_if_ne (tgt := 167) hx hb dX1_arrive_145 (by decide) (fun c_21 => absurd c_21 (by decide)) (fun _ => ?_)
  refine lv_aload_n hx hb dX1_arrive_148 rfl (lv_at hl 3 rfl) ?_
  refine lv_aload_n hx hb dX1_arrive_149 rfl (lv_at hl 3 rfl) ?_
  refine va_get (D := (dC, dI)) (ci := 1) (v := .ref ql) (C := RX1) (T := TX1) (N := 9) hx hb hts hin_X1 hown hK hP 0 rfl rfl 0 (by decide) (hts (.fieldLink RX1 17 "NeedHouse$Layout" "lexemes" "LNeedHouse$Lexemes;") (List.mem_of_getElem? (i := 5) rfl)) (fun _ h9 => h9) (hF_10.at 4 rfl) dX1_arrive_150 ?_
  refine va_get (D := (dC, dI)) (ci := 2) (v := .ref k2) (C := RX2) (T := TX2) (N := 12) hx hb hts hin_X2 hown hK hP 1 rfl rfl 2 (by decide) (hts (.fieldLink RX1 70 "NeedHouse$Lexemes" "column" "[I") (List.mem_of_getElem? (i := 8) rfl)) (fun _ h9 => h9) (hFl.at 1 rfl) dX1_arrive_153 ?_
  refine lv_aload_n hx hb dX1_arrive_156 rfl (lv_at hl 3 rfl) ?_
  refine va_get (D := (dC, dI)) (ci := 1) (v := .int 0) (C := RX1) (T := TX1) (N := 9) hx hb hts hin_X1 hown hK hP 0 rfl rfl 7 (by decide) (hts (.fieldLink RX1 25 "NeedHouse$Layout" "token" "I") (List.mem_of_getElem? (i := 7) rfl)) (fun _ h9 => h9) (hF_10.at 7 rfl) dX1_arrive_157 ?_
  refine va_iald hx hb hK hP 4 0 rfl rfl (show vp_in (nI 0) 4004 from vp_in_nI (by decide) (by decide)) dX1_arrive_160 ?_
  refine lv_topi (fun x_22 ex_22 => ?_)
  obtain rfl : x_22 = 0 := ex_22.trans (by rw [show (0 : Int32).toNatClampNeg = 0 from by decide]; exact hkg2_0)
  have hPc := hP.sub (ws' := [(h0, .inr (1, fs_12)), (qk, .inl (cI, 8008, .inl fk))]) [0, 2] rfl
  have hDc := hD.sub (ws' := [(h0, .inr (1, fs_12)), (qk, .inl (cI, 8008, .inl fk))]) [0, 2] (by decide) rfl
  have hKc := hK.sub (tys' := [(cI, .int)]) [0] rfl
  have hFc := va_free (wc := [(h0, .inr (1, fs_12)), (qk, .inl (cI, 8008, .inl fk))]) hD hS hA [0, 2] rfl
  refine va_callv (va_runV (As := [.int 0]) (rest := []) ⟨hx, hb, hml, hown, hts⟩ (c_X1_push l dC dI H.size cI h0 fs_12 qk fk (hF_10.sub [6, 5] rfl)) (cwV 1 hts g_c_X1_arrive_c_X1_push_161 rfl rfl rfl (by decide +kernel) ⟨Nat.le_of_ble_eq_true rfl, Nat.le_of_ble_eq_true rfl⟩) ⟨fun a U g mk q => by obtain ⟨q0, q1, qP, qK, qD⟩ := q; exact ⟨q0, q1, qP, va_K.moved (u := U) (U := U.calling g mk a) (Vm.Alike.refl U.vm) qK, qD⟩, va_recv hKc hPc (ci := 1) (q0 := 0) rfl rfl, fun U hU hW => ⟨rfl, by rw [hU], by rw [hU]; exact hPc, va_K.moved hW.alike hKc, hDc.weaken (fun _ _ _ _ => trivial)⟩⟩ rfl rfl hl.1 rfl (lv_room (Nat.le_of_ble_eq_true rfl)) dX1_arrive_161 ⟨show 0 + 0 ≤ 0 by decide, show 0 + 0 ≤ 0 by decide⟩) hS (fun q _ h => hFc q h) hFc (fun u t H1 locs ht hvm hw hB hz1 hk1 hS => ?_)
  obtain ⟨fs0z_25, fkz_26⟩ := u
  obtain ⟨hP1, hK1, hD1⟩ := hB
  rw [ht] at hP1
  have hK1 := va_K.moved hvm.symm hK1
  try dsimp only at hw hP1 hK1 hD1
  obtain ⟨hF_27, hE_28⟩ := hw
  obtain ⟨hP, hD⟩ := va_join (wr := [(ql, .inr (2, fsl)), (k1, .inl (cI, 4004, .inl g1)), (k2, .inl (cI, 4004, .inl g2))]) (w1 := [(h0, .inr (1, fs0z_25)), (qk, .inl (cI, 8008, .inl fkz_26))]) hP hD [0, 2] [1, 3, 4] rfl rfl (by decide) (by decide) hk1 hFc hP1 hD1
  generalize H1 = H at hP hS ⊢
  have hK := (hK.sub (tys' := []) [] rfl).app hK1
  have hK : va_K (dC, dI) vwCl [(cI, .int)] s := hK
  have hP : va_P (dC, dI) vwCl [(ql, .inr (2, fsl)), (k1, .inl (cI, 4004, .inl g1)), (k2, .inl (cI, 4004, .inl g2)), (h0, .inr (1, fs0z_25)), (qk, .inl (cI, 8008, .inl fkz_26))] H := hP
  have hD : va_D A [(ql, .inr (2, fsl)), (k1, .inl (cI, 4004, .inl g1)), (k2, .inl (cI, 4004, .inl g2)), (h0, .inr (1, fs0z_25)), (qk, .inl (cI, 8008, .inl fkz_26))] := hD
  have hF_29 := hF_10.same hE_28 (l' := [(6, .int 0), (5, .int 0), (4, .int 0), (3, .int 0), (0, .ref ql), (1, .ref qk), (7, .int 0), (8, .int z7)]) rfl
  have hF_30 := hF_27.app hF_29
  have hE_31 := hE_11.trans hE_28
  refine lv_goto (tgt := 212) hx hb dX1_arrive_164 (by decide) ?_
  refine lv_aload_n hx hb dX1_arrive_212 rfl (lv_at hl 3 rfl) ?_
  refine lv_iload_n hx hb dX1_arrive_213 rfl (lv_at hl 2 rfl) ?_
  refine lv_iload_n hx hb dX1_arrive_214 rfl (lv_at hl 2 rfl) ?_
  have hPc := hP.sub (ws' := []) [] rfl
  have hDc := hD.sub (ws' := []) [] (by decide) rfl
  have hKc := hK.sub (tys' := []) [] rfl
  have hFc := va_free (wc := []) hD hS hA [] rfl
  refine va_calli (va_runS (As := [.int 0]) (rest := [.int 0, .ref h0]) ⟨hx, hb, hml, hown, hts⟩ (c_X1_closes l dC dI H.size  ) (va_cwS 1 hts g_c_X1_arrive_c_X1_closes_215 rfl rfl rfl (by decide +kernel) ⟨Nat.le_of_ble_eq_true rfl, Nat.le_of_ble_eq_true rfl⟩) ⟨fun a U g mk q => by obtain ⟨q0, q1, qP, qK, qD⟩ := q; exact ⟨q0, q1, qP, va_K.moved (u := U) (U := U.calling g mk a) (Vm.Alike.refl U.vm) qK, qD⟩, fun U hU hW => ⟨rfl, by rw [hU], by rw [hU]; exact hPc, va_K.moved hW.alike hKc, hDc.weaken (fun _ _ _ _ => trivial)⟩⟩ rfl rfl hl.1 rfl (lv_room (Nat.le_of_ble_eq_true rfl)) dX1_arrive_215 ⟨show 0 + 0 ≤ 0 by decide, show 0 + 0 ≤ 0 by decide⟩) hS (fun q _ h => hFc q h) hFc (fun r_32 u t H1 locs ht hvm hw hB hz1 hk1 hS => ?_)
  obtain ⟨hP1, hK1, hD1⟩ := hB
  rw [ht] at hP1
  have hK1 := va_K.moved hvm.symm hK1
  try dsimp only at hw hP1 hK1 hD1
  have hr_34 := hw
  obtain ⟨hP, hD⟩ := va_join (wr := [(ql, .inr (2, fsl)), (k1, .inl (cI, 4004, .inl g1)), (k2, .inl (cI, 4004, .inl g2)), (h0, .inr (1, fs0z_25)), (qk, .inl (cI, 8008, .inl fkz_26))]) (w1 := []) hP hD [] [0, 1, 2, 3, 4] rfl rfl (by decide) (by decide) hk1 hFc hP1 hD1
  generalize H1 = H at hP hS ⊢
  have hK := (hK.sub (tys' := [(cI, .int)]) [0] rfl).app hK1
  have hK : va_K (dC, dI) vwCl [(cI, .int)] s := hK
  have hP : va_P (dC, dI) vwCl [(ql, .inr (2, fsl)), (k1, .inl (cI, 4004, .inl g1)), (k2, .inl (cI, 4004, .inl g2)), (h0, .inr (1, fs0z_25)), (qk, .inl (cI, 8008, .inl fkz_26))] H := hP
  have hD : va_D A [(ql, .inr (2, fsl)), (k1, .inl (cI, 4004, .inl g1)), (k2, .inl (cI, 4004, .inl g2)), (h0, .inr (1, fs0z_25)), (qk, .inl (cI, 8008, .inl fkz_26))] := hD
  subst hr_34
  have hPc := hP.sub (ws' := [(h0, .inr (1, fs0z_25))]) [3] rfl
  have hDc := hD.sub (ws' := [(h0, .inr (1, fs0z_25))]) [3] (by decide) rfl
  have hKc := hK.sub (tys' := []) [] rfl
  have hFc := va_free (wc := [(h0, .inr (1, fs0z_25))]) hD hS hA [3] rfl
  refine va_calli (va_runV (As := [.int 0, .int 0]) (rest := []) ⟨hx, hb, hml, hown, hts⟩ (c_X1_close l dC dI H.size h0 fs0z_25 0 (hF_30.sub [0, 3] rfl)) (cwV 2 hts g_c_X1_arrive_c_X1_close_218 rfl rfl rfl (by decide +kernel) ⟨Nat.le_of_ble_eq_true rfl, Nat.le_of_ble_eq_true rfl⟩) ⟨fun a U g mk q => by obtain ⟨q0, q1, qP, qK, qD⟩ := q; exact ⟨q0, q1, qP, va_K.moved (u := U) (U := U.calling g mk a) (Vm.Alike.refl U.vm) qK, qD⟩, va_recv hKc hPc (ci := 1) (q0 := 0) rfl rfl, fun U hU hW => ⟨rfl, by rw [hU], by rw [hU]; exact hPc, va_K.moved hW.alike hKc, hDc.weaken (fun _ _ _ _ => trivial)⟩⟩ rfl rfl hl.1 rfl (lv_room (Nat.le_of_ble_eq_true rfl)) dX1_arrive_218 ⟨show 0 + 0 ≤ 0 by decide, show 0 + 0 ≤ 0 by decide⟩) hS (fun q _ h => hFc q h) hFc (fun r_35 u t H1 locs ht hvm hw hB hz1 hk1 hS => ?_)
  obtain ⟨fs0z_37, rfl⟩ : ∃ z, z = u := ⟨_, rfl⟩
  obtain ⟨hP1, hK1, hD1⟩ := hB
  rw [ht] at hP1
  have hK1 := va_K.moved hvm.symm hK1
  try dsimp only at hw hP1 hK1 hD1
  obtain ⟨hr_38, hF_39, hE_40⟩ := hw
  obtain ⟨hP, hD⟩ := va_join (wr := [(ql, .inr (2, fsl)), (k1, .inl (cI, 4004, .inl g1)), (k2, .inl (cI, 4004, .inl g2)), (qk, .inl (cI, 8008, .inl fkz_26))]) (w1 := [(h0, .inr (1, fs0z_37))]) hP hD [3] [0, 1, 2, 4] rfl rfl (by decide) (by decide) hk1 hFc hP1 hD1
  generalize H1 = H at hP hS ⊢
  have hK := (hK.sub (tys' := [(cI, .int)]) [0] rfl).app hK1
  have hK : va_K (dC, dI) vwCl [(cI, .int)] s := hK
  have hP : va_P (dC, dI) vwCl [(ql, .inr (2, fsl)), (k1, .inl (cI, 4004, .inl g1)), (k2, .inl (cI, 4004, .inl g2)), (qk, .inl (cI, 8008, .inl fkz_26)), (h0, .inr (1, fs0z_37))] H := hP
  have hD : va_D A [(ql, .inr (2, fsl)), (k1, .inl (cI, 4004, .inl g1)), (k2, .inl (cI, 4004, .inl g2)), (qk, .inl (cI, 8008, .inl fkz_26)), (h0, .inr (1, fs0z_37))] := hD
  have hF_41 := hF_30.same hE_40 (l' := [(6, .int 0), (5, .int 0), (3, .int 0), (0, .ref ql), (1, .ref qk), (7, .int 0), (8, .int z7)]) rfl
  have hF_42 := hF_39.app hF_41
  have hE_43 := hE_31.trans hE_40
  subst hr_38
  refine lv_if_ne (tgt := 229) hx hb dX1_arrive_221 (by decide) (fun _ => ?_) (fun c_44 => absurd c_44 (by decide))
  refine lv_iload_n hx hb dX1_arrive_229 rfl (lv_at hl 2 rfl) ?_
  have hPc := hP.sub (ws' := []) [] rfl
  have hDc := hD.sub (ws' := []) [] (by decide) rfl
  have hKc := hK.sub (tys' := []) [] rfl
  have hFc := va_free (wc := []) hD hS hA [] rfl
  refine va_calli (va_runS (As := [.int 0]) (rest := []) ⟨hx, hb, hml, hown, hts⟩ (c_X1_opens l dC dI H.size  ) (va_cwS 1 hts g_c_X1_arrive_c_X1_opens_230 rfl rfl rfl (by decide +kernel) ⟨Nat.le_of_ble_eq_true rfl, Nat.le_of_ble_eq_true rfl⟩) ⟨fun a U g mk q => by obtain ⟨q0, q1, qP, qK, qD⟩ := q; exact ⟨q0, q1, qP, va_K.moved (u := U) (U := U.calling g mk a) (Vm.Alike.refl U.vm) qK, qD⟩, fun U hU hW => ⟨rfl, by rw [hU], by rw [hU]; exact hPc, va_K.moved hW.alike hKc, hDc.weaken (fun _ _ _ _ => trivial)⟩⟩ rfl rfl hl.1 rfl (lv_room (Nat.le_of_ble_eq_true rfl)) dX1_arrive_230 ⟨show 0 + 0 ≤ 0 by decide, show 0 + 0 ≤ 0 by decide⟩) hS (fun q _ h => hFc q h) hFc (fun r_45 u t H1 locs ht hvm hw hB hz1 hk1 hS => ?_)
  obtain ⟨hP1, hK1, hD1⟩ := hB
  rw [ht] at hP1
  have hK1 := va_K.moved hvm.symm hK1
  try dsimp only at hw hP1 hK1 hD1
  have hr_47 := hw
  obtain ⟨hP, hD⟩ := va_join (wr := [(ql, .inr (2, fsl)), (k1, .inl (cI, 4004, .inl g1)), (k2, .inl (cI, 4004, .inl g2)), (qk, .inl (cI, 8008, .inl fkz_26)), (h0, .inr (1, fs0z_37))]) (w1 := []) hP hD [] [0, 1, 2, 3, 4] rfl rfl (by decide) (by decide) hk1 hFc hP1 hD1
  generalize H1 = H at hP hS ⊢
  have hK := (hK.sub (tys' := [(cI, .int)]) [0] rfl).app hK1
  have hK : va_K (dC, dI) vwCl [(cI, .int)] s := hK
  have hP : va_P (dC, dI) vwCl [(ql, .inr (2, fsl)), (k1, .inl (cI, 4004, .inl g1)), (k2, .inl (cI, 4004, .inl g2)), (qk, .inl (cI, 8008, .inl fkz_26)), (h0, .inr (1, fs0z_37))] H := hP
  have hD : va_D A [(ql, .inr (2, fsl)), (k1, .inl (cI, 4004, .inl g1)), (k2, .inl (cI, 4004, .inl g2)), (qk, .inl (cI, 8008, .inl fkz_26)), (h0, .inr (1, fs0z_37))] := hD
  subst hr_47
  refine lv_if_eq (tgt := 242) hx hb dX1_arrive_233 (by decide) (fun _ => ?_) (fun c_48 => absurd (by decide) c_48)
  have hP9 := hP.sub (ws' := [(h0, .inr (1, fs0z_37)), (ql, .inr (2, fsl)), (qk, .inl (cI, 8008, .inl fkz_26)), (k1, .inl (cI, 4004, .inl g1)), (k2, .inl (cI, 4004, .inl g2))]) [4, 0, 3, 1, 2] rfl
  have hD9 := hD.sub (ws' := [(h0, .inr (1, fs0z_37)), (ql, .inr (2, fsl)), (qk, .inl (cI, 8008, .inl fkz_26)), (k1, .inl (cI, 4004, .inl g1)), (k2, .inl (cI, 4004, .inl g2))]) [4, 0, 3, 1, 2] (by decide) rfl
  have hK9 := hK.sub (tys' := [(cI, .int)]) [0] rfl
  exact W.vret hx hb hr (fun t ht hW => ⟨⟨((fs0z_37, fkz_26)), rfl, ⟨hF_42.sub [0, 4, 1, 3, 2, 7] rfl, hE_43.mono (by decide)⟩, by rw [ht]; exact hP9, va_K.moved hW.alike hK9, hD9⟩, hS.F ht⟩) hS.2.2 dX1_arrive_242
def pw_c_X1_advance : List Cond := .code yX1_advance cX1_advance 1 none :: ([.fieldLink RX1 28 "NeedHouse$Layout" "now" "I", .fieldLink RX1 31 "NeedHouse$Layout" "misplaced" "Z", .fieldLink RX1 25 "NeedHouse$Layout" "token" "I", .methodLink RX1 42 yX1_arrive, .instanceMethod yX1_arrive, .selects RX1 yX1_arrive yX1_arrive, .initialized RX1, .code yX1_arrive cX1_arrive 4 none, .fieldLink RX1 45 "NeedHouse$Layout" "endsAhead" "I", .fieldLink RX1 51 "NeedHouse$Layout" "endsBehind" "I", .fieldLink RX1 48 "NeedHouse$Layout" "itemEnds" "Z", .fieldLink RX1 17 "NeedHouse$Layout" "lexemes" "LNeedHouse$Lexemes;", .fieldLink RX1 54 "NeedHouse$Lexemes" "kind" "[I", .fieldLink RX1 70 "NeedHouse$Lexemes" "column" "[I", .methodLink RX1 77 yX1_push, .instanceMethod yX1_push, .selects RX1 yX1_push yX1_push, .code yX1_push cX1_push 2 none, .fieldLink RX1 21 "NeedHouse$Layout" "depth" "I", .fieldLink RX1 13 "NeedHouse$Layout" "stack" "[I", .methodLink RX1 84 yX1_closes, .static yX1_closes, .code yX1_closes cX1_closes 1 (some .int), .methodLink RX1 88 yX1_close, .instanceMethod yX1_close, .selects RX1 yX1_close yX1_close, .code yX1_close cX1_close 5 (some .boolean), .methodLink RX1 96 Lib.Math.max.name, .static Lib.Math.max.name, .initialized "java/lang/Math", .code Lib.Math.max.name Lib.Math.max.code 2 (some .int), .methodLink RX1 92 yX1_opens, .static yX1_opens, .code yX1_opens cX1_opens 1 (some .boolean)] ++ (wsX10 ++ (wsX20 ++ [])))
set_option maxRecDepth 20000 in
theorem g_c_X1_advance_c_X1_arrive_40 : GoodIn pw_c_X1_advance (wsV RX1 42 RX1 yX1_arrive pw_c_X1_arrive) := goodIn_r _ [4, 5, 6, 7, 8, 9, 10, 11, 2, 12, 13, 3, 14, 15, 16, 17, 7, 18, 19, 20, 21, 22, 23, 24, 25, 26, 27, 28, 29, 30, 31, 32, 33, 34, 35, 36, 37, 38, 39, 40, 41, 42, 43, 44, 45, 46, 47, 48, 49, 50, 51, 52, 53, 54, 55] rfl (by decide +kernel)
set_option maxHeartbeats 4000000 in
set_option maxRecDepth 100000 in
theorem c_X1_advance (l : Launch) (dC : Nat → ClassId) (dI : Nat → Nat → Nat) (sz : Nat) (cI : ClassId) (h0 : Nat) (fs0 : List Value) (z3 : Int32) (z4 : Int32) (z5 : Int32) (ql : Nat) (fsl : List Value) (qk : Nat) (fk : Nat → Int32) (k1 : Nat) (g1 : Nat → Int32) (k2 : Nat) (g2 : Nat → Int32) (hF0 : hasF fs0 9 [(0, .ref ql), (1, .ref qk), (2, .int 0), (3, .int z3), (4, .int z4), (5, .int z5), (6, .int 0), (7, .int (-1)), (8, .int 2)]) (hFl : hasF fsl 12 [(0, .ref k1), (2, .ref k2)]) (hkg1_0 : g1 0 = 0) (hkg2_0 : g2 0 = 0) : Met l yX1_advance pw_c_X1_advance ({ frames := 3, cells := 0, slots := 0, locals := 71 }) (va_Pc [.ref h0] (fun U => U.heap.size = sz ∧ va_P (dC, dI) vwCl [(h0, .inr (1, fs0)), (ql, .inr (2, fsl)), (qk, .inl (cI, 8008, .inl fk)), (k1, .inl (cI, 4004, .inl g1)), (k2, .inl (cI, 4004, .inl g2))] U.heap ∧ va_K (dC, dI) vwCl [(cI, .int)] U ∧ va_D (fun _ => True) [(h0, .inr (1, fs0)), (ql, .inr (2, fsl)), (qk, .inl (cI, 8008, .inl fk)), (k1, .inl (cI, 4004, .inl g1)), (k2, .inl (cI, 4004, .inl g2))])) (va_Qv (fun (u : (List Value) × (Nat → Int32)) => hasF u.1 9 [(2, .int 1), (3, .int 0), (4, .int 0), (5, .int 0), (6, .int 0), (7, .int 0), (8, .int 0)] ∧ sameF fs0 u.1 [2, 3, 4, 5, 6, 7, 8]) (fun (u : (List Value) × (Nat → Int32)) (t : State) => va_P (dC, dI) vwCl [(h0, .inr (1, u.1)), (ql, .inr (2, fsl)), (qk, .inl (cI, 8008, .inl u.2)), (k1, .inl (cI, 4004, .inl g1)), (k2, .inl (cI, 4004, .inl g2))] t.heap ∧ va_K (dC, dI) vwCl [(cI, .int)] t ∧ va_D (va_A [(h0, .inr (1, fs0)), (ql, .inr (2, fsl)), (qk, .inl (cI, 8008, .inl fk)), (k1, .inl (cI, 4004, .inl g1)), (k2, .inl (cI, 4004, .inl g2))] sz) [(h0, .inr (1, u.1)), (ql, .inr (2, fsl)), (qk, .inl (cI, 8008, .inl u.2)), (k1, .inl (cI, 4004, .inl g1)), (k2, .inl (cI, 4004, .inl g2))]) (va_A [(h0, .inr (1, fs0)), (ql, .inr (2, fsl)), (qk, .inl (cI, 8008, .inl fk)), (k1, .inl (cI, 4004, .inl g1)), (k2, .inl (cI, 4004, .inl g2))] sz)) 0 0 (va_A [(h0, .inr (1, fs0)), (ql, .inr (2, fsl)), (qk, .inl (cI, 8008, .inl fk)), (k1, .inl (cI, 4004, .inl g1)), (k2, .inl (cI, 4004, .inl g2))] sz) := by
  refine Met.ofW (cc := cX1_advance) (maxL := 1) (ret := none) (by decide) rfl ?_
  intro p e s m args below meth c s₁ B hml hv
  obtain ⟨rfl, hsz, hP, hK, hD0⟩ := hv
  have hx := B.exec
  have hb := B.bytes
  have hr := B.returns
  have hts := atoms_spec (ws := pw_c_X1_advance) B.pre
  have hown : s.vm.findClass RX1 = some m.cls := findClass_of_methodNamed B.named
  have hlocks := B.notSynchronized
  have hin_X1 : ∀ w ∈ u_ws RX1 TX1 9, w ∈ pw_c_X1_advance := fun w h => List.mem_cons_of_mem _ (List.mem_append_right _ (List.mem_append_left _ h))
  have hin_X2 : ∀ w ∈ u_ws RX2 TX2 12, w ∈ pw_c_X1_advance := fun w h => List.mem_cons_of_mem _ (List.mem_append_right _ (List.mem_append_right _ (List.mem_append_left _ h)))
  subst hsz
  have hD := hD0.self (sz := s.heap.size)
  generalize hAe : va_A [(h0, .inr (1, fs0)), (ql, .inr (2, fsl)), (qk, .inl (cI, 8008, .inl fk)), (k1, .inl (cI, 4004, .inl g1)), (k2, .inl (cI, 4004, .inl g2))] s.heap.size = A at hD ⊢
  have hA : ∀ q : Nat, s.heap.size ≤ q → A q := fun q h => by rw [← hAe]; exact Or.inr h
  have hS : va_S A s.heap s.heap [] := va_S.rf
  have hP : va_P (dC, dI) vwCl [(h0, .inr (1, fs0)), (ql, .inr (2, fsl)), (qk, .inl (cI, 8008, .inl fk)), (k1, .inl (cI, 4004, .inl g1)), (k2, .inl (cI, 4004, .inl g2))] s.heap := hP
  have hl := lv_entry ([.ref h0]) (n := 1) (Nat.le_of_ble_eq_true rfl)
  rw [lg_entry_eq]
  generalize (lg_sl ([.ref h0]) ++ List.replicate (1 - (lg_sl ([.ref h0])).length) Slot.unset).toArray = ls at hl ⊢
  have hl : lv_has ls 1 [(0, .ref h0)] := hl
  refine lv_aload_n hx hb dX1_advance_0 rfl (lv_at hl 0 rfl) ?_
  refine va_get (D := (dC, dI)) (ci := 1) (v := .int 2) (C := RX1) (T := TX1) (N := 9) hx hb hts hin_X1 hown hK hP 0 rfl rfl 8 (by decide) (hts (.fieldLink RX1 28 "NeedHouse$Layout" "now" "I") (List.mem_of_getElem? (i := 1) rfl)) (fun _ h9 => h9) (hF0.at 8 rfl) dX1_advance_1 ?_
  refine lv_bipush (v := 38) hx hb dX1_advance_4 (by decide) ?_
  refine lv_icmp_ge (tgt := 43) hx hb dX1_advance_6 (by decide) (fun c_1 => absurd c_1 (by decide)) (fun _ => ?_)
  refine lv_aload_n hx hb dX1_advance_9 rfl (lv_at hl 0 rfl) ?_
  refine va_get (D := (dC, dI)) (ci := 1) (v := .int 0) (C := RX1) (T := TX1) (N := 9) hx hb hts hin_X1 hown hK hP 0 rfl rfl 6 (by decide) (hts (.fieldLink RX1 31 "NeedHouse$Layout" "misplaced" "Z") (List.mem_of_getElem? (i := 2) rfl)) (fun _ h9 => h9) (hF0.at 6 rfl) dX1_advance_10 ?_
  refine lv_if_eq (tgt := 21) hx hb dX1_advance_13 (by decide) (fun _ => ?_) (fun c_2 => absurd (by decide) c_2)
  refine lv_aload_n hx hb dX1_advance_21 rfl (lv_at hl 0 rfl) ?_
  refine va_get (D := (dC, dI)) (ci := 1) (v := .int 2) (C := RX1) (T := TX1) (N := 9) hx hb hts hin_X1 hown hK hP 0 rfl rfl 8 (by decide) (hts (.fieldLink RX1 28 "NeedHouse$Layout" "now" "I") (List.mem_of_getElem? (i := 1) rfl)) (fun _ h9 => h9) (hF0.at 8 rfl) dX1_advance_22 ?_
  refine lv_if_ne (tgt := 29) hx hb dX1_advance_25 (by decide) (fun _ => ?_) (fun c_3 => absurd c_3 (by decide))
  refine lv_aload_n hx hb dX1_advance_29 rfl (lv_at hl 0 rfl) ?_
  refine lv_dup hx hb dX1_advance_30 rfl ?_
  refine va_get (D := (dC, dI)) (ci := 1) (v := .int (-1)) (C := RX1) (T := TX1) (N := 9) hx hb hts hin_X1 hown hK hP 0 rfl rfl 7 (by decide) (hts (.fieldLink RX1 25 "NeedHouse$Layout" "token" "I") (List.mem_of_getElem? (i := 3) rfl)) (fun _ h9 => h9) (hF0.at 7 rfl) dX1_advance_31 ?_
  refine lv_iconst (v := 1) hx hb dX1_advance_34 (by decide) ?_
  refine lv_iadd hx hb dX1_advance_35 ?_
  refine lv_topi (fun x_4 ex_4 => ?_)
  obtain rfl : x_4 = 0 := ex_4.trans (by decide +kernel)
  refine va_put (D := (dC, dI)) (ci := 1) (v := .int 0) (ty := .int) (C := RX1) (T := TX1) (N := 9) hx hb hts hin_X1 tyX1 tyX1_ok nmX1 hown hK hP hD hS 0 rfl rfl 7 (by decide) (hts (.fieldLink RX1 25 "NeedHouse$Layout" "token" "I") (List.mem_of_getElem? (i := 3) rfl)) (fun _ h9 => h9) rfl (by decide +kernel) rfl rfl (by rw [hF0.1]; decide) dX1_advance_36 (fun H locs hP hD hS => ?_)
  have hP : va_P (dC, dI) vwCl [(h0, .inr (1, (fs0.set 7 (.int 0)))), (ql, .inr (2, fsl)), (qk, .inl (cI, 8008, .inl fk)), (k1, .inl (cI, 4004, .inl g1)), (k2, .inl (cI, 4004, .inl g2))] H := hP
  have hD : va_D A [(h0, .inr (1, (fs0.set 7 (.int 0)))), (ql, .inr (2, fsl)), (qk, .inl (cI, 8008, .inl fk)), (k1, .inl (cI, 4004, .inl g1)), (k2, .inl (cI, 4004, .inl g2))] := hD
  have hF_5 := hF0.set 7 (.int 0) (l' := [(7, .int 0), (0, .ref ql), (1, .ref qk), (2, .int 0), (3, .int z3), (4, .int z4), (5, .int z5), (6, .int 0), (8, .int 2)]) (by decide) rfl
  have hE_6 := (sameF.rf (f := fs0)).set 7 (.int 0)
  generalize fs0.set 7 (.int 0) = fs_7 at hP hD hF_5 hE_6
  have hP : va_P (dC, dI) vwCl [(h0, .inr (1, fs_7)), (ql, .inr (2, fsl)), (qk, .inl (cI, 8008, .inl fk)), (k1, .inl (cI, 4004, .inl g1)), (k2, .inl (cI, 4004, .inl g2))] H := hP
  have hD : va_D A [(h0, .inr (1, fs_7)), (ql, .inr (2, fsl)), (qk, .inl (cI, 8008, .inl fk)), (k1, .inl (cI, 4004, .inl g1)), (k2, .inl (cI, 4004, .inl g2))] := hD
  refine lv_aload_n hx hb dX1_advance_39 rfl (lv_at hl 0 rfl) ?_
  have hPc := hP.sub (ws' := [(h0, .inr (1, fs_7)), (ql, .inr (2, fsl)), (qk, .inl (cI, 8008, .inl fk)), (k1, .inl (cI, 4004, .inl g1)), (k2, .inl (cI, 4004, .inl g2))]) [0, 1, 2, 3, 4] rfl
  have hDc := hD.sub (ws' := [(h0, .inr (1, fs_7)), (ql, .inr (2, fsl)), (qk, .inl (cI, 8008, .inl fk)), (k1, .inl (cI, 4004, .inl g1)), (k2, .inl (cI, 4004, .inl g2))]) [0, 1, 2, 3, 4] (by decide) rfl
  have hKc := hK.sub (tys' := [(cI, .int)]) [0] rfl
  have hFc := va_free (wc := [(h0, .inr (1, fs_7)), (ql, .inr (2, fsl)), (qk, .inl (cI, 8008, .inl fk)), (k1, .inl (cI, 4004, .inl g1)), (k2, .inl (cI, 4004, .inl g2))]) hD hS hA [0, 1, 2, 3, 4] rfl
  refine va_callv (va_runV (As := []) (rest := []) ⟨hx, hb, hml, hown, hts⟩ (c_X1_arrive l dC dI H.size cI h0 fs_7 z3 z4 z5 0 2 ql fsl qk fk k1 g1 k2 g2 (hF_5.sub [1, 2, 3, 4, 5, 6, 7, 0, 8] rfl) (hFl.sub [0, 1] rfl) (hkg1_0) (hkg2_0)) (cwV 0 hts g_c_X1_advance_c_X1_arrive_40 rfl rfl rfl (by decide +kernel) ⟨Nat.le_of_ble_eq_true rfl, Nat.le_of_ble_eq_true rfl⟩) ⟨fun a U g mk q => by obtain ⟨q0, q1, qP, qK, qD⟩ := q; exact ⟨q0, q1, qP, va_K.moved (u := U) (U := U.calling g mk a) (Vm.Alike.refl U.vm) qK, qD⟩, va_recv hKc hPc (ci := 1) (q0 := 0) rfl rfl, fun U hU hW => ⟨rfl, by rw [hU], by rw [hU]; exact hPc, va_K.moved hW.alike hKc, hDc.weaken (fun _ _ _ _ => trivial)⟩⟩ rfl rfl hl.1 rfl (lv_room (Nat.le_of_ble_eq_true rfl)) dX1_advance_40 ⟨show 0 + 0 ≤ 0 by decide, show 0 + 0 ≤ 0 by decide⟩) hS (fun q _ h => hFc q h) hFc (fun u t H1 locs ht hvm hw hB hz1 hk1 hS => ?_)
  obtain ⟨fs0z_10, fkz_11⟩ := u
  obtain ⟨hP1, hK1, hD1⟩ := hB
  rw [ht] at hP1
  have hK1 := va_K.moved hvm.symm hK1
  try dsimp only at hw hP1 hK1 hD1
  obtain ⟨hF_12, hE_13⟩ := hw
  obtain ⟨hP, hD⟩ := va_join (wr := []) (w1 := [(h0, .inr (1, fs0z_10)), (ql, .inr (2, fsl)), (qk, .inl (cI, 8008, .inl fkz_11)), (k1, .inl (cI, 4004, .inl g1)), (k2, .inl (cI, 4004, .inl g2))]) hP hD [0, 1, 2, 3, 4] [] rfl rfl (by decide) (by decide) hk1 hFc hP1 hD1
  generalize H1 = H at hP hS ⊢
  have hK := (hK.sub (tys' := []) [] rfl).app hK1
  have hK : va_K (dC, dI) vwCl [(cI, .int)] s := hK
  have hP : va_P (dC, dI) vwCl [(h0, .inr (1, fs0z_10)), (ql, .inr (2, fsl)), (qk, .inl (cI, 8008, .inl fkz_11)), (k1, .inl (cI, 4004, .inl g1)), (k2, .inl (cI, 4004, .inl g2))] H := hP
  have hD : va_D A [(h0, .inr (1, fs0z_10)), (ql, .inr (2, fsl)), (qk, .inl (cI, 8008, .inl fkz_11)), (k1, .inl (cI, 4004, .inl g1)), (k2, .inl (cI, 4004, .inl g2))] := hD
  have hF_14 := hF_5.same hE_13 (l' := [(0, .ref ql), (1, .ref qk)]) rfl
  have hF_15 := hF_12.app hF_14
  have hE_16 := hE_6.trans hE_13
  refine lv_aload_n hx hb dX1_advance_43 rfl (lv_at hl 0 rfl) ?_
  refine va_get (D := (dC, dI)) (ci := 1) (v := .int 0) (C := RX1) (T := TX1) (N := 9) hx hb hts hin_X1 hown hK hP 0 rfl rfl 3 (by decide) (hts (.fieldLink RX1 45 "NeedHouse$Layout" "endsAhead" "I") (List.mem_of_getElem? (i := 9) rfl)) (fun _ h9 => h9) (hF_15.at 1 rfl) dX1_advance_44 ?_
  refine lv_if_le (tgt := 69) hx hb dX1_advance_47 (by decide) (fun _ => ?_) (fun c_17 => absurd (by decide) c_17)
  refine lv_aload_n hx hb dX1_advance_69 rfl (lv_at hl 0 rfl) ?_
  refine va_get (D := (dC, dI)) (ci := 1) (v := .int 0) (C := RX1) (T := TX1) (N := 9) hx hb hts hin_X1 hown hK hP 0 rfl rfl 5 (by decide) (hts (.fieldLink RX1 48 "NeedHouse$Layout" "itemEnds" "Z") (List.mem_of_getElem? (i := 11) rfl)) (fun _ h9 => h9) (hF_15.at 3 rfl) dX1_advance_70 ?_
  refine lv_if_eq (tgt := 90) hx hb dX1_advance_73 (by decide) (fun _ => ?_) (fun c_18 => absurd (by decide) c_18)
  refine lv_aload_n hx hb dX1_advance_90 rfl (lv_at hl 0 rfl) ?_
  refine va_get (D := (dC, dI)) (ci := 1) (v := .int 0) (C := RX1) (T := TX1) (N := 9) hx hb hts hin_X1 hown hK hP 0 rfl rfl 4 (by decide) (hts (.fieldLink RX1 51 "NeedHouse$Layout" "endsBehind" "I") (List.mem_of_getElem? (i := 10) rfl)) (fun _ h9 => h9) (hF_15.at 2 rfl) dX1_advance_91 ?_
  refine lv_if_le (tgt := 116) hx hb dX1_advance_94 (by decide) (fun _ => ?_) (fun c_19 => absurd (by decide) c_19)
  refine lv_aload_n hx hb dX1_advance_116 rfl (lv_at hl 0 rfl) ?_
  refine lv_aload_n hx hb dX1_advance_117 rfl (lv_at hl 0 rfl) ?_
  refine va_get (D := (dC, dI)) (ci := 1) (v := .ref ql) (C := RX1) (T := TX1) (N := 9) hx hb hts hin_X1 hown hK hP 0 rfl rfl 0 (by decide) (hts (.fieldLink RX1 17 "NeedHouse$Layout" "lexemes" "LNeedHouse$Lexemes;") (List.mem_of_getElem? (i := 12) rfl)) (fun _ h9 => h9) (hF_15.at 6 rfl) dX1_advance_118 ?_
  refine va_get (D := (dC, dI)) (ci := 2) (v := .ref k1) (C := RX2) (T := TX2) (N := 12) hx hb hts hin_X2 hown hK hP 1 rfl rfl 0 (by decide) (hts (.fieldLink RX1 54 "NeedHouse$Lexemes" "kind" "[I") (List.mem_of_getElem? (i := 13) rfl)) (fun _ h9 => h9) (hFl.at 0 rfl) dX1_advance_121 ?_
  refine lv_aload_n hx hb dX1_advance_124 rfl (lv_at hl 0 rfl) ?_
  refine va_get (D := (dC, dI)) (ci := 1) (v := .int 0) (C := RX1) (T := TX1) (N := 9) hx hb hts hin_X1 hown hK hP 0 rfl rfl 7 (by decide) (hts (.fieldLink RX1 25 "NeedHouse$Layout" "token" "I") (List.mem_of_getElem? (i := 3) rfl)) (fun _ h9 => h9) (hF_15.at 5 rfl) dX1_advance_125 ?_
  refine va_iald hx hb hK hP 3 0 rfl rfl (show vp_in (nI 0) 4004 from vp_in_nI (by decide) (by decide)) dX1_advance_128 ?_
  refine lv_topi (fun x_20 ex_20 => ?_)
  obtain rfl : x_20 = 0 := ex_20.trans (by rw [show (0 : Int32).toNatClampNeg = 0 from by decide]; exact hkg1_0)
  refine va_put (D := (dC, dI)) (ci := 1) (v := .int 0) (ty := .int) (C := RX1) (T := TX1) (N := 9) hx hb hts hin_X1 tyX1 tyX1_ok nmX1 hown hK hP hD hS 0 rfl rfl 8 (by decide) (hts (.fieldLink RX1 28 "NeedHouse$Layout" "now" "I") (List.mem_of_getElem? (i := 1) rfl)) (fun _ h9 => h9) rfl (by decide +kernel) rfl rfl (by rw [hF_15.1]; decide) dX1_advance_129 (fun H locs hP hD hS => ?_)
  have hP : va_P (dC, dI) vwCl [(h0, .inr (1, (fs0z_10.set 8 (.int 0)))), (ql, .inr (2, fsl)), (qk, .inl (cI, 8008, .inl fkz_11)), (k1, .inl (cI, 4004, .inl g1)), (k2, .inl (cI, 4004, .inl g2))] H := hP
  have hD : va_D A [(h0, .inr (1, (fs0z_10.set 8 (.int 0)))), (ql, .inr (2, fsl)), (qk, .inl (cI, 8008, .inl fkz_11)), (k1, .inl (cI, 4004, .inl g1)), (k2, .inl (cI, 4004, .inl g2))] := hD
  have hF_21 := hF_15.set 8 (.int 0) (l' := [(8, .int 0), (2, .int 1), (3, .int 0), (4, .int 0), (5, .int 0), (6, .int 0), (7, .int 0), (0, .ref ql), (1, .ref qk)]) (by decide) rfl
  have hE_22 := hE_16.set 8 (.int 0)
  generalize fs0z_10.set 8 (.int 0) = fs_23 at hP hD hF_21 hE_22
  have hP : va_P (dC, dI) vwCl [(h0, .inr (1, fs_23)), (ql, .inr (2, fsl)), (qk, .inl (cI, 8008, .inl fkz_11)), (k1, .inl (cI, 4004, .inl g1)), (k2, .inl (cI, 4004, .inl g2))] H := hP
  have hD : va_D A [(h0, .inr (1, fs_23)), (ql, .inr (2, fsl)), (qk, .inl (cI, 8008, .inl fkz_11)), (k1, .inl (cI, 4004, .inl g1)), (k2, .inl (cI, 4004, .inl g2))] := hD
  have hP9 := hP.sub (ws' := [(h0, .inr (1, fs_23)), (ql, .inr (2, fsl)), (qk, .inl (cI, 8008, .inl fkz_11)), (k1, .inl (cI, 4004, .inl g1)), (k2, .inl (cI, 4004, .inl g2))]) [0, 1, 2, 3, 4] rfl
  have hD9 := hD.sub (ws' := [(h0, .inr (1, fs_23)), (ql, .inr (2, fsl)), (qk, .inl (cI, 8008, .inl fkz_11)), (k1, .inl (cI, 4004, .inl g1)), (k2, .inl (cI, 4004, .inl g2))]) [0, 1, 2, 3, 4] (by decide) rfl
  have hK9 := hK.sub (tys' := [(cI, .int)]) [0] rfl
  exact W.vret hx hb hr (fun t ht hW => ⟨⟨((fs_23, fkz_11)), rfl, ⟨hF_21.sub [1, 2, 3, 4, 5, 6, 0] rfl, hE_22.mono (by decide)⟩, by rw [ht]; exact hP9, va_K.moved hW.alike hK9, hD9⟩, hS.F ht⟩) hS.2.2 dX1_advance_132
def pw_c_X1_open : List Cond := .code yX1_open cX1_open 1 none :: ([.fieldLink RX1 21 "NeedHouse$Layout" "depth" "I", .fieldLink RX1 25 "NeedHouse$Layout" "token" "I", .fieldLink RX1 28 "NeedHouse$Layout" "now" "I", .fieldLink RX1 31 "NeedHouse$Layout" "misplaced" "Z", .methodLink RX1 35 yX1_advance, .instanceMethod yX1_advance, .selects RX1 yX1_advance yX1_advance, .initialized RX1, .code yX1_advance cX1_advance 1 none, .methodLink RX1 42 yX1_arrive, .instanceMethod yX1_arrive, .selects RX1 yX1_arrive yX1_arrive, .code yX1_arrive cX1_arrive 4 none, .fieldLink RX1 45 "NeedHouse$Layout" "endsAhead" "I", .fieldLink RX1 51 "NeedHouse$Layout" "endsBehind" "I", .fieldLink RX1 48 "NeedHouse$Layout" "itemEnds" "Z", .fieldLink RX1 17 "NeedHouse$Layout" "lexemes" "LNeedHouse$Lexemes;", .fieldLink RX1 54 "NeedHouse$Lexemes" "kind" "[I", .fieldLink RX1 70 "NeedHouse$Lexemes" "column" "[I", .methodLink RX1 77 yX1_push, .instanceMethod yX1_push, .selects RX1 yX1_push yX1_push, .code yX1_push cX1_push 2 none, .fieldLink RX1 13 "NeedHouse$Layout" "stack" "[I", .methodLink RX1 84 yX1_closes, .static yX1_closes, .code yX1_closes cX1_closes 1 (some .int), .methodLink RX1 88 yX1_close, .instanceMethod yX1_close, .selects RX1 yX1_close yX1_close, .code yX1_close cX1_close 5 (some .boolean), .methodLink RX1 96 Lib.Math.max.name, .static Lib.Math.max.name, .initialized "java/lang/Math", .code Lib.Math.max.name Lib.Math.max.code 2 (some .int), .methodLink RX1 92 yX1_opens, .static yX1_opens, .code yX1_opens cX1_opens 1 (some .boolean)] ++ (wsX10 ++ (wsX20 ++ [])))
set_option maxRecDepth 20000 in
theorem g_c_X1_open_c_X1_advance_21 : GoodIn pw_c_X1_open (wsV RX1 35 RX1 yX1_advance pw_c_X1_advance) := goodIn_r _ [5, 6, 7, 8, 9, 3, 4, 2, 10, 11, 12, 8, 13, 14, 15, 16, 17, 18, 19, 20, 21, 22, 23, 1, 24, 25, 26, 27, 28, 29, 30, 31, 32, 33, 34, 35, 36, 37, 38, 39, 40, 41, 42, 43, 44, 45, 46, 47, 48, 49, 50, 51, 52, 53, 54, 55, 56, 57, 58, 59] rfl (by decide +kernel)
set_option maxHeartbeats 4000000 in
set_option maxRecDepth 100000 in
theorem c_X1_open (l : Launch) (dC : Nat → ClassId) (dI : Nat → Nat → Nat) (sz : Nat) (cI : ClassId) (h0 : Nat) (fs0 : List Value) (z9 : Int32) (z3 : Int32) (z4 : Int32) (z5 : Int32) (z6 : Int32) (z8 : Int32) (z7 : Int32) (ql : Nat) (fsl : List Value) (qk : Nat) (fk : Nat → Int32) (k1 : Nat) (g1 : Nat → Int32) (k2 : Nat) (g2 : Nat → Int32) (hF0 : hasF fs0 9 [(0, .ref ql), (1, .ref qk), (2, .int z9), (3, .int z3), (4, .int z4), (5, .int z5), (6, .int z6), (7, .int z8), (8, .int z7)]) (hFl : hasF fsl 12 [(0, .ref k1), (2, .ref k2)]) (hkg1_0 : g1 0 = 0) (hkg2_0 : g2 0 = 0) : Met l yX1_open pw_c_X1_open ({ frames := 4, cells := 0, slots := 0, locals := 91 }) (va_Pc [.ref h0] (fun U => U.heap.size = sz ∧ va_P (dC, dI) vwCl [(h0, .inr (1, fs0)), (ql, .inr (2, fsl)), (qk, .inl (cI, 8008, .inl fk)), (k1, .inl (cI, 4004, .inl g1)), (k2, .inl (cI, 4004, .inl g2))] U.heap ∧ va_K (dC, dI) vwCl [(cI, .int)] U ∧ va_D (fun _ => True) [(h0, .inr (1, fs0)), (ql, .inr (2, fsl)), (qk, .inl (cI, 8008, .inl fk)), (k1, .inl (cI, 4004, .inl g1)), (k2, .inl (cI, 4004, .inl g2))])) (va_Qv (fun (u : (List Value) × (Nat → Int32)) => hasF u.1 9 [(2, .int 1), (3, .int 0), (4, .int 0), (5, .int 0), (6, .int 0), (7, .int 0), (8, .int 0)] ∧ sameF fs0 u.1 [2, 3, 4, 5, 6, 7, 8]) (fun (u : (List Value) × (Nat → Int32)) (t : State) => va_P (dC, dI) vwCl [(h0, .inr (1, u.1)), (ql, .inr (2, fsl)), (qk, .inl (cI, 8008, .inl u.2)), (k1, .inl (cI, 4004, .inl g1)), (k2, .inl (cI, 4004, .inl g2))] t.heap ∧ va_K (dC, dI) vwCl [(cI, .int)] t ∧ va_D (va_A [(h0, .inr (1, fs0)), (ql, .inr (2, fsl)), (qk, .inl (cI, 8008, .inl fk)), (k1, .inl (cI, 4004, .inl g1)), (k2, .inl (cI, 4004, .inl g2))] sz) [(h0, .inr (1, u.1)), (ql, .inr (2, fsl)), (qk, .inl (cI, 8008, .inl u.2)), (k1, .inl (cI, 4004, .inl g1)), (k2, .inl (cI, 4004, .inl g2))]) (va_A [(h0, .inr (1, fs0)), (ql, .inr (2, fsl)), (qk, .inl (cI, 8008, .inl fk)), (k1, .inl (cI, 4004, .inl g1)), (k2, .inl (cI, 4004, .inl g2))] sz)) 0 0 (va_A [(h0, .inr (1, fs0)), (ql, .inr (2, fsl)), (qk, .inl (cI, 8008, .inl fk)), (k1, .inl (cI, 4004, .inl g1)), (k2, .inl (cI, 4004, .inl g2))] sz) := by
  refine Met.ofW (cc := cX1_open) (maxL := 1) (ret := none) (by decide) rfl ?_
  intro p e s m args below meth c s₁ B hml hv
  obtain ⟨rfl, hsz, hP, hK, hD0⟩ := hv
  have hx := B.exec
  have hb := B.bytes
  have hr := B.returns
  have hts := atoms_spec (ws := pw_c_X1_open) B.pre
  have hown : s.vm.findClass RX1 = some m.cls := findClass_of_methodNamed B.named
  have hlocks := B.notSynchronized
  have hin_X1 : ∀ w ∈ u_ws RX1 TX1 9, w ∈ pw_c_X1_open := fun w h => List.mem_cons_of_mem _ (List.mem_append_right _ (List.mem_append_left _ h))
  have hin_X2 : ∀ w ∈ u_ws RX2 TX2 12, w ∈ pw_c_X1_open := fun w h => List.mem_cons_of_mem _ (List.mem_append_right _ (List.mem_append_right _ (List.mem_append_left _ h)))
  subst hsz
  have hD := hD0.self (sz := s.heap.size)
  generalize hAe : va_A [(h0, .inr (1, fs0)), (ql, .inr (2, fsl)), (qk, .inl (cI, 8008, .inl fk)), (k1, .inl (cI, 4004, .inl g1)), (k2, .inl (cI, 4004, .inl g2))] s.heap.size = A at hD ⊢
  have hA : ∀ q : Nat, s.heap.size ≤ q → A q := fun q h => by rw [← hAe]; exact Or.inr h
  have hS : va_S A s.heap s.heap [] := va_S.rf
  have hP : va_P (dC, dI) vwCl [(h0, .inr (1, fs0)), (ql, .inr (2, fsl)), (qk, .inl (cI, 8008, .inl fk)), (k1, .inl (cI, 4004, .inl g1)), (k2, .inl (cI, 4004, .inl g2))] s.heap := hP
  have hl := lv_entry ([.ref h0]) (n := 1) (Nat.le_of_ble_eq_true rfl)
  rw [lg_entry_eq]
  generalize (lg_sl ([.ref h0]) ++ List.replicate (1 - (lg_sl ([.ref h0])).length) Slot.unset).toArray = ls at hl ⊢
  have hl : lv_has ls 1 [(0, .ref h0)] := hl
  refine lv_aload_n hx hb dX1_open_0 rfl (lv_at hl 0 rfl) ?_
  refine lv_iconst (v := 0) hx hb dX1_open_1 (by decide) ?_
  refine va_put (D := (dC, dI)) (ci := 1) (v := .int 0) (ty := .int) (C := RX1) (T := TX1) (N := 9) hx hb hts hin_X1 tyX1 tyX1_ok nmX1 hown hK hP hD hS 0 rfl rfl 2 (by decide) (hts (.fieldLink RX1 21 "NeedHouse$Layout" "depth" "I") (List.mem_of_getElem? (i := 1) rfl)) (fun _ h9 => h9) rfl (by decide +kernel) rfl rfl (by rw [hF0.1]; decide) dX1_open_2 (fun H locs hP hD hS => ?_)
  have hP : va_P (dC, dI) vwCl [(h0, .inr (1, (fs0.set 2 (.int 0)))), (ql, .inr (2, fsl)), (qk, .inl (cI, 8008, .inl fk)), (k1, .inl (cI, 4004, .inl g1)), (k2, .inl (cI, 4004, .inl g2))] H := hP
  have hD : va_D A [(h0, .inr (1, (fs0.set 2 (.int 0)))), (ql, .inr (2, fsl)), (qk, .inl (cI, 8008, .inl fk)), (k1, .inl (cI, 4004, .inl g1)), (k2, .inl (cI, 4004, .inl g2))] := hD
  have hF_1 := hF0.set 2 (.int 0) (l' := [(2, .int 0), (0, .ref ql), (1, .ref qk), (3, .int z3), (4, .int z4), (5, .int z5), (6, .int z6), (7, .int z8), (8, .int z7)]) (by decide) rfl
  have hE_2 := (sameF.rf (f := fs0)).set 2 (.int 0)
  generalize fs0.set 2 (.int 0) = fs_3 at hP hD hF_1 hE_2
  have hP : va_P (dC, dI) vwCl [(h0, .inr (1, fs_3)), (ql, .inr (2, fsl)), (qk, .inl (cI, 8008, .inl fk)), (k1, .inl (cI, 4004, .inl g1)), (k2, .inl (cI, 4004, .inl g2))] H := hP
  have hD : va_D A [(h0, .inr (1, fs_3)), (ql, .inr (2, fsl)), (qk, .inl (cI, 8008, .inl fk)), (k1, .inl (cI, 4004, .inl g1)), (k2, .inl (cI, 4004, .inl g2))] := hD
  refine lv_aload_n hx hb dX1_open_5 rfl (lv_at hl 0 rfl) ?_
  refine lv_iconst (v := (-1)) hx hb dX1_open_6 (by decide) ?_
  refine va_put (D := (dC, dI)) (ci := 1) (v := .int (-1)) (ty := .int) (C := RX1) (T := TX1) (N := 9) hx hb hts hin_X1 tyX1 tyX1_ok nmX1 hown hK hP hD hS 0 rfl rfl 7 (by decide) (hts (.fieldLink RX1 25 "NeedHouse$Layout" "token" "I") (List.mem_of_getElem? (i := 2) rfl)) (fun _ h9 => h9) rfl (by decide +kernel) rfl rfl (by rw [hF_1.1]; decide) dX1_open_7 (fun H locs hP hD hS => ?_)
  have hP : va_P (dC, dI) vwCl [(h0, .inr (1, (fs_3.set 7 (.int (-1))))), (ql, .inr (2, fsl)), (qk, .inl (cI, 8008, .inl fk)), (k1, .inl (cI, 4004, .inl g1)), (k2, .inl (cI, 4004, .inl g2))] H := hP
  have hD : va_D A [(h0, .inr (1, (fs_3.set 7 (.int (-1))))), (ql, .inr (2, fsl)), (qk, .inl (cI, 8008, .inl fk)), (k1, .inl (cI, 4004, .inl g1)), (k2, .inl (cI, 4004, .inl g2))] := hD
  have hF_4 := hF_1.set 7 (.int (-1)) (l' := [(7, .int (-1)), (2, .int 0), (0, .ref ql), (1, .ref qk), (3, .int z3), (4, .int z4), (5, .int z5), (6, .int z6), (8, .int z7)]) (by decide) rfl
  have hE_5 := hE_2.set 7 (.int (-1))
  generalize fs_3.set 7 (.int (-1)) = fs_6 at hP hD hF_4 hE_5
  have hP : va_P (dC, dI) vwCl [(h0, .inr (1, fs_6)), (ql, .inr (2, fsl)), (qk, .inl (cI, 8008, .inl fk)), (k1, .inl (cI, 4004, .inl g1)), (k2, .inl (cI, 4004, .inl g2))] H := hP
  have hD : va_D A [(h0, .inr (1, fs_6)), (ql, .inr (2, fsl)), (qk, .inl (cI, 8008, .inl fk)), (k1, .inl (cI, 4004, .inl g1)), (k2, .inl (cI, 4004, .inl g2))] := hD
  refine lv_aload_n hx hb dX1_open_10 rfl (lv_at hl 0 rfl) ?_
  refine lv_iconst (v := 2) hx hb dX1_open_11 (by decide) ?_
  refine va_put (D := (dC, dI)) (ci := 1) (v := .int 2) (ty := .int) (C := RX1) (T := TX1) (N := 9) hx hb hts hin_X1 tyX1 tyX1_ok nmX1 hown hK hP hD hS 0 rfl rfl 8 (by decide) (hts (.fieldLink RX1 28 "NeedHouse$Layout" "now" "I") (List.mem_of_getElem? (i := 3) rfl)) (fun _ h9 => h9) rfl (by decide +kernel) rfl rfl (by rw [hF_4.1]; decide) dX1_open_12 (fun H locs hP hD hS => ?_)
  have hP : va_P (dC, dI) vwCl [(h0, .inr (1, (fs_6.set 8 (.int 2)))), (ql, .inr (2, fsl)), (qk, .inl (cI, 8008, .inl fk)), (k1, .inl (cI, 4004, .inl g1)), (k2, .inl (cI, 4004, .inl g2))] H := hP
  have hD : va_D A [(h0, .inr (1, (fs_6.set 8 (.int 2)))), (ql, .inr (2, fsl)), (qk, .inl (cI, 8008, .inl fk)), (k1, .inl (cI, 4004, .inl g1)), (k2, .inl (cI, 4004, .inl g2))] := hD
  have hF_7 := hF_4.set 8 (.int 2) (l' := [(8, .int 2), (7, .int (-1)), (2, .int 0), (0, .ref ql), (1, .ref qk), (3, .int z3), (4, .int z4), (5, .int z5), (6, .int z6)]) (by decide) rfl
  have hE_8 := hE_5.set 8 (.int 2)
  generalize fs_6.set 8 (.int 2) = fs_9 at hP hD hF_7 hE_8
  have hP : va_P (dC, dI) vwCl [(h0, .inr (1, fs_9)), (ql, .inr (2, fsl)), (qk, .inl (cI, 8008, .inl fk)), (k1, .inl (cI, 4004, .inl g1)), (k2, .inl (cI, 4004, .inl g2))] H := hP
  have hD : va_D A [(h0, .inr (1, fs_9)), (ql, .inr (2, fsl)), (qk, .inl (cI, 8008, .inl fk)), (k1, .inl (cI, 4004, .inl g1)), (k2, .inl (cI, 4004, .inl g2))] := hD
  refine lv_aload_n hx hb dX1_open_15 rfl (lv_at hl 0 rfl) ?_
  refine lv_iconst (v := 0) hx hb dX1_open_16 (by decide) ?_
  refine va_put (D := (dC, dI)) (ci := 1) (v := .int 0) (ty := .boolean) (C := RX1) (T := TX1) (N := 9) hx hb hts hin_X1 tyX1 tyX1_ok nmX1 hown hK hP hD hS 0 rfl rfl 6 (by decide) (hts (.fieldLink RX1 31 "NeedHouse$Layout" "misplaced" "Z") (List.mem_of_getElem? (i := 4) rfl)) (fun _ h9 => h9) rfl (by decide +kernel) rfl rfl (by rw [hF_7.1]; decide) dX1_open_17 (fun H locs hP hD hS => ?_)
  have hP : va_P (dC, dI) vwCl [(h0, .inr (1, (fs_9.set 6 (.int 0)))), (ql, .inr (2, fsl)), (qk, .inl (cI, 8008, .inl fk)), (k1, .inl (cI, 4004, .inl g1)), (k2, .inl (cI, 4004, .inl g2))] H := hP
  have hD : va_D A [(h0, .inr (1, (fs_9.set 6 (.int 0)))), (ql, .inr (2, fsl)), (qk, .inl (cI, 8008, .inl fk)), (k1, .inl (cI, 4004, .inl g1)), (k2, .inl (cI, 4004, .inl g2))] := hD
  have hF_10 := hF_7.set 6 (.int 0) (l' := [(6, .int 0), (8, .int 2), (7, .int (-1)), (2, .int 0), (0, .ref ql), (1, .ref qk), (3, .int z3), (4, .int z4), (5, .int z5)]) (by decide) rfl
  have hE_11 := hE_8.set 6 (.int 0)
  generalize fs_9.set 6 (.int 0) = fs_12 at hP hD hF_10 hE_11
  have hP : va_P (dC, dI) vwCl [(h0, .inr (1, fs_12)), (ql, .inr (2, fsl)), (qk, .inl (cI, 8008, .inl fk)), (k1, .inl (cI, 4004, .inl g1)), (k2, .inl (cI, 4004, .inl g2))] H := hP
  have hD : va_D A [(h0, .inr (1, fs_12)), (ql, .inr (2, fsl)), (qk, .inl (cI, 8008, .inl fk)), (k1, .inl (cI, 4004, .inl g1)), (k2, .inl (cI, 4004, .inl g2))] := hD
  refine lv_aload_n hx hb dX1_open_20 rfl (lv_at hl 0 rfl) ?_
  have hPc := hP.sub (ws' := [(h0, .inr (1, fs_12)), (ql, .inr (2, fsl)), (qk, .inl (cI, 8008, .inl fk)), (k1, .inl (cI, 4004, .inl g1)), (k2, .inl (cI, 4004, .inl g2))]) [0, 1, 2, 3, 4] rfl
  have hDc := hD.sub (ws' := [(h0, .inr (1, fs_12)), (ql, .inr (2, fsl)), (qk, .inl (cI, 8008, .inl fk)), (k1, .inl (cI, 4004, .inl g1)), (k2, .inl (cI, 4004, .inl g2))]) [0, 1, 2, 3, 4] (by decide) rfl
  have hKc := hK.sub (tys' := [(cI, .int)]) [0] rfl
  have hFc := va_free (wc := [(h0, .inr (1, fs_12)), (ql, .inr (2, fsl)), (qk, .inl (cI, 8008, .inl fk)), (k1, .inl (cI, 4004, .inl g1)), (k2, .inl (cI, 4004, .inl g2))]) hD hS hA [0, 1, 2, 3, 4] rfl
  refine va_callv (va_runV (As := []) (rest := []) ⟨hx, hb, hml, hown, hts⟩ (c_X1_advance l dC dI H.size cI h0 fs_12 z3 z4 z5 ql fsl qk fk k1 g1 k2 g2 (hF_10.sub [4, 5, 3, 6, 7, 8, 0, 2, 1] rfl) (hFl.sub [0, 1] rfl) (hkg1_0) (hkg2_0)) (cwV 0 hts g_c_X1_open_c_X1_advance_21 rfl rfl rfl (by decide +kernel) ⟨Nat.le_of_ble_eq_true rfl, Nat.le_of_ble_eq_true rfl⟩) ⟨fun a U g mk q => by obtain ⟨q0, q1, qP, qK, qD⟩ := q; exact ⟨q0, q1, qP, va_K.moved (u := U) (U := U.calling g mk a) (Vm.Alike.refl U.vm) qK, qD⟩, va_recv hKc hPc (ci := 1) (q0 := 0) rfl rfl, fun U hU hW => ⟨rfl, by rw [hU], by rw [hU]; exact hPc, va_K.moved hW.alike hKc, hDc.weaken (fun _ _ _ _ => trivial)⟩⟩ rfl rfl hl.1 rfl (lv_room (Nat.le_of_ble_eq_true rfl)) dX1_open_21 ⟨show 0 + 0 ≤ 0 by decide, show 0 + 0 ≤ 0 by decide⟩) hS (fun q _ h => hFc q h) hFc (fun u t H1 locs ht hvm hw hB hz1 hk1 hS => ?_)
  obtain ⟨fs0z_15, fkz_16⟩ := u
  obtain ⟨hP1, hK1, hD1⟩ := hB
  rw [ht] at hP1
  have hK1 := va_K.moved hvm.symm hK1
  try dsimp only at hw hP1 hK1 hD1
  obtain ⟨hF_17, hE_18⟩ := hw
  obtain ⟨hP, hD⟩ := va_join (wr := []) (w1 := [(h0, .inr (1, fs0z_15)), (ql, .inr (2, fsl)), (qk, .inl (cI, 8008, .inl fkz_16)), (k1, .inl (cI, 4004, .inl g1)), (k2, .inl (cI, 4004, .inl g2))]) hP hD [0, 1, 2, 3, 4] [] rfl rfl (by decide) (by decide) hk1 hFc hP1 hD1
  generalize H1 = H at hP hS ⊢
  have hK := (hK.sub (tys' := []) [] rfl).app hK1
  have hK : va_K (dC, dI) vwCl [(cI, .int)] s := hK
  have hP : va_P (dC, dI) vwCl [(h0, .inr (1, fs0z_15)), (ql, .inr (2, fsl)), (qk, .inl (cI, 8008, .inl fkz_16)), (k1, .inl (cI, 4004, .inl g1)), (k2, .inl (cI, 4004, .inl g2))] H := hP
  have hD : va_D A [(h0, .inr (1, fs0z_15)), (ql, .inr (2, fsl)), (qk, .inl (cI, 8008, .inl fkz_16)), (k1, .inl (cI, 4004, .inl g1)), (k2, .inl (cI, 4004, .inl g2))] := hD
  have hF_19 := hF_10.same hE_18 (l' := [(0, .ref ql), (1, .ref qk)]) rfl
  have hF_20 := hF_17.app hF_19
  have hE_21 := hE_11.trans hE_18
  have hP9 := hP.sub (ws' := [(h0, .inr (1, fs0z_15)), (ql, .inr (2, fsl)), (qk, .inl (cI, 8008, .inl fkz_16)), (k1, .inl (cI, 4004, .inl g1)), (k2, .inl (cI, 4004, .inl g2))]) [0, 1, 2, 3, 4] rfl
  have hD9 := hD.sub (ws' := [(h0, .inr (1, fs0z_15)), (ql, .inr (2, fsl)), (qk, .inl (cI, 8008, .inl fkz_16)), (k1, .inl (cI, 4004, .inl g1)), (k2, .inl (cI, 4004, .inl g2))]) [0, 1, 2, 3, 4] (by decide) rfl
  have hK9 := hK.sub (tys' := [(cI, .int)]) [0] rfl
  exact W.vret hx hb hr (fun t ht hW => ⟨⟨((fs0z_15, fkz_16)), rfl, ⟨hF_20.sub [0, 1, 2, 3, 4, 5, 6] rfl, hE_21.mono (by decide)⟩, by rw [ht]; exact hP9, va_K.moved hW.alike hK9, hD9⟩, hS.F ht⟩) hS.2.2 dX1_open_24
def pw_c_X5_program : List Cond := .code yX5_program cX5_program 2 none :: ([.fieldLink RX5 27 "NeedHouse$Parser" "tree" "LNeedHouse$Tree;", .methodLink RX5 48 yX9_clear, .instanceMethod yX9_clear, .selects RX9 yX9_clear yX9_clear, .initialized RX9, .code yX9_clear cX9_clear 1 none, .fieldLink RX9 68 "NeedHouse$Tree" "size" "I", .fieldLink RX9 72 "NeedHouse$Tree" "parts" "I", .fieldLink RX9 75 "NeedHouse$Tree" "items" "I", .fieldLink RX5 31 "NeedHouse$Parser" "told" "LNeedHouse$Told;", .methodLink RX5 53 yX8_clear, .instanceMethod yX8_clear, .selects RX8 yX8_clear yX8_clear, .initialized RX8, .code yX8_clear cX8_clear 1 none, .fieldLink RX8 63 "NeedHouse$Told" "size" "I", .fieldLink RX8 67 "NeedHouse$Told" "scopes" "I", .fieldLink RX5 35 "NeedHouse$Parser" "datas" "LNeedHouse$Datas;", .methodLink RX5 56 yX0_clear, .instanceMethod yX0_clear, .selects RX0 yX0_clear yX0_clear, .initialized RX0, .code yX0_clear cX0_clear 1 none, .fieldLink RX0 67 "NeedHouse$Datas" "size" "I", .fieldLink RX0 63 "NeedHouse$Datas" "cons" "I", .fieldLink RX0 70 "NeedHouse$Datas" "codes" "I", .fieldLink RX0 73 "NeedHouse$Datas" "names" "I", .fieldLink RX5 59 "NeedHouse$Parser" "heldSize" "I", .fieldLink RX5 63 "NeedHouse$Parser" "signSize" "I", .methodLink RX5 66 yX8_openScope, .instanceMethod yX8_openScope, .selects RX8 yX8_openScope yX8_openScope, .code yX8_openScope cX8_openScope 3 (some .int), .fieldLink RX8 36 "NeedHouse$Told" "parent" "[I", .fieldLink RX8 39 "NeedHouse$Told" "owner" "[I", .fieldLink RX8 42 "NeedHouse$Told" "first" "[I", .fieldLink RX8 45 "NeedHouse$Told" "last" "[I", .fieldLink RX8 48 "NeedHouse$Told" "width" "[I", .fieldLink RX5 44 "NeedHouse$Parser" "layout" "LNeedHouse$Layout;", .methodLink RX5 70 yX1_open, .instanceMethod yX1_open, .selects RX1 yX1_open yX1_open, .initialized RX1, .code yX1_open cX1_open 1 none, .fieldLink RX1 21 "NeedHouse$Layout" "depth" "I", .fieldLink RX1 25 "NeedHouse$Layout" "token" "I", .fieldLink RX1 28 "NeedHouse$Layout" "now" "I", .fieldLink RX1 31 "NeedHouse$Layout" "misplaced" "Z", .methodLink RX1 35 yX1_advance, .instanceMethod yX1_advance, .selects RX1 yX1_advance yX1_advance, .code yX1_advance cX1_advance 1 none, .methodLink RX1 42 yX1_arrive, .instanceMethod yX1_arrive, .selects RX1 yX1_arrive yX1_arrive, .code yX1_arrive cX1_arrive 4 none, .fieldLink RX1 45 "NeedHouse$Layout" "endsAhead" "I", .fieldLink RX1 51 "NeedHouse$Layout" "endsBehind" "I", .fieldLink RX1 48 "NeedHouse$Layout" "itemEnds" "Z", .fieldLink RX1 17 "NeedHouse$Layout" "lexemes" "LNeedHouse$Lexemes;", .fieldLink RX1 54 "NeedHouse$Lexemes" "kind" "[I", .fieldLink RX1 70 "NeedHouse$Lexemes" "column" "[I", .methodLink RX1 77 yX1_push, .instanceMethod yX1_push, .selects RX1 yX1_push yX1_push, .code yX1_push cX1_push 2 none, .fieldLink RX1 13 "NeedHouse$Layout" "stack" "[I", .methodLink RX1 84 yX1_closes, .static yX1_closes, .code yX1_closes cX1_closes 1 (some .int), .methodLink RX1 88 yX1_close, .instanceMethod yX1_close, .selects RX1 yX1_close yX1_close, .code yX1_close cX1_close 5 (some .boolean), .methodLink RX1 96 Lib.Math.max.name, .static Lib.Math.max.name, .initialized "java/lang/Math", .code Lib.Math.max.name Lib.Math.max.code 2 (some .int), .methodLink RX1 92 yX1_opens, .static yX1_opens, .code yX1_opens cX1_opens 1 (some .boolean), .constant RX5 73 (1000000), .fieldLink RX5 74 "NeedHouse$Layout" "now" "I"] ++ (wsX50 ++ (wsX90 ++ (wsX80 ++ (wsX00 ++ (wsX10 ++ (wsX20 ++ [])))))))
set_option maxRecDepth 20000 in
theorem g_c_X5_program_c_X9_clear_4 : GoodIn pw_c_X5_program (wsV RX5 48 RX9 yX9_clear pw_c_X9_clear) := goodIn_r _ [2, 3, 4, 5, 6, 7, 8, 9, 94, 95, 96, 97, 98, 99, 100, 101, 102, 103, 104, 105, 106, 107, 108, 109, 110, 111, 112, 113] rfl (by decide +kernel)
set_option maxRecDepth 20000 in
theorem g_c_X5_program_c_X8_clear_11 : GoodIn pw_c_X5_program (wsV RX5 53 RX8 yX8_clear pw_c_X8_clear) := goodIn_r _ [11, 12, 13, 14, 15, 16, 17, 114, 115, 116, 117, 118, 119, 120, 121, 122, 123, 124, 125, 126, 127, 128, 129, 130, 131] rfl (by decide +kernel)
set_option maxRecDepth 20000 in
theorem g_c_X5_program_c_X0_clear_18 : GoodIn pw_c_X5_program (wsV RX5 56 RX0 yX0_clear pw_c_X0_clear) := goodIn_r _ [19, 20, 21, 22, 23, 24, 25, 26, 27, 132, 133, 134, 135, 136, 137, 138, 139, 140, 141, 142, 143, 144, 145, 146, 147, 148, 149, 150, 151] rfl (by decide +kernel)
set_option maxRecDepth 20000 in
theorem g_c_X5_program_c_X8_openScope_37 : GoodIn pw_c_X5_program (wsV RX5 66 RX8 yX8_openScope pw_c_X8_openScope) := goodIn_r _ [30, 31, 32, 14, 33, 17, 34, 35, 36, 37, 38, 114, 115, 116, 117, 118, 119, 120, 121, 122, 123, 124, 125, 126, 127, 128, 129, 130, 131] rfl (by decide +kernel)
set_option maxRecDepth 20000 in
theorem g_c_X5_program_c_X1_open_45 : GoodIn pw_c_X5_program (wsV RX5 70 RX1 yX1_open pw_c_X1_open) := goodIn_r _ [40, 41, 42, 43, 44, 45, 46, 47, 48, 49, 50, 51, 43, 52, 53, 54, 55, 56, 57, 58, 59, 60, 61, 62, 63, 64, 65, 66, 67, 68, 69, 70, 71, 72, 73, 74, 75, 76, 77, 78, 79, 80, 81, 152, 153, 154, 155, 156, 157, 158, 159, 160, 161, 162, 163, 164, 165, 166, 167, 168, 169, 170, 171, 172] rfl (by decide +kernel)
set_option maxHeartbeats 4000000 in
set_option maxRecDepth 100000 in
theorem c_X5_program (l : Launch) (dC : Nat → ClassId) (dI : Nat → Nat → Nat) (sz : Nat) (cI : ClassId) (h0 : Nat) (fs0 : List Value) (y1 : Int32) (y2 : Int32) (qe : Nat) (fse : List Value) (qd : Nat) (fsd : List Value) (qa : Nat) (fsa : List Value) (qy : Nat) (fsy : List Value) (z9 : Int32) (z3 : Int32) (z4 : Int32) (z5 : Int32) (z6 : Int32) (z8 : Int32) (z7 : Int32) (ql : Nat) (fsl : List Value) (a1 : Nat) (f1 : Nat → Int32) (a2 : Nat) (f2 : Nat → Int32) (a3 : Nat) (f3 : Nat → Int32) (a4 : Nat) (f4 : Nat → Int32) (a5 : Nat) (f5 : Nat → Int32) (qk : Nat) (fk : Nat → Int32) (k1 : Nat) (g1 : Nat → Int32) (k2 : Nat) (g2 : Nat → Int32) (hF0 : hasF fs0 10 [(2, .ref qe), (3, .ref qd), (4, .ref qa), (1, .ref qy), (8, .int y1), (9, .int y2)]) (hFe : hasF fse 20 []) (hFd : hasF fsd 18 [(9, .ref a1), (10, .ref a2), (11, .ref a3), (12, .ref a4), (13, .ref a5)]) (hFa : hasF fsa 20 []) (hFy : hasF fsy 9 [(0, .ref ql), (1, .ref qk), (2, .int z9), (3, .int z3), (4, .int z4), (5, .int z5), (6, .int z6), (7, .int z8), (8, .int z7)]) (hFl : hasF fsl 12 [(0, .ref k1), (2, .ref k2)]) (hkg1_0 : g1 0 = 0) (hkg2_0 : g2 0 = 0) : Met l yX5_program pw_c_X5_program ({ frames := 5, cells := 0, slots := 0, locals := 111 }) (va_Pc [.ref h0] (fun U => U.heap.size = sz ∧ va_P (dC, dI) vwCl [(h0, .inr (5, fs0)), (qe, .inr (9, fse)), (qd, .inr (8, fsd)), (qa, .inr (0, fsa)), (qy, .inr (1, fsy)), (ql, .inr (2, fsl)), (a1, .inl (cI, 2100, .inl f1)), (a2, .inl (cI, 2100, .inl f2)), (a3, .inl (cI, 2100, .inl f3)), (a4, .inl (cI, 2100, .inl f4)), (a5, .inl (cI, 2100, .inl f5)), (qk, .inl (cI, 8008, .inl fk)), (k1, .inl (cI, 4004, .inl g1)), (k2, .inl (cI, 4004, .inl g2))] U.heap ∧ va_K (dC, dI) vwCl [(cI, .int)] U ∧ va_D (fun _ => True) [(h0, .inr (5, fs0)), (qe, .inr (9, fse)), (qd, .inr (8, fsd)), (qa, .inr (0, fsa)), (qy, .inr (1, fsy)), (ql, .inr (2, fsl)), (a1, .inl (cI, 2100, .inl f1)), (a2, .inl (cI, 2100, .inl f2)), (a3, .inl (cI, 2100, .inl f3)), (a4, .inl (cI, 2100, .inl f4)), (a5, .inl (cI, 2100, .inl f5)), (qk, .inl (cI, 8008, .inl fk)), (k1, .inl (cI, 4004, .inl g1)), (k2, .inl (cI, 4004, .inl g2))])) (va_Qv (fun (u : (List Value) × (List Value) × (List Value) × (List Value) × (List Value) × (Nat → Int32) × (Nat → Int32) × (Nat → Int32) × (Nat → Int32) × (Nat → Int32) × (Nat → Int32)) => sameF fs0 u.1 [8, 9] ∧ hasF u.2.1 20 [(17, .int 0), (19, .int 0)] ∧ sameF fse u.2.1 [17, 18, 19] ∧ hasF u.2.2.1 18 [(17, .int 1)] ∧ sameF fsd u.2.2.1 [16, 17] ∧ hasF u.2.2.2.1 20 [(16, .int 0), (17, .int 5)] ∧ sameF fsa u.2.2.2.1 [16, 17, 18, 19] ∧ sameF fsy u.2.2.2.2.1 [2, 3, 4, 5, 6, 7, 8] ∧ u.2.2.2.2.2.2.2.1 0 = (-1)) (fun (u : (List Value) × (List Value) × (List Value) × (List Value) × (List Value) × (Nat → Int32) × (Nat → Int32) × (Nat → Int32) × (Nat → Int32) × (Nat → Int32) × (Nat → Int32)) (t : State) => va_P (dC, dI) vwCl [(h0, .inr (5, u.1)), (qe, .inr (9, u.2.1)), (qd, .inr (8, u.2.2.1)), (qa, .inr (0, u.2.2.2.1)), (qy, .inr (1, u.2.2.2.2.1)), (ql, .inr (2, fsl)), (a1, .inl (cI, 2100, .inl u.2.2.2.2.2.1)), (a2, .inl (cI, 2100, .inl u.2.2.2.2.2.2.1)), (a3, .inl (cI, 2100, .inl u.2.2.2.2.2.2.2.1)), (a4, .inl (cI, 2100, .inl u.2.2.2.2.2.2.2.2.1)), (a5, .inl (cI, 2100, .inl u.2.2.2.2.2.2.2.2.2.1)), (qk, .inl (cI, 8008, .inl u.2.2.2.2.2.2.2.2.2.2)), (k1, .inl (cI, 4004, .inl g1)), (k2, .inl (cI, 4004, .inl g2))] t.heap ∧ va_K (dC, dI) vwCl [(cI, .int)] t ∧ va_D (va_A [(h0, .inr (5, fs0)), (qe, .inr (9, fse)), (qd, .inr (8, fsd)), (qa, .inr (0, fsa)), (qy, .inr (1, fsy)), (ql, .inr (2, fsl)), (a1, .inl (cI, 2100, .inl f1)), (a2, .inl (cI, 2100, .inl f2)), (a3, .inl (cI, 2100, .inl f3)), (a4, .inl (cI, 2100, .inl f4)), (a5, .inl (cI, 2100, .inl f5)), (qk, .inl (cI, 8008, .inl fk)), (k1, .inl (cI, 4004, .inl g1)), (k2, .inl (cI, 4004, .inl g2))] sz) [(h0, .inr (5, u.1)), (qe, .inr (9, u.2.1)), (qd, .inr (8, u.2.2.1)), (qa, .inr (0, u.2.2.2.1)), (qy, .inr (1, u.2.2.2.2.1)), (ql, .inr (2, fsl)), (a1, .inl (cI, 2100, .inl u.2.2.2.2.2.1)), (a2, .inl (cI, 2100, .inl u.2.2.2.2.2.2.1)), (a3, .inl (cI, 2100, .inl u.2.2.2.2.2.2.2.1)), (a4, .inl (cI, 2100, .inl u.2.2.2.2.2.2.2.2.1)), (a5, .inl (cI, 2100, .inl u.2.2.2.2.2.2.2.2.2.1)), (qk, .inl (cI, 8008, .inl u.2.2.2.2.2.2.2.2.2.2)), (k1, .inl (cI, 4004, .inl g1)), (k2, .inl (cI, 4004, .inl g2))]) (va_A [(h0, .inr (5, fs0)), (qe, .inr (9, fse)), (qd, .inr (8, fsd)), (qa, .inr (0, fsa)), (qy, .inr (1, fsy)), (ql, .inr (2, fsl)), (a1, .inl (cI, 2100, .inl f1)), (a2, .inl (cI, 2100, .inl f2)), (a3, .inl (cI, 2100, .inl f3)), (a4, .inl (cI, 2100, .inl f4)), (a5, .inl (cI, 2100, .inl f5)), (qk, .inl (cI, 8008, .inl fk)), (k1, .inl (cI, 4004, .inl g1)), (k2, .inl (cI, 4004, .inl g2))] sz)) 0 0 (va_A [(h0, .inr (5, fs0)), (qe, .inr (9, fse)), (qd, .inr (8, fsd)), (qa, .inr (0, fsa)), (qy, .inr (1, fsy)), (ql, .inr (2, fsl)), (a1, .inl (cI, 2100, .inl f1)), (a2, .inl (cI, 2100, .inl f2)), (a3, .inl (cI, 2100, .inl f3)), (a4, .inl (cI, 2100, .inl f4)), (a5, .inl (cI, 2100, .inl f5)), (qk, .inl (cI, 8008, .inl fk)), (k1, .inl (cI, 4004, .inl g1)), (k2, .inl (cI, 4004, .inl g2))] sz) := by
  refine Met.ofW (cc := cX5_program) (maxL := 2) (ret := none) (by decide) rfl ?_
  intro p e s m args below meth c s₁ B hml hv
  obtain ⟨rfl, hsz, hP, hK, hD0⟩ := hv
  have hx := B.exec
  have hb := B.bytes
  have hr := B.returns
  have hts := atoms_spec (ws := pw_c_X5_program) B.pre
  have hown : s.vm.findClass RX5 = some m.cls := findClass_of_methodNamed B.named
  have hlocks := B.notSynchronized
  have hin_X5 : ∀ w ∈ u_ws RX5 TX5 10, w ∈ pw_c_X5_program := fun w h => List.mem_cons_of_mem _ (List.mem_append_right _ (List.mem_append_left _ h))
  have hin_X9 : ∀ w ∈ u_ws RX9 TX9 20, w ∈ pw_c_X5_program := fun w h => List.mem_cons_of_mem _ (List.mem_append_right _ (List.mem_append_right _ (List.mem_append_left _ h)))
  have hin_X8 : ∀ w ∈ u_ws RX8 TX8 18, w ∈ pw_c_X5_program := fun w h => List.mem_cons_of_mem _ (List.mem_append_right _ (List.mem_append_right _ (List.mem_append_right _ (List.mem_append_left _ h))))
  have hin_X0 : ∀ w ∈ u_ws RX0 TX0 20, w ∈ pw_c_X5_program := fun w h => List.mem_cons_of_mem _ (List.mem_append_right _ (List.mem_append_right _ (List.mem_append_right _ (List.mem_append_right _ (List.mem_append_left _ h)))))
  have hin_X1 : ∀ w ∈ u_ws RX1 TX1 9, w ∈ pw_c_X5_program := fun w h => List.mem_cons_of_mem _ (List.mem_append_right _ (List.mem_append_right _ (List.mem_append_right _ (List.mem_append_right _ (List.mem_append_right _ (List.mem_append_left _ h))))))
  have hin_X2 : ∀ w ∈ u_ws RX2 TX2 12, w ∈ pw_c_X5_program := fun w h => List.mem_cons_of_mem _ (List.mem_append_right _ (List.mem_append_right _ (List.mem_append_right _ (List.mem_append_right _ (List.mem_append_right _ (List.mem_append_right _ (List.mem_append_left _ h)))))))
  subst hsz
  have hD := hD0.self (sz := s.heap.size)
  generalize hAe : va_A [(h0, .inr (5, fs0)), (qe, .inr (9, fse)), (qd, .inr (8, fsd)), (qa, .inr (0, fsa)), (qy, .inr (1, fsy)), (ql, .inr (2, fsl)), (a1, .inl (cI, 2100, .inl f1)), (a2, .inl (cI, 2100, .inl f2)), (a3, .inl (cI, 2100, .inl f3)), (a4, .inl (cI, 2100, .inl f4)), (a5, .inl (cI, 2100, .inl f5)), (qk, .inl (cI, 8008, .inl fk)), (k1, .inl (cI, 4004, .inl g1)), (k2, .inl (cI, 4004, .inl g2))] s.heap.size = A at hD ⊢
  have hA : ∀ q : Nat, s.heap.size ≤ q → A q := fun q h => by rw [← hAe]; exact Or.inr h
  have hS : va_S A s.heap s.heap [] := va_S.rf
  have hP : va_P (dC, dI) vwCl [(h0, .inr (5, fs0)), (qe, .inr (9, fse)), (qd, .inr (8, fsd)), (qa, .inr (0, fsa)), (qy, .inr (1, fsy)), (ql, .inr (2, fsl)), (a1, .inl (cI, 2100, .inl f1)), (a2, .inl (cI, 2100, .inl f2)), (a3, .inl (cI, 2100, .inl f3)), (a4, .inl (cI, 2100, .inl f4)), (a5, .inl (cI, 2100, .inl f5)), (qk, .inl (cI, 8008, .inl fk)), (k1, .inl (cI, 4004, .inl g1)), (k2, .inl (cI, 4004, .inl g2))] s.heap := hP
  have hl := lv_entry ([.ref h0]) (n := 2) (Nat.le_of_ble_eq_true rfl)
  rw [lg_entry_eq]
  generalize (lg_sl ([.ref h0]) ++ List.replicate (2 - (lg_sl ([.ref h0])).length) Slot.unset).toArray = ls at hl ⊢
  have hl : lv_has ls 2 [(0, .ref h0)] := hl
  refine lv_aload_n hx hb dX5_program_0 rfl (lv_at hl 0 rfl) ?_
  refine va_get (D := (dC, dI)) (ci := 5) (v := .ref qe) (C := RX5) (T := TX5) (N := 10) hx hb hts hin_X5 hown hK hP 0 rfl rfl 2 (by decide) (hts (.fieldLink RX5 27 "NeedHouse$Parser" "tree" "LNeedHouse$Tree;") (List.mem_of_getElem? (i := 1) rfl)) (fun _ h9 => h9) (hF0.at 0 rfl) dX5_program_1 ?_
  have hPc := hP.sub (ws' := [(qe, .inr (9, fse))]) [1] rfl
  have hDc := hD.sub (ws' := [(qe, .inr (9, fse))]) [1] (by decide) rfl
  have hKc := hK.sub (tys' := []) [] rfl
  have hFc := va_free (wc := [(qe, .inr (9, fse))]) hD hS hA [1] rfl
  refine va_callv (va_runV (As := []) (rest := []) ⟨hx, hb, hml, hown, hts⟩ (c_X9_clear l dC dI s.heap.size qe fse (hFe.sub [] rfl)) (cwV 0 hts g_c_X5_program_c_X9_clear_4 rfl rfl rfl (by decide +kernel) ⟨Nat.le_of_ble_eq_true rfl, Nat.le_of_ble_eq_true rfl⟩) ⟨fun a U g mk q => by obtain ⟨q0, q1, qP, qK, qD⟩ := q; exact ⟨q0, q1, qP, va_K.moved (u := U) (U := U.calling g mk a) (Vm.Alike.refl U.vm) qK, qD⟩, va_recv hKc hPc (ci := 9) (q0 := 0) rfl rfl, fun U hU hW => ⟨rfl, by rw [hU], by rw [hU]; exact hPc, va_K.moved hW.alike hKc, hDc.weaken (fun _ _ _ _ => trivial)⟩⟩ rfl rfl hl.1 rfl (lv_room (Nat.le_of_ble_eq_true rfl)) dX5_program_4 ⟨show 0 + 0 ≤ 0 by decide, show 0 + 0 ≤ 0 by decide⟩) hS (fun q _ h => hFc q h) hFc (fun u t H1 locs ht hvm hw hB hz1 hk1 hS => ?_)
  obtain ⟨fs0z_3, rfl⟩ : ∃ z, z = u := ⟨_, rfl⟩
  obtain ⟨hP1, hK1, hD1⟩ := hB
  rw [ht] at hP1
  have hK1 := va_K.moved hvm.symm hK1
  try dsimp only at hw hP1 hK1 hD1
  obtain ⟨hF_4, hE_5⟩ := hw
  obtain ⟨hP, hD⟩ := va_join (wr := [(h0, .inr (5, fs0)), (qd, .inr (8, fsd)), (qa, .inr (0, fsa)), (qy, .inr (1, fsy)), (ql, .inr (2, fsl)), (a1, .inl (cI, 2100, .inl f1)), (a2, .inl (cI, 2100, .inl f2)), (a3, .inl (cI, 2100, .inl f3)), (a4, .inl (cI, 2100, .inl f4)), (a5, .inl (cI, 2100, .inl f5)), (qk, .inl (cI, 8008, .inl fk)), (k1, .inl (cI, 4004, .inl g1)), (k2, .inl (cI, 4004, .inl g2))]) (w1 := [(qe, .inr (9, fs0z_3))]) hP hD [1] [0, 2, 3, 4, 5, 6, 7, 8, 9, 10, 11, 12, 13] rfl rfl (by decide) (by decide) hk1 hFc hP1 hD1
  generalize H1 = H at hP hS ⊢
  have hK := (hK.sub (tys' := [(cI, .int)]) [0] rfl).app hK1
  have hK : va_K (dC, dI) vwCl [(cI, .int)] s := hK
  have hP : va_P (dC, dI) vwCl [(h0, .inr (5, fs0)), (qd, .inr (8, fsd)), (qa, .inr (0, fsa)), (qy, .inr (1, fsy)), (ql, .inr (2, fsl)), (a1, .inl (cI, 2100, .inl f1)), (a2, .inl (cI, 2100, .inl f2)), (a3, .inl (cI, 2100, .inl f3)), (a4, .inl (cI, 2100, .inl f4)), (a5, .inl (cI, 2100, .inl f5)), (qk, .inl (cI, 8008, .inl fk)), (k1, .inl (cI, 4004, .inl g1)), (k2, .inl (cI, 4004, .inl g2)), (qe, .inr (9, fs0z_3))] H := hP
  have hD : va_D A [(h0, .inr (5, fs0)), (qd, .inr (8, fsd)), (qa, .inr (0, fsa)), (qy, .inr (1, fsy)), (ql, .inr (2, fsl)), (a1, .inl (cI, 2100, .inl f1)), (a2, .inl (cI, 2100, .inl f2)), (a3, .inl (cI, 2100, .inl f3)), (a4, .inl (cI, 2100, .inl f4)), (a5, .inl (cI, 2100, .inl f5)), (qk, .inl (cI, 8008, .inl fk)), (k1, .inl (cI, 4004, .inl g1)), (k2, .inl (cI, 4004, .inl g2)), (qe, .inr (9, fs0z_3))] := hD
  have hF_6 := hFe.same hE_5 (l' := []) rfl
  have hF_7 := hF_4.app hF_6
  have hE_8 := (sameF.rf (f := fse)).trans hE_5
  refine lv_aload_n hx hb dX5_program_7 rfl (lv_at hl 0 rfl) ?_
  refine va_get (D := (dC, dI)) (ci := 5) (v := .ref qd) (C := RX5) (T := TX5) (N := 10) hx hb hts hin_X5 hown hK hP 0 rfl rfl 3 (by decide) (hts (.fieldLink RX5 31 "NeedHouse$Parser" "told" "LNeedHouse$Told;") (List.mem_of_getElem? (i := 10) rfl)) (fun _ h9 => h9) (hF0.at 1 rfl) dX5_program_8 ?_
  have hPc := hP.sub (ws' := [(qd, .inr (8, fsd))]) [1] rfl
  have hDc := hD.sub (ws' := [(qd, .inr (8, fsd))]) [1] (by decide) rfl
  have hKc := hK.sub (tys' := []) [] rfl
  have hFc := va_free (wc := [(qd, .inr (8, fsd))]) hD hS hA [1] rfl
  refine va_callv (va_runV (As := []) (rest := []) ⟨hx, hb, hml, hown, hts⟩ (c_X8_clear l dC dI H.size qd fsd (hFd.sub [] rfl)) (cwV 0 hts g_c_X5_program_c_X8_clear_11 rfl rfl rfl (by decide +kernel) ⟨Nat.le_of_ble_eq_true rfl, Nat.le_of_ble_eq_true rfl⟩) ⟨fun a U g mk q => by obtain ⟨q0, q1, qP, qK, qD⟩ := q; exact ⟨q0, q1, qP, va_K.moved (u := U) (U := U.calling g mk a) (Vm.Alike.refl U.vm) qK, qD⟩, va_recv hKc hPc (ci := 8) (q0 := 0) rfl rfl, fun U hU hW => ⟨rfl, by rw [hU], by rw [hU]; exact hPc, va_K.moved hW.alike hKc, hDc.weaken (fun _ _ _ _ => trivial)⟩⟩ rfl rfl hl.1 rfl (lv_room (Nat.le_of_ble_eq_true rfl)) dX5_program_11 ⟨show 0 + 0 ≤ 0 by decide, show 0 + 0 ≤ 0 by decide⟩) hS (fun q _ h => hFc q h) hFc (fun u t H1 locs ht hvm hw hB hz1 hk1 hS => ?_)
  obtain ⟨fs0z_11, rfl⟩ : ∃ z, z = u := ⟨_, rfl⟩
  obtain ⟨hP1, hK1, hD1⟩ := hB
  rw [ht] at hP1
  have hK1 := va_K.moved hvm.symm hK1
  try dsimp only at hw hP1 hK1 hD1
  obtain ⟨hF_12, hE_13⟩ := hw
  obtain ⟨hP, hD⟩ := va_join (wr := [(h0, .inr (5, fs0)), (qa, .inr (0, fsa)), (qy, .inr (1, fsy)), (ql, .inr (2, fsl)), (a1, .inl (cI, 2100, .inl f1)), (a2, .inl (cI, 2100, .inl f2)), (a3, .inl (cI, 2100, .inl f3)), (a4, .inl (cI, 2100, .inl f4)), (a5, .inl (cI, 2100, .inl f5)), (qk, .inl (cI, 8008, .inl fk)), (k1, .inl (cI, 4004, .inl g1)), (k2, .inl (cI, 4004, .inl g2)), (qe, .inr (9, fs0z_3))]) (w1 := [(qd, .inr (8, fs0z_11))]) hP hD [1] [0, 2, 3, 4, 5, 6, 7, 8, 9, 10, 11, 12, 13] rfl rfl (by decide) (by decide) hk1 hFc hP1 hD1
  generalize H1 = H at hP hS ⊢
  have hK := (hK.sub (tys' := [(cI, .int)]) [0] rfl).app hK1
  have hK : va_K (dC, dI) vwCl [(cI, .int)] s := hK
  have hP : va_P (dC, dI) vwCl [(h0, .inr (5, fs0)), (qa, .inr (0, fsa)), (qy, .inr (1, fsy)), (ql, .inr (2, fsl)), (a1, .inl (cI, 2100, .inl f1)), (a2, .inl (cI, 2100, .inl f2)), (a3, .inl (cI, 2100, .inl f3)), (a4, .inl (cI, 2100, .inl f4)), (a5, .inl (cI, 2100, .inl f5)), (qk, .inl (cI, 8008, .inl fk)), (k1, .inl (cI, 4004, .inl g1)), (k2, .inl (cI, 4004, .inl g2)), (qe, .inr (9, fs0z_3)), (qd, .inr (8, fs0z_11))] H := hP
  have hD : va_D A [(h0, .inr (5, fs0)), (qa, .inr (0, fsa)), (qy, .inr (1, fsy)), (ql, .inr (2, fsl)), (a1, .inl (cI, 2100, .inl f1)), (a2, .inl (cI, 2100, .inl f2)), (a3, .inl (cI, 2100, .inl f3)), (a4, .inl (cI, 2100, .inl f4)), (a5, .inl (cI, 2100, .inl f5)), (qk, .inl (cI, 8008, .inl fk)), (k1, .inl (cI, 4004, .inl g1)), (k2, .inl (cI, 4004, .inl g2)), (qe, .inr (9, fs0z_3)), (qd, .inr (8, fs0z_11))] := hD
  have hF_14 := hFd.same hE_13 (l' := [(9, .ref a1), (10, .ref a2), (11, .ref a3), (12, .ref a4), (13, .ref a5)]) rfl
  have hF_15 := hF_12.app hF_14
  have hE_16 := (sameF.rf (f := fsd)).trans hE_13
  refine lv_aload_n hx hb dX5_program_14 rfl (lv_at hl 0 rfl) ?_
  refine va_get (D := (dC, dI)) (ci := 5) (v := .ref qa) (C := RX5) (T := TX5) (N := 10) hx hb hts hin_X5 hown hK hP 0 rfl rfl 4 (by decide) (hts (.fieldLink RX5 35 "NeedHouse$Parser" "datas" "LNeedHouse$Datas;") (List.mem_of_getElem? (i := 18) rfl)) (fun _ h9 => h9) (hF0.at 2 rfl) dX5_program_15 ?_
  have hPc := hP.sub (ws' := [(qa, .inr (0, fsa))]) [1] rfl
  have hDc := hD.sub (ws' := [(qa, .inr (0, fsa))]) [1] (by decide) rfl
  have hKc := hK.sub (tys' := []) [] rfl
  have hFc := va_free (wc := [(qa, .inr (0, fsa))]) hD hS hA [1] rfl
  refine va_callv (va_runV (As := []) (rest := []) ⟨hx, hb, hml, hown, hts⟩ (c_X0_clear l dC dI H.size qa fsa (hFa.sub [] rfl)) (cwV 0 hts g_c_X5_program_c_X0_clear_18 rfl rfl rfl (by decide +kernel) ⟨Nat.le_of_ble_eq_true rfl, Nat.le_of_ble_eq_true rfl⟩) ⟨fun a U g mk q => by obtain ⟨q0, q1, qP, qK, qD⟩ := q; exact ⟨q0, q1, qP, va_K.moved (u := U) (U := U.calling g mk a) (Vm.Alike.refl U.vm) qK, qD⟩, va_recv hKc hPc (ci := 0) (q0 := 0) rfl rfl, fun U hU hW => ⟨rfl, by rw [hU], by rw [hU]; exact hPc, va_K.moved hW.alike hKc, hDc.weaken (fun _ _ _ _ => trivial)⟩⟩ rfl rfl hl.1 rfl (lv_room (Nat.le_of_ble_eq_true rfl)) dX5_program_18 ⟨show 0 + 0 ≤ 0 by decide, show 0 + 0 ≤ 0 by decide⟩) hS (fun q _ h => hFc q h) hFc (fun u t H1 locs ht hvm hw hB hz1 hk1 hS => ?_)
  obtain ⟨fs0z_19, rfl⟩ : ∃ z, z = u := ⟨_, rfl⟩
  obtain ⟨hP1, hK1, hD1⟩ := hB
  rw [ht] at hP1
  have hK1 := va_K.moved hvm.symm hK1
  try dsimp only at hw hP1 hK1 hD1
  obtain ⟨hF_20, hE_21⟩ := hw
  obtain ⟨hP, hD⟩ := va_join (wr := [(h0, .inr (5, fs0)), (qy, .inr (1, fsy)), (ql, .inr (2, fsl)), (a1, .inl (cI, 2100, .inl f1)), (a2, .inl (cI, 2100, .inl f2)), (a3, .inl (cI, 2100, .inl f3)), (a4, .inl (cI, 2100, .inl f4)), (a5, .inl (cI, 2100, .inl f5)), (qk, .inl (cI, 8008, .inl fk)), (k1, .inl (cI, 4004, .inl g1)), (k2, .inl (cI, 4004, .inl g2)), (qe, .inr (9, fs0z_3)), (qd, .inr (8, fs0z_11))]) (w1 := [(qa, .inr (0, fs0z_19))]) hP hD [1] [0, 2, 3, 4, 5, 6, 7, 8, 9, 10, 11, 12, 13] rfl rfl (by decide) (by decide) hk1 hFc hP1 hD1
  generalize H1 = H at hP hS ⊢
  have hK := (hK.sub (tys' := [(cI, .int)]) [0] rfl).app hK1
  have hK : va_K (dC, dI) vwCl [(cI, .int)] s := hK
  have hP : va_P (dC, dI) vwCl [(h0, .inr (5, fs0)), (qy, .inr (1, fsy)), (ql, .inr (2, fsl)), (a1, .inl (cI, 2100, .inl f1)), (a2, .inl (cI, 2100, .inl f2)), (a3, .inl (cI, 2100, .inl f3)), (a4, .inl (cI, 2100, .inl f4)), (a5, .inl (cI, 2100, .inl f5)), (qk, .inl (cI, 8008, .inl fk)), (k1, .inl (cI, 4004, .inl g1)), (k2, .inl (cI, 4004, .inl g2)), (qe, .inr (9, fs0z_3)), (qd, .inr (8, fs0z_11)), (qa, .inr (0, fs0z_19))] H := hP
  have hD : va_D A [(h0, .inr (5, fs0)), (qy, .inr (1, fsy)), (ql, .inr (2, fsl)), (a1, .inl (cI, 2100, .inl f1)), (a2, .inl (cI, 2100, .inl f2)), (a3, .inl (cI, 2100, .inl f3)), (a4, .inl (cI, 2100, .inl f4)), (a5, .inl (cI, 2100, .inl f5)), (qk, .inl (cI, 8008, .inl fk)), (k1, .inl (cI, 4004, .inl g1)), (k2, .inl (cI, 4004, .inl g2)), (qe, .inr (9, fs0z_3)), (qd, .inr (8, fs0z_11)), (qa, .inr (0, fs0z_19))] := hD
  have hF_22 := hFa.same hE_21 (l' := []) rfl
  have hF_23 := hF_20.app hF_22
  have hE_24 := (sameF.rf (f := fsa)).trans hE_21
  refine lv_aload_n hx hb dX5_program_21 rfl (lv_at hl 0 rfl) ?_
  refine lv_iconst (v := 0) hx hb dX5_program_22 (by decide) ?_
  refine va_put (D := (dC, dI)) (ci := 5) (v := .int 0) (ty := .int) (C := RX5) (T := TX5) (N := 10) hx hb hts hin_X5 tyX5 tyX5_ok nmX5 hown hK hP hD hS 0 rfl rfl 8 (by decide) (hts (.fieldLink RX5 59 "NeedHouse$Parser" "heldSize" "I") (List.mem_of_getElem? (i := 28) rfl)) (fun _ h9 => h9) rfl (by decide +kernel) rfl rfl (by rw [hF0.1]; decide) dX5_program_23 (fun H locs hP hD hS => ?_)
  have hP : va_P (dC, dI) vwCl [(h0, .inr (5, (fs0.set 8 (.int 0)))), (qy, .inr (1, fsy)), (ql, .inr (2, fsl)), (a1, .inl (cI, 2100, .inl f1)), (a2, .inl (cI, 2100, .inl f2)), (a3, .inl (cI, 2100, .inl f3)), (a4, .inl (cI, 2100, .inl f4)), (a5, .inl (cI, 2100, .inl f5)), (qk, .inl (cI, 8008, .inl fk)), (k1, .inl (cI, 4004, .inl g1)), (k2, .inl (cI, 4004, .inl g2)), (qe, .inr (9, fs0z_3)), (qd, .inr (8, fs0z_11)), (qa, .inr (0, fs0z_19))] H := hP
  have hD : va_D A [(h0, .inr (5, (fs0.set 8 (.int 0)))), (qy, .inr (1, fsy)), (ql, .inr (2, fsl)), (a1, .inl (cI, 2100, .inl f1)), (a2, .inl (cI, 2100, .inl f2)), (a3, .inl (cI, 2100, .inl f3)), (a4, .inl (cI, 2100, .inl f4)), (a5, .inl (cI, 2100, .inl f5)), (qk, .inl (cI, 8008, .inl fk)), (k1, .inl (cI, 4004, .inl g1)), (k2, .inl (cI, 4004, .inl g2)), (qe, .inr (9, fs0z_3)), (qd, .inr (8, fs0z_11)), (qa, .inr (0, fs0z_19))] := hD
  have hF_25 := hF0.set 8 (.int 0) (l' := [(8, .int 0), (2, .ref qe), (3, .ref qd), (4, .ref qa), (1, .ref qy), (9, .int y2)]) (by decide) rfl
  have hE_26 := (sameF.rf (f := fs0)).set 8 (.int 0)
  generalize fs0.set 8 (.int 0) = fs_27 at hP hD hF_25 hE_26
  have hP : va_P (dC, dI) vwCl [(h0, .inr (5, fs_27)), (qy, .inr (1, fsy)), (ql, .inr (2, fsl)), (a1, .inl (cI, 2100, .inl f1)), (a2, .inl (cI, 2100, .inl f2)), (a3, .inl (cI, 2100, .inl f3)), (a4, .inl (cI, 2100, .inl f4)), (a5, .inl (cI, 2100, .inl f5)), (qk, .inl (cI, 8008, .inl fk)), (k1, .inl (cI, 4004, .inl g1)), (k2, .inl (cI, 4004, .inl g2)), (qe, .inr (9, fs0z_3)), (qd, .inr (8, fs0z_11)), (qa, .inr (0, fs0z_19))] H := hP
  have hD : va_D A [(h0, .inr (5, fs_27)), (qy, .inr (1, fsy)), (ql, .inr (2, fsl)), (a1, .inl (cI, 2100, .inl f1)), (a2, .inl (cI, 2100, .inl f2)), (a3, .inl (cI, 2100, .inl f3)), (a4, .inl (cI, 2100, .inl f4)), (a5, .inl (cI, 2100, .inl f5)), (qk, .inl (cI, 8008, .inl fk)), (k1, .inl (cI, 4004, .inl g1)), (k2, .inl (cI, 4004, .inl g2)), (qe, .inr (9, fs0z_3)), (qd, .inr (8, fs0z_11)), (qa, .inr (0, fs0z_19))] := hD
  refine lv_aload_n hx hb dX5_program_26 rfl (lv_at hl 0 rfl) ?_
  refine lv_iconst (v := 0) hx hb dX5_program_27 (by decide) ?_
  refine va_put (D := (dC, dI)) (ci := 5) (v := .int 0) (ty := .int) (C := RX5) (T := TX5) (N := 10) hx hb hts hin_X5 tyX5 tyX5_ok nmX5 hown hK hP hD hS 0 rfl rfl 9 (by decide) (hts (.fieldLink RX5 63 "NeedHouse$Parser" "signSize" "I") (List.mem_of_getElem? (i := 29) rfl)) (fun _ h9 => h9) rfl (by decide +kernel) rfl rfl (by rw [hF_25.1]; decide) dX5_program_28 (fun H locs hP hD hS => ?_)
  have hP : va_P (dC, dI) vwCl [(h0, .inr (5, (fs_27.set 9 (.int 0)))), (qy, .inr (1, fsy)), (ql, .inr (2, fsl)), (a1, .inl (cI, 2100, .inl f1)), (a2, .inl (cI, 2100, .inl f2)), (a3, .inl (cI, 2100, .inl f3)), (a4, .inl (cI, 2100, .inl f4)), (a5, .inl (cI, 2100, .inl f5)), (qk, .inl (cI, 8008, .inl fk)), (k1, .inl (cI, 4004, .inl g1)), (k2, .inl (cI, 4004, .inl g2)), (qe, .inr (9, fs0z_3)), (qd, .inr (8, fs0z_11)), (qa, .inr (0, fs0z_19))] H := hP
  have hD : va_D A [(h0, .inr (5, (fs_27.set 9 (.int 0)))), (qy, .inr (1, fsy)), (ql, .inr (2, fsl)), (a1, .inl (cI, 2100, .inl f1)), (a2, .inl (cI, 2100, .inl f2)), (a3, .inl (cI, 2100, .inl f3)), (a4, .inl (cI, 2100, .inl f4)), (a5, .inl (cI, 2100, .inl f5)), (qk, .inl (cI, 8008, .inl fk)), (k1, .inl (cI, 4004, .inl g1)), (k2, .inl (cI, 4004, .inl g2)), (qe, .inr (9, fs0z_3)), (qd, .inr (8, fs0z_11)), (qa, .inr (0, fs0z_19))] := hD
  have hF_28 := hF_25.set 9 (.int 0) (l' := [(9, .int 0), (8, .int 0), (2, .ref qe), (3, .ref qd), (4, .ref qa), (1, .ref qy)]) (by decide) rfl
  have hE_29 := hE_26.set 9 (.int 0)
  generalize fs_27.set 9 (.int 0) = fs_30 at hP hD hF_28 hE_29
  have hP : va_P (dC, dI) vwCl [(h0, .inr (5, fs_30)), (qy, .inr (1, fsy)), (ql, .inr (2, fsl)), (a1, .inl (cI, 2100, .inl f1)), (a2, .inl (cI, 2100, .inl f2)), (a3, .inl (cI, 2100, .inl f3)), (a4, .inl (cI, 2100, .inl f4)), (a5, .inl (cI, 2100, .inl f5)), (qk, .inl (cI, 8008, .inl fk)), (k1, .inl (cI, 4004, .inl g1)), (k2, .inl (cI, 4004, .inl g2)), (qe, .inr (9, fs0z_3)), (qd, .inr (8, fs0z_11)), (qa, .inr (0, fs0z_19))] H := hP
  have hD : va_D A [(h0, .inr (5, fs_30)), (qy, .inr (1, fsy)), (ql, .inr (2, fsl)), (a1, .inl (cI, 2100, .inl f1)), (a2, .inl (cI, 2100, .inl f2)), (a3, .inl (cI, 2100, .inl f3)), (a4, .inl (cI, 2100, .inl f4)), (a5, .inl (cI, 2100, .inl f5)), (qk, .inl (cI, 8008, .inl fk)), (k1, .inl (cI, 4004, .inl g1)), (k2, .inl (cI, 4004, .inl g2)), (qe, .inr (9, fs0z_3)), (qd, .inr (8, fs0z_11)), (qa, .inr (0, fs0z_19))] := hD
  refine lv_aload_n hx hb dX5_program_31 rfl (lv_at hl 0 rfl) ?_
  refine va_get (D := (dC, dI)) (ci := 5) (v := .ref qd) (C := RX5) (T := TX5) (N := 10) hx hb hts hin_X5 hown hK hP 0 rfl rfl 3 (by decide) (hts (.fieldLink RX5 31 "NeedHouse$Parser" "told" "LNeedHouse$Told;") (List.mem_of_getElem? (i := 10) rfl)) (fun _ h9 => h9) (hF_28.at 3 rfl) dX5_program_32 ?_
  refine lv_iconst (v := (-1)) hx hb dX5_program_35 (by decide) ?_
  refine lv_iconst (v := (-1)) hx hb dX5_program_36 (by decide) ?_
  have hPc := hP.sub (ws' := [(qd, .inr (8, fs0z_11)), (a1, .inl (cI, 2100, .inl f1)), (a2, .inl (cI, 2100, .inl f2)), (a3, .inl (cI, 2100, .inl f3)), (a4, .inl (cI, 2100, .inl f4)), (a5, .inl (cI, 2100, .inl f5))]) [12, 3, 4, 5, 6, 7] rfl
  have hDc := hD.sub (ws' := [(qd, .inr (8, fs0z_11)), (a1, .inl (cI, 2100, .inl f1)), (a2, .inl (cI, 2100, .inl f2)), (a3, .inl (cI, 2100, .inl f3)), (a4, .inl (cI, 2100, .inl f4)), (a5, .inl (cI, 2100, .inl f5))]) [12, 3, 4, 5, 6, 7] (by decide) rfl
  have hKc := hK.sub (tys' := [(cI, .int)]) [0] rfl
  have hFc := va_free (wc := [(qd, .inr (8, fs0z_11)), (a1, .inl (cI, 2100, .inl f1)), (a2, .inl (cI, 2100, .inl f2)), (a3, .inl (cI, 2100, .inl f3)), (a4, .inl (cI, 2100, .inl f4)), (a5, .inl (cI, 2100, .inl f5))]) hD hS hA [12, 3, 4, 5, 6, 7] rfl
  refine va_calli (va_runV (As := [.int (-1), .int (-1)]) (rest := []) ⟨hx, hb, hml, hown, hts⟩ (c_X8_openScope l dC dI H.size cI qd fs0z_11 a1 f1 a2 f2 a3 f3 a4 f4 a5 f5 (hF_15.sub [0, 2, 3, 4, 5, 6] rfl)) (cwV 2 hts g_c_X5_program_c_X8_openScope_37 rfl rfl rfl (by decide +kernel) ⟨Nat.le_of_ble_eq_true rfl, Nat.le_of_ble_eq_true rfl⟩) ⟨fun a U g mk q => by obtain ⟨q0, q1, qP, qK, qD⟩ := q; exact ⟨q0, q1, qP, va_K.moved (u := U) (U := U.calling g mk a) (Vm.Alike.refl U.vm) qK, qD⟩, va_recv hKc hPc (ci := 8) (q0 := 0) rfl rfl, fun U hU hW => ⟨rfl, by rw [hU], by rw [hU]; exact hPc, va_K.moved hW.alike hKc, hDc.weaken (fun _ _ _ _ => trivial)⟩⟩ rfl rfl hl.1 rfl (lv_room (Nat.le_of_ble_eq_true rfl)) dX5_program_37 ⟨show 0 + 0 ≤ 0 by decide, show 0 + 0 ≤ 0 by decide⟩) hS (fun q _ h => hFc q h) hFc (fun r_31 u t H1 locs ht hvm hw hB hz1 hk1 hS => ?_)
  obtain ⟨fs0z_33, f1z_34, f2z_35, f3z_36, f4z_37, f5z_38⟩ := u
  obtain ⟨hP1, hK1, hD1⟩ := hB
  rw [ht] at hP1
  have hK1 := va_K.moved hvm.symm hK1
  try dsimp only at hw hP1 hK1 hD1
  obtain ⟨hr_39, hF_40, hE_41, hA_42⟩ := hw
  obtain ⟨hP, hD⟩ := va_join (wr := [(h0, .inr (5, fs_30)), (qy, .inr (1, fsy)), (ql, .inr (2, fsl)), (qk, .inl (cI, 8008, .inl fk)), (k1, .inl (cI, 4004, .inl g1)), (k2, .inl (cI, 4004, .inl g2)), (qe, .inr (9, fs0z_3)), (qa, .inr (0, fs0z_19))]) (w1 := [(qd, .inr (8, fs0z_33)), (a1, .inl (cI, 2100, .inl f1z_34)), (a2, .inl (cI, 2100, .inl f2z_35)), (a3, .inl (cI, 2100, .inl f3z_36)), (a4, .inl (cI, 2100, .inl f4z_37)), (a5, .inl (cI, 2100, .inl f5z_38))]) hP hD [12, 3, 4, 5, 6, 7] [0, 1, 2, 8, 9, 10, 11, 13] rfl rfl (by decide) (by decide) hk1 hFc hP1 hD1
  generalize H1 = H at hP hS ⊢
  have hK := (hK.sub (tys' := []) [] rfl).app hK1
  have hK : va_K (dC, dI) vwCl [(cI, .int)] s := hK
  have hP : va_P (dC, dI) vwCl [(h0, .inr (5, fs_30)), (qy, .inr (1, fsy)), (ql, .inr (2, fsl)), (qk, .inl (cI, 8008, .inl fk)), (k1, .inl (cI, 4004, .inl g1)), (k2, .inl (cI, 4004, .inl g2)), (qe, .inr (9, fs0z_3)), (qa, .inr (0, fs0z_19)), (qd, .inr (8, fs0z_33)), (a1, .inl (cI, 2100, .inl f1z_34)), (a2, .inl (cI, 2100, .inl f2z_35)), (a3, .inl (cI, 2100, .inl f3z_36)), (a4, .inl (cI, 2100, .inl f4z_37)), (a5, .inl (cI, 2100, .inl f5z_38))] H := hP
  have hD : va_D A [(h0, .inr (5, fs_30)), (qy, .inr (1, fsy)), (ql, .inr (2, fsl)), (qk, .inl (cI, 8008, .inl fk)), (k1, .inl (cI, 4004, .inl g1)), (k2, .inl (cI, 4004, .inl g2)), (qe, .inr (9, fs0z_3)), (qa, .inr (0, fs0z_19)), (qd, .inr (8, fs0z_33)), (a1, .inl (cI, 2100, .inl f1z_34)), (a2, .inl (cI, 2100, .inl f2z_35)), (a3, .inl (cI, 2100, .inl f3z_36)), (a4, .inl (cI, 2100, .inl f4z_37)), (a5, .inl (cI, 2100, .inl f5z_38))] := hD
  have hF_43 := hF_15.same hE_41 (l' := [(16, .int 0), (9, .ref a1), (10, .ref a2), (11, .ref a3), (12, .ref a4), (13, .ref a5)]) rfl
  have hF_44 := hF_40.app hF_43
  have hE_45 := hE_16.trans hE_41
  subst hr_39
  refine lv_pop hx hb dX5_program_40 rfl ?_
  refine lv_aload_n hx hb dX5_program_41 rfl (lv_at hl 0 rfl) ?_
  refine va_get (D := (dC, dI)) (ci := 5) (v := .ref qy) (C := RX5) (T := TX5) (N := 10) hx hb hts hin_X5 hown hK hP 0 rfl rfl 1 (by decide) (hts (.fieldLink RX5 44 "NeedHouse$Parser" "layout" "LNeedHouse$Layout;") (List.mem_of_getElem? (i := 39) rfl)) (fun _ h9 => h9) (hF_28.at 5 rfl) dX5_program_42 ?_
  have hPc := hP.sub (ws' := [(qy, .inr (1, fsy)), (ql, .inr (2, fsl)), (qk, .inl (cI, 8008, .inl fk)), (k1, .inl (cI, 4004, .inl g1)), (k2, .inl (cI, 4004, .inl g2))]) [1, 2, 3, 4, 5] rfl
  have hDc := hD.sub (ws' := [(qy, .inr (1, fsy)), (ql, .inr (2, fsl)), (qk, .inl (cI, 8008, .inl fk)), (k1, .inl (cI, 4004, .inl g1)), (k2, .inl (cI, 4004, .inl g2))]) [1, 2, 3, 4, 5] (by decide) rfl
  have hKc := hK.sub (tys' := [(cI, .int)]) [0] rfl
  have hFc := va_free (wc := [(qy, .inr (1, fsy)), (ql, .inr (2, fsl)), (qk, .inl (cI, 8008, .inl fk)), (k1, .inl (cI, 4004, .inl g1)), (k2, .inl (cI, 4004, .inl g2))]) hD hS hA [1, 2, 3, 4, 5] rfl
  refine va_callv (va_runV (As := []) (rest := []) ⟨hx, hb, hml, hown, hts⟩ (c_X1_open l dC dI H.size cI qy fsy z9 z3 z4 z5 z6 z8 z7 ql fsl qk fk k1 g1 k2 g2 (hFy.sub [0, 1, 2, 3, 4, 5, 6, 7, 8] rfl) (hFl.sub [0, 1] rfl) (hkg1_0) (hkg2_0)) (cwV 0 hts g_c_X5_program_c_X1_open_45 rfl rfl rfl (by decide +kernel) ⟨Nat.le_of_ble_eq_true rfl, Nat.le_of_ble_eq_true rfl⟩) ⟨fun a U g mk q => by obtain ⟨q0, q1, qP, qK, qD⟩ := q; exact ⟨q0, q1, qP, va_K.moved (u := U) (U := U.calling g mk a) (Vm.Alike.refl U.vm) qK, qD⟩, va_recv hKc hPc (ci := 1) (q0 := 0) rfl rfl, fun U hU hW => ⟨rfl, by rw [hU], by rw [hU]; exact hPc, va_K.moved hW.alike hKc, hDc.weaken (fun _ _ _ _ => trivial)⟩⟩ rfl rfl hl.1 rfl (lv_room (Nat.le_of_ble_eq_true rfl)) dX5_program_45 ⟨show 0 + 0 ≤ 0 by decide, show 0 + 0 ≤ 0 by decide⟩) hS (fun q _ h => hFc q h) hFc (fun u t H1 locs ht hvm hw hB hz1 hk1 hS => ?_)
  obtain ⟨fs0z_48, fkz_49⟩ := u
  obtain ⟨hP1, hK1, hD1⟩ := hB
  rw [ht] at hP1
  have hK1 := va_K.moved hvm.symm hK1
  try dsimp only at hw hP1 hK1 hD1
  obtain ⟨hF_50, hE_51⟩ := hw
  obtain ⟨hP, hD⟩ := va_join (wr := [(h0, .inr (5, fs_30)), (qe, .inr (9, fs0z_3)), (qa, .inr (0, fs0z_19)), (qd, .inr (8, fs0z_33)), (a1, .inl (cI, 2100, .inl f1z_34)), (a2, .inl (cI, 2100, .inl f2z_35)), (a3, .inl (cI, 2100, .inl f3z_36)), (a4, .inl (cI, 2100, .inl f4z_37)), (a5, .inl (cI, 2100, .inl f5z_38))]) (w1 := [(qy, .inr (1, fs0z_48)), (ql, .inr (2, fsl)), (qk, .inl (cI, 8008, .inl fkz_49)), (k1, .inl (cI, 4004, .inl g1)), (k2, .inl (cI, 4004, .inl g2))]) hP hD [1, 2, 3, 4, 5] [0, 6, 7, 8, 9, 10, 11, 12, 13] rfl rfl (by decide) (by decide) hk1 hFc hP1 hD1
  generalize H1 = H at hP hS ⊢
  have hK := (hK.sub (tys' := []) [] rfl).app hK1
  have hK : va_K (dC, dI) vwCl [(cI, .int)] s := hK
  have hP : va_P (dC, dI) vwCl [(h0, .inr (5, fs_30)), (qe, .inr (9, fs0z_3)), (qa, .inr (0, fs0z_19)), (qd, .inr (8, fs0z_33)), (a1, .inl (cI, 2100, .inl f1z_34)), (a2, .inl (cI, 2100, .inl f2z_35)), (a3, .inl (cI, 2100, .inl f3z_36)), (a4, .inl (cI, 2100, .inl f4z_37)), (a5, .inl (cI, 2100, .inl f5z_38)), (qy, .inr (1, fs0z_48)), (ql, .inr (2, fsl)), (qk, .inl (cI, 8008, .inl fkz_49)), (k1, .inl (cI, 4004, .inl g1)), (k2, .inl (cI, 4004, .inl g2))] H := hP
  have hD : va_D A [(h0, .inr (5, fs_30)), (qe, .inr (9, fs0z_3)), (qa, .inr (0, fs0z_19)), (qd, .inr (8, fs0z_33)), (a1, .inl (cI, 2100, .inl f1z_34)), (a2, .inl (cI, 2100, .inl f2z_35)), (a3, .inl (cI, 2100, .inl f3z_36)), (a4, .inl (cI, 2100, .inl f4z_37)), (a5, .inl (cI, 2100, .inl f5z_38)), (qy, .inr (1, fs0z_48)), (ql, .inr (2, fsl)), (qk, .inl (cI, 8008, .inl fkz_49)), (k1, .inl (cI, 4004, .inl g1)), (k2, .inl (cI, 4004, .inl g2))] := hD
  have hF_52 := hFy.same hE_51 (l' := [(0, .ref ql), (1, .ref qk)]) rfl
  have hF_53 := hF_50.app hF_52
  have hE_54 := (sameF.rf (f := fsy)).trans hE_51
  refine lv_iconst (v := 0) hx hb dX5_program_48 (by decide) ?_
  refine lv_istore_n (lv' := [(1, .int 0), (0, .ref h0)]) hx hb dX5_program_49 rfl hl (by decide) rfl (fun ls hl => ?_)
  refine lv_iload_n hx hb dX5_program_50 rfl (lv_at hl 0 rfl) ?_
  refine lv_ldc (v := 1000000) hx hb hown (hts (.constant RX5 73 (1000000)) (List.mem_of_getElem? (i := 82) rfl)) dX5_program_51 ?_
  refine lv_icmp_ge (tgt := 121) hx hb dX5_program_53 (by decide) (fun c_55 => absurd c_55 (by decide)) (fun _ => ?_)
  refine lv_aload_n hx hb dX5_program_56 rfl (lv_at hl 1 rfl) ?_
  refine va_get (D := (dC, dI)) (ci := 5) (v := .ref qy) (C := RX5) (T := TX5) (N := 10) hx hb hts hin_X5 hown hK hP 0 rfl rfl 1 (by decide) (hts (.fieldLink RX5 44 "NeedHouse$Parser" "layout" "LNeedHouse$Layout;") (List.mem_of_getElem? (i := 39) rfl)) (fun _ h9 => h9) (hF_28.at 5 rfl) dX5_program_57 ?_
  refine va_get (D := (dC, dI)) (ci := 1) (v := .int 0) (C := RX1) (T := TX1) (N := 9) hx hb hts hin_X1 hown hK hP 9 rfl rfl 8 (by decide) (hts (.fieldLink RX5 74 "NeedHouse$Layout" "now" "I") (List.mem_of_getElem? (i := 83) rfl)) (fun _ h9 => h9) (hF_53.at 6 rfl) dX5_program_60 ?_
  refine lv_if_eq (tgt := 121) hx hb dX5_program_63 (by decide) (fun _ => ?_) (fun c_56 => absurd (by decide) c_56)
  have hP9 := hP.sub (ws' := [(h0, .inr (5, fs_30)), (qe, .inr (9, fs0z_3)), (qd, .inr (8, fs0z_33)), (qa, .inr (0, fs0z_19)), (qy, .inr (1, fs0z_48)), (ql, .inr (2, fsl)), (a1, .inl (cI, 2100, .inl f1z_34)), (a2, .inl (cI, 2100, .inl f2z_35)), (a3, .inl (cI, 2100, .inl f3z_36)), (a4, .inl (cI, 2100, .inl f4z_37)), (a5, .inl (cI, 2100, .inl f5z_38)), (qk, .inl (cI, 8008, .inl fkz_49)), (k1, .inl (cI, 4004, .inl g1)), (k2, .inl (cI, 4004, .inl g2))]) [0, 1, 3, 2, 9, 10, 4, 5, 6, 7, 8, 11, 12, 13] rfl
  have hD9 := hD.sub (ws' := [(h0, .inr (5, fs_30)), (qe, .inr (9, fs0z_3)), (qd, .inr (8, fs0z_33)), (qa, .inr (0, fs0z_19)), (qy, .inr (1, fs0z_48)), (ql, .inr (2, fsl)), (a1, .inl (cI, 2100, .inl f1z_34)), (a2, .inl (cI, 2100, .inl f2z_35)), (a3, .inl (cI, 2100, .inl f3z_36)), (a4, .inl (cI, 2100, .inl f4z_37)), (a5, .inl (cI, 2100, .inl f5z_38)), (qk, .inl (cI, 8008, .inl fkz_49)), (k1, .inl (cI, 4004, .inl g1)), (k2, .inl (cI, 4004, .inl g2))]) [0, 1, 3, 2, 9, 10, 4, 5, 6, 7, 8, 11, 12, 13] (by decide) rfl
  have hK9 := hK.sub (tys' := [(cI, .int)]) [0] rfl
  exact W.vret hx hb hr (fun t ht hW => ⟨⟨((fs_30, fs0z_3, fs0z_33, fs0z_19, fs0z_48, f1z_34, f2z_35, f3z_36, f4z_37, f5z_38, fkz_49)), rfl, ⟨hE_29.mono (by decide), hF_7.sub [0, 1] rfl, hE_8.mono (by decide), hF_44.sub [0] rfl, hE_45.mono (by decide), hF_23.sub [0, 1] rfl, hE_24.mono (by decide), hE_54.mono (by decide), hA_42⟩, by rw [ht]; exact hP9, va_K.moved hW.alike hK9, hD9⟩, hS.F ht⟩) hS.2.2 dX5_program_121
def pw_c_X0_check : List Cond := .code yX0_check cX0_check 3 none :: ([.fieldLink RX0 50 "NeedHouse$Datas" "typeOf" "[I", .methodLink RX0 86 yJ7_fill_53178, .static yJ7_fill_53178, .initialized RJ7, .code yJ7_fill_53178 cJ7_fill_53178 4 none, .fieldLink RX0 53 "NeedHouse$Datas" "conOf" "[I", .fieldLink RX0 56 "NeedHouse$Datas" "mark" "[I", .fieldLink RX0 67 "NeedHouse$Datas" "size" "I", .fieldLink RX0 63 "NeedHouse$Datas" "cons" "I"] ++ (wsX00 ++ []))
set_option maxRecDepth 20000 in
theorem g_c_X0_check_c_J7_fill_53178_5 : GoodIn pw_c_X0_check (va_wsS RX0 86 yJ7_fill_53178 pw_c_J7_fill_53178) := goodIn_r _ [2, 3, 4, 5] rfl (by decide +kernel)
set_option maxRecDepth 20000 in
theorem g_c_X0_check_c_J7_fill_53178_13 : GoodIn pw_c_X0_check (va_wsS RX0 86 yJ7_fill_53178 pw_c_J7_fill_53178) := goodIn_r _ [2, 3, 4, 5] rfl (by decide +kernel)
set_option maxRecDepth 20000 in
theorem g_c_X0_check_c_J7_fill_53178_21 : GoodIn pw_c_X0_check (va_wsS RX0 86 yJ7_fill_53178 pw_c_J7_fill_53178) := goodIn_r _ [2, 3, 4, 5] rfl (by decide +kernel)
set_option maxHeartbeats 4000000 in
set_option maxRecDepth 100000 in
theorem c_X0_check (l : Launch) (dC : Nat → ClassId) (dI : Nat → Nat → Nat) (sz : Nat) (cI : ClassId) (h0 : Nat) (fs0 : List Value) (b1 : Nat) (f1 : Nat → Int32) (b2 : Nat) (f2 : Nat → Int32) (b3 : Nat) (f3 : Nat → Int32) (hF0 : hasF fs0 20 [(13, .ref b1), (14, .ref b2), (15, .ref b3), (16, .int 0), (17, .int 5)]) : Met l yX0_check pw_c_X0_check ({ frames := 1, cells := 0, slots := 0, locals := 23 }) (va_Pc [.ref h0] (fun U => U.heap.size = sz ∧ va_P (dC, dI) vwCl [(h0, .inr (0, fs0)), (b1, .inl (cI, 2100, .inl f1)), (b2, .inl (cI, 2100, .inl f2)), (b3, .inl (cI, 2100, .inl f3))] U.heap ∧ va_K (dC, dI) vwCl [(cI, .int)] U ∧ va_D (fun _ => True) [(h0, .inr (0, fs0)), (b1, .inl (cI, 2100, .inl f1)), (b2, .inl (cI, 2100, .inl f2)), (b3, .inl (cI, 2100, .inl f3))])) (va_Qv (fun (u : (Nat → Int32) × (Nat → Int32) × (Nat → Int32)) => True) (fun (u : (Nat → Int32) × (Nat → Int32) × (Nat → Int32)) (t : State) => va_P (dC, dI) vwCl [(h0, .inr (0, fs0)), (b1, .inl (cI, 2100, .inl u.1)), (b2, .inl (cI, 2100, .inl u.2.1)), (b3, .inl (cI, 2100, .inl u.2.2))] t.heap ∧ va_K (dC, dI) vwCl [(cI, .int)] t ∧ va_D (va_A [(h0, .inr (0, fs0)), (b1, .inl (cI, 2100, .inl f1)), (b2, .inl (cI, 2100, .inl f2)), (b3, .inl (cI, 2100, .inl f3))] sz) [(h0, .inr (0, fs0)), (b1, .inl (cI, 2100, .inl u.1)), (b2, .inl (cI, 2100, .inl u.2.1)), (b3, .inl (cI, 2100, .inl u.2.2))]) (va_A [(h0, .inr (0, fs0)), (b1, .inl (cI, 2100, .inl f1)), (b2, .inl (cI, 2100, .inl f2)), (b3, .inl (cI, 2100, .inl f3))] sz)) 0 0 (va_A [(h0, .inr (0, fs0)), (b1, .inl (cI, 2100, .inl f1)), (b2, .inl (cI, 2100, .inl f2)), (b3, .inl (cI, 2100, .inl f3))] sz) := by
  refine Met.ofW (cc := cX0_check) (maxL := 3) (ret := none) (by decide) rfl ?_
  intro p e s m args below meth c s₁ B hml hv
  obtain ⟨rfl, hsz, hP, hK, hD0⟩ := hv
  have hx := B.exec
  have hb := B.bytes
  have hr := B.returns
  have hts := atoms_spec (ws := pw_c_X0_check) B.pre
  have hown : s.vm.findClass RX0 = some m.cls := findClass_of_methodNamed B.named
  have hlocks := B.notSynchronized
  have hin_X0 : ∀ w ∈ u_ws RX0 TX0 20, w ∈ pw_c_X0_check := fun w h => List.mem_cons_of_mem _ (List.mem_append_right _ (List.mem_append_left _ h))
  subst hsz
  have hD := hD0.self (sz := s.heap.size)
  generalize hAe : va_A [(h0, .inr (0, fs0)), (b1, .inl (cI, 2100, .inl f1)), (b2, .inl (cI, 2100, .inl f2)), (b3, .inl (cI, 2100, .inl f3))] s.heap.size = A at hD ⊢
  have hA : ∀ q : Nat, s.heap.size ≤ q → A q := fun q h => by rw [← hAe]; exact Or.inr h
  have hS : va_S A s.heap s.heap [] := va_S.rf
  have hP : va_P (dC, dI) vwCl [(h0, .inr (0, fs0)), (b1, .inl (cI, 2100, .inl f1)), (b2, .inl (cI, 2100, .inl f2)), (b3, .inl (cI, 2100, .inl f3))] s.heap := hP
  have hl := lv_entry ([.ref h0]) (n := 3) (Nat.le_of_ble_eq_true rfl)
  rw [lg_entry_eq]
  generalize (lg_sl ([.ref h0]) ++ List.replicate (3 - (lg_sl ([.ref h0])).length) Slot.unset).toArray = ls at hl ⊢
  have hl : lv_has ls 3 [(0, .ref h0)] := hl
  refine lv_aload_n hx hb dX0_check_0 rfl (lv_at hl 0 rfl) ?_
  refine va_get (D := (dC, dI)) (ci := 0) (v := .ref b1) (C := RX0) (T := TX0) (N := 20) hx hb hts hin_X0 hown hK hP 0 rfl rfl 13 (by decide) (hts (.fieldLink RX0 50 "NeedHouse$Datas" "typeOf" "[I") (List.mem_of_getElem? (i := 1) rfl)) (fun _ h9 => h9) (hF0.at 0 rfl) dX0_check_1 ?_
  refine lv_iconst (v := (-1)) hx hb dX0_check_4 (by decide) ?_
  have hPc := hP.sub (ws' := [(b1, .inl (cI, 2100, .inl f1))]) [1] rfl
  have hDc := hD.sub (ws' := [(b1, .inl (cI, 2100, .inl f1))]) [1] (by decide) rfl
  have hKc := hK.sub (tys' := [(cI, .int)]) [0] rfl
  have hFc := va_free (wc := [(b1, .inl (cI, 2100, .inl f1))]) hD hS hA [1] rfl
  refine va_callv (va_runS (As := [.ref b1, .int (-1)]) (rest := []) ⟨hx, hb, hml, hown, hts⟩ (c_J7_fill_53178 l dC dI s.heap.size b1 cI 2100 f1 (-1) (by decide)) (va_cwS 2 hts g_c_X0_check_c_J7_fill_53178_5 rfl rfl rfl (by decide +kernel) ⟨Nat.le_of_ble_eq_true rfl, Nat.le_of_ble_eq_true rfl⟩) ⟨fun a U g mk q => by obtain ⟨q0, q1, qP, qK, qD⟩ := q; exact ⟨q0, q1, qP, va_K.moved (u := U) (U := U.calling g mk a) (Vm.Alike.refl U.vm) qK, qD⟩, fun U hU hW => ⟨rfl, by rw [hU], by rw [hU]; exact hPc, va_K.moved hW.alike hKc, hDc.weaken (fun _ _ _ _ => trivial)⟩⟩ rfl rfl hl.1 rfl (lv_room (Nat.le_of_ble_eq_true rfl)) dX0_check_5 ⟨show 0 + 0 ≤ 0 by decide, show 0 + 0 ≤ 0 by decide⟩) hS (fun q _ h => hFc q h) hFc (fun u t H1 locs ht hvm hw hB hz1 hk1 hS => ?_)
  obtain ⟨fz_3, rfl⟩ : ∃ z, z = u := ⟨_, rfl⟩
  obtain ⟨hP1, hK1, hD1⟩ := hB
  rw [ht] at hP1
  have hK1 := va_K.moved hvm.symm hK1
  try dsimp only at hw hP1 hK1 hD1
  have hX_4 := hw
  obtain ⟨hP, hD⟩ := va_join (wr := [(h0, .inr (0, fs0)), (b2, .inl (cI, 2100, .inl f2)), (b3, .inl (cI, 2100, .inl f3))]) (w1 := [(b1, .inl (cI, 2100, .inl fz_3))]) hP hD [1] [0, 2, 3] rfl rfl (by decide) (by decide) hk1 hFc hP1 hD1
  generalize H1 = H at hP hS ⊢
  have hK := (hK.sub (tys' := []) [] rfl).app hK1
  have hK : va_K (dC, dI) vwCl [(cI, .int)] s := hK
  have hP : va_P (dC, dI) vwCl [(h0, .inr (0, fs0)), (b2, .inl (cI, 2100, .inl f2)), (b3, .inl (cI, 2100, .inl f3)), (b1, .inl (cI, 2100, .inl fz_3))] H := hP
  have hD : va_D A [(h0, .inr (0, fs0)), (b2, .inl (cI, 2100, .inl f2)), (b3, .inl (cI, 2100, .inl f3)), (b1, .inl (cI, 2100, .inl fz_3))] := hD
  refine lv_aload_n hx hb dX0_check_8 rfl (lv_at hl 0 rfl) ?_
  refine va_get (D := (dC, dI)) (ci := 0) (v := .ref b2) (C := RX0) (T := TX0) (N := 20) hx hb hts hin_X0 hown hK hP 0 rfl rfl 14 (by decide) (hts (.fieldLink RX0 53 "NeedHouse$Datas" "conOf" "[I") (List.mem_of_getElem? (i := 6) rfl)) (fun _ h9 => h9) (hF0.at 1 rfl) dX0_check_9 ?_
  refine lv_iconst (v := (-1)) hx hb dX0_check_12 (by decide) ?_
  have hPc := hP.sub (ws' := [(b2, .inl (cI, 2100, .inl f2))]) [1] rfl
  have hDc := hD.sub (ws' := [(b2, .inl (cI, 2100, .inl f2))]) [1] (by decide) rfl
  have hKc := hK.sub (tys' := [(cI, .int)]) [0] rfl
  have hFc := va_free (wc := [(b2, .inl (cI, 2100, .inl f2))]) hD hS hA [1] rfl
  refine va_callv (va_runS (As := [.ref b2, .int (-1)]) (rest := []) ⟨hx, hb, hml, hown, hts⟩ (c_J7_fill_53178 l dC dI H.size b2 cI 2100 f2 (-1) (by decide)) (va_cwS 2 hts g_c_X0_check_c_J7_fill_53178_13 rfl rfl rfl (by decide +kernel) ⟨Nat.le_of_ble_eq_true rfl, Nat.le_of_ble_eq_true rfl⟩) ⟨fun a U g mk q => by obtain ⟨q0, q1, qP, qK, qD⟩ := q; exact ⟨q0, q1, qP, va_K.moved (u := U) (U := U.calling g mk a) (Vm.Alike.refl U.vm) qK, qD⟩, fun U hU hW => ⟨rfl, by rw [hU], by rw [hU]; exact hPc, va_K.moved hW.alike hKc, hDc.weaken (fun _ _ _ _ => trivial)⟩⟩ rfl rfl hl.1 rfl (lv_room (Nat.le_of_ble_eq_true rfl)) dX0_check_13 ⟨show 0 + 0 ≤ 0 by decide, show 0 + 0 ≤ 0 by decide⟩) hS (fun q _ h => hFc q h) hFc (fun u t H1 locs ht hvm hw hB hz1 hk1 hS => ?_)
  obtain ⟨fz_7, rfl⟩ : ∃ z, z = u := ⟨_, rfl⟩
  obtain ⟨hP1, hK1, hD1⟩ := hB
  rw [ht] at hP1
  have hK1 := va_K.moved hvm.symm hK1
  try dsimp only at hw hP1 hK1 hD1
  have hX_8 := hw
  obtain ⟨hP, hD⟩ := va_join (wr := [(h0, .inr (0, fs0)), (b3, .inl (cI, 2100, .inl f3)), (b1, .inl (cI, 2100, .inl fz_3))]) (w1 := [(b2, .inl (cI, 2100, .inl fz_7))]) hP hD [1] [0, 2, 3] rfl rfl (by decide) (by decide) hk1 hFc hP1 hD1
  generalize H1 = H at hP hS ⊢
  have hK := (hK.sub (tys' := []) [] rfl).app hK1
  have hK : va_K (dC, dI) vwCl [(cI, .int)] s := hK
  have hP : va_P (dC, dI) vwCl [(h0, .inr (0, fs0)), (b3, .inl (cI, 2100, .inl f3)), (b1, .inl (cI, 2100, .inl fz_3)), (b2, .inl (cI, 2100, .inl fz_7))] H := hP
  have hD : va_D A [(h0, .inr (0, fs0)), (b3, .inl (cI, 2100, .inl f3)), (b1, .inl (cI, 2100, .inl fz_3)), (b2, .inl (cI, 2100, .inl fz_7))] := hD
  refine lv_aload_n hx hb dX0_check_16 rfl (lv_at hl 0 rfl) ?_
  refine va_get (D := (dC, dI)) (ci := 0) (v := .ref b3) (C := RX0) (T := TX0) (N := 20) hx hb hts hin_X0 hown hK hP 0 rfl rfl 15 (by decide) (hts (.fieldLink RX0 56 "NeedHouse$Datas" "mark" "[I") (List.mem_of_getElem? (i := 7) rfl)) (fun _ h9 => h9) (hF0.at 2 rfl) dX0_check_17 ?_
  refine lv_iconst (v := (-1)) hx hb dX0_check_20 (by decide) ?_
  have hPc := hP.sub (ws' := [(b3, .inl (cI, 2100, .inl f3))]) [1] rfl
  have hDc := hD.sub (ws' := [(b3, .inl (cI, 2100, .inl f3))]) [1] (by decide) rfl
  have hKc := hK.sub (tys' := [(cI, .int)]) [0] rfl
  have hFc := va_free (wc := [(b3, .inl (cI, 2100, .inl f3))]) hD hS hA [1] rfl
  refine va_callv (va_runS (As := [.ref b3, .int (-1)]) (rest := []) ⟨hx, hb, hml, hown, hts⟩ (c_J7_fill_53178 l dC dI H.size b3 cI 2100 f3 (-1) (by decide)) (va_cwS 2 hts g_c_X0_check_c_J7_fill_53178_21 rfl rfl rfl (by decide +kernel) ⟨Nat.le_of_ble_eq_true rfl, Nat.le_of_ble_eq_true rfl⟩) ⟨fun a U g mk q => by obtain ⟨q0, q1, qP, qK, qD⟩ := q; exact ⟨q0, q1, qP, va_K.moved (u := U) (U := U.calling g mk a) (Vm.Alike.refl U.vm) qK, qD⟩, fun U hU hW => ⟨rfl, by rw [hU], by rw [hU]; exact hPc, va_K.moved hW.alike hKc, hDc.weaken (fun _ _ _ _ => trivial)⟩⟩ rfl rfl hl.1 rfl (lv_room (Nat.le_of_ble_eq_true rfl)) dX0_check_21 ⟨show 0 + 0 ≤ 0 by decide, show 0 + 0 ≤ 0 by decide⟩) hS (fun q _ h => hFc q h) hFc (fun u t H1 locs ht hvm hw hB hz1 hk1 hS => ?_)
  obtain ⟨fz_11, rfl⟩ : ∃ z, z = u := ⟨_, rfl⟩
  obtain ⟨hP1, hK1, hD1⟩ := hB
  rw [ht] at hP1
  have hK1 := va_K.moved hvm.symm hK1
  try dsimp only at hw hP1 hK1 hD1
  have hX_12 := hw
  obtain ⟨hP, hD⟩ := va_join (wr := [(h0, .inr (0, fs0)), (b1, .inl (cI, 2100, .inl fz_3)), (b2, .inl (cI, 2100, .inl fz_7))]) (w1 := [(b3, .inl (cI, 2100, .inl fz_11))]) hP hD [1] [0, 2, 3] rfl rfl (by decide) (by decide) hk1 hFc hP1 hD1
  generalize H1 = H at hP hS ⊢
  have hK := (hK.sub (tys' := []) [] rfl).app hK1
  have hK : va_K (dC, dI) vwCl [(cI, .int)] s := hK
  have hP : va_P (dC, dI) vwCl [(h0, .inr (0, fs0)), (b1, .inl (cI, 2100, .inl fz_3)), (b2, .inl (cI, 2100, .inl fz_7)), (b3, .inl (cI, 2100, .inl fz_11))] H := hP
  have hD : va_D A [(h0, .inr (0, fs0)), (b1, .inl (cI, 2100, .inl fz_3)), (b2, .inl (cI, 2100, .inl fz_7)), (b3, .inl (cI, 2100, .inl fz_11))] := hD
  refine lv_aload_n hx hb dX0_check_24 rfl (lv_at hl 0 rfl) ?_
  refine va_get (D := (dC, dI)) (ci := 0) (v := .ref b1) (C := RX0) (T := TX0) (N := 20) hx hb hts hin_X0 hown hK hP 0 rfl rfl 13 (by decide) (hts (.fieldLink RX0 50 "NeedHouse$Datas" "typeOf" "[I") (List.mem_of_getElem? (i := 1) rfl)) (fun _ h9 => h9) (hF0.at 0 rfl) dX0_check_25 ?_
  refine lv_bipush (v := 10) hx hb dX0_check_28 (by decide) ?_
  refine lv_iconst (v := 2) hx hb dX0_check_30 (by decide) ?_
  refine va_iast hx hb hK hP hD hS 1 0 rfl rfl (show vp_in (nI 10) 2100 from vp_in_nI (by decide) (by decide)) dX0_check_31 (fun H locs hP hD hS => ?_)
  have hP : va_P (dC, dI) vwCl [(h0, .inr (0, fs0)), (b1, .inl (cI, 2100, .inl (upd fz_3 (10 : Int32).toNatClampNeg 2))), (b2, .inl (cI, 2100, .inl fz_7)), (b3, .inl (cI, 2100, .inl fz_11))] H := hP
  have hD : va_D A [(h0, .inr (0, fs0)), (b1, .inl (cI, 2100, .inl (upd fz_3 (10 : Int32).toNatClampNeg 2))), (b2, .inl (cI, 2100, .inl fz_7)), (b3, .inl (cI, 2100, .inl fz_11))] := hD
  have hk_14 : (upd fz_3 (10 : Int32).toNatClampNeg 2) 10 = 2 := by rw [show (10 : Int32).toNatClampNeg = 10 from by decide]; exact pk_us
  generalize upd fz_3 (10 : Int32).toNatClampNeg 2 = f_13 at hP hD hk_14
  have hP : va_P (dC, dI) vwCl [(h0, .inr (0, fs0)), (b1, .inl (cI, 2100, .inl f_13)), (b2, .inl (cI, 2100, .inl fz_7)), (b3, .inl (cI, 2100, .inl fz_11))] H := hP
  have hD : va_D A [(h0, .inr (0, fs0)), (b1, .inl (cI, 2100, .inl f_13)), (b2, .inl (cI, 2100, .inl fz_7)), (b3, .inl (cI, 2100, .inl fz_11))] := hD
  refine lv_aload_n hx hb dX0_check_32 rfl (lv_at hl 0 rfl) ?_
  refine va_get (D := (dC, dI)) (ci := 0) (v := .ref b1) (C := RX0) (T := TX0) (N := 20) hx hb hts hin_X0 hown hK hP 0 rfl rfl 13 (by decide) (hts (.fieldLink RX0 50 "NeedHouse$Datas" "typeOf" "[I") (List.mem_of_getElem? (i := 1) rfl)) (fun _ h9 => h9) (hF0.at 0 rfl) dX0_check_33 ?_
  refine lv_bipush (v := 11) hx hb dX0_check_36 (by decide) ?_
  refine lv_iconst (v := 3) hx hb dX0_check_38 (by decide) ?_
  refine va_iast hx hb hK hP hD hS 1 0 rfl rfl (show vp_in (nI 11) 2100 from vp_in_nI (by decide) (by decide)) dX0_check_39 (fun H locs hP hD hS => ?_)
  have hP : va_P (dC, dI) vwCl [(h0, .inr (0, fs0)), (b1, .inl (cI, 2100, .inl (upd f_13 (11 : Int32).toNatClampNeg 3))), (b2, .inl (cI, 2100, .inl fz_7)), (b3, .inl (cI, 2100, .inl fz_11))] H := hP
  have hD : va_D A [(h0, .inr (0, fs0)), (b1, .inl (cI, 2100, .inl (upd f_13 (11 : Int32).toNatClampNeg 3))), (b2, .inl (cI, 2100, .inl fz_7)), (b3, .inl (cI, 2100, .inl fz_11))] := hD
  have hk_16 : (upd f_13 (11 : Int32).toNatClampNeg 3) 11 = 3 := by rw [show (11 : Int32).toNatClampNeg = 11 from by decide]; exact pk_us
  have hk_17 : (upd f_13 (11 : Int32).toNatClampNeg 3) 10 = 2 := by rw [show (11 : Int32).toNatClampNeg = 11 from by decide, pk_un (by decide)]; exact hk_14
  generalize upd f_13 (11 : Int32).toNatClampNeg 3 = f_15 at hP hD hk_16 hk_17
  have hP : va_P (dC, dI) vwCl [(h0, .inr (0, fs0)), (b1, .inl (cI, 2100, .inl f_15)), (b2, .inl (cI, 2100, .inl fz_7)), (b3, .inl (cI, 2100, .inl fz_11))] H := hP
  have hD : va_D A [(h0, .inr (0, fs0)), (b1, .inl (cI, 2100, .inl f_15)), (b2, .inl (cI, 2100, .inl fz_7)), (b3, .inl (cI, 2100, .inl fz_11))] := hD
  refine lv_aload_n hx hb dX0_check_40 rfl (lv_at hl 0 rfl) ?_
  refine va_get (D := (dC, dI)) (ci := 0) (v := .ref b2) (C := RX0) (T := TX0) (N := 20) hx hb hts hin_X0 hown hK hP 0 rfl rfl 14 (by decide) (hts (.fieldLink RX0 53 "NeedHouse$Datas" "conOf" "[I") (List.mem_of_getElem? (i := 6) rfl)) (fun _ h9 => h9) (hF0.at 1 rfl) dX0_check_41 ?_
  refine lv_bipush (v := 12) hx hb dX0_check_44 (by decide) ?_
  refine lv_iconst (v := 0) hx hb dX0_check_46 (by decide) ?_
  refine va_iast hx hb hK hP hD hS 2 0 rfl rfl (show vp_in (nI 12) 2100 from vp_in_nI (by decide) (by decide)) dX0_check_47 (fun H locs hP hD hS => ?_)
  have hP : va_P (dC, dI) vwCl [(h0, .inr (0, fs0)), (b1, .inl (cI, 2100, .inl f_15)), (b2, .inl (cI, 2100, .inl (upd fz_7 (12 : Int32).toNatClampNeg 0))), (b3, .inl (cI, 2100, .inl fz_11))] H := hP
  have hD : va_D A [(h0, .inr (0, fs0)), (b1, .inl (cI, 2100, .inl f_15)), (b2, .inl (cI, 2100, .inl (upd fz_7 (12 : Int32).toNatClampNeg 0))), (b3, .inl (cI, 2100, .inl fz_11))] := hD
  have hk_19 : (upd fz_7 (12 : Int32).toNatClampNeg 0) 12 = 0 := by rw [show (12 : Int32).toNatClampNeg = 12 from by decide]; exact pk_us
  generalize upd fz_7 (12 : Int32).toNatClampNeg 0 = f_18 at hP hD hk_19
  have hP : va_P (dC, dI) vwCl [(h0, .inr (0, fs0)), (b1, .inl (cI, 2100, .inl f_15)), (b2, .inl (cI, 2100, .inl f_18)), (b3, .inl (cI, 2100, .inl fz_11))] H := hP
  have hD : va_D A [(h0, .inr (0, fs0)), (b1, .inl (cI, 2100, .inl f_15)), (b2, .inl (cI, 2100, .inl f_18)), (b3, .inl (cI, 2100, .inl fz_11))] := hD
  refine lv_aload_n hx hb dX0_check_48 rfl (lv_at hl 0 rfl) ?_
  refine va_get (D := (dC, dI)) (ci := 0) (v := .ref b2) (C := RX0) (T := TX0) (N := 20) hx hb hts hin_X0 hown hK hP 0 rfl rfl 14 (by decide) (hts (.fieldLink RX0 53 "NeedHouse$Datas" "conOf" "[I") (List.mem_of_getElem? (i := 6) rfl)) (fun _ h9 => h9) (hF0.at 1 rfl) dX0_check_49 ?_
  refine lv_bipush (v := 13) hx hb dX0_check_52 (by decide) ?_
  refine lv_iconst (v := 1) hx hb dX0_check_54 (by decide) ?_
  refine va_iast hx hb hK hP hD hS 2 0 rfl rfl (show vp_in (nI 13) 2100 from vp_in_nI (by decide) (by decide)) dX0_check_55 (fun H locs hP hD hS => ?_)
  have hP : va_P (dC, dI) vwCl [(h0, .inr (0, fs0)), (b1, .inl (cI, 2100, .inl f_15)), (b2, .inl (cI, 2100, .inl (upd f_18 (13 : Int32).toNatClampNeg 1))), (b3, .inl (cI, 2100, .inl fz_11))] H := hP
  have hD : va_D A [(h0, .inr (0, fs0)), (b1, .inl (cI, 2100, .inl f_15)), (b2, .inl (cI, 2100, .inl (upd f_18 (13 : Int32).toNatClampNeg 1))), (b3, .inl (cI, 2100, .inl fz_11))] := hD
  have hk_21 : (upd f_18 (13 : Int32).toNatClampNeg 1) 13 = 1 := by rw [show (13 : Int32).toNatClampNeg = 13 from by decide]; exact pk_us
  have hk_22 : (upd f_18 (13 : Int32).toNatClampNeg 1) 12 = 0 := by rw [show (13 : Int32).toNatClampNeg = 13 from by decide, pk_un (by decide)]; exact hk_19
  generalize upd f_18 (13 : Int32).toNatClampNeg 1 = f_20 at hP hD hk_21 hk_22
  have hP : va_P (dC, dI) vwCl [(h0, .inr (0, fs0)), (b1, .inl (cI, 2100, .inl f_15)), (b2, .inl (cI, 2100, .inl f_20)), (b3, .inl (cI, 2100, .inl fz_11))] H := hP
  have hD : va_D A [(h0, .inr (0, fs0)), (b1, .inl (cI, 2100, .inl f_15)), (b2, .inl (cI, 2100, .inl f_20)), (b3, .inl (cI, 2100, .inl fz_11))] := hD
  refine lv_iconst (v := 0) hx hb dX0_check_56 (by decide) ?_
  refine lv_istore_n (lv' := [(1, .int 0), (0, .ref h0)]) hx hb dX0_check_57 rfl hl (by decide) rfl (fun ls hl => ?_)
  refine lv_iload_n hx hb dX0_check_58 rfl (lv_at hl 0 rfl) ?_
  refine lv_aload_n hx hb dX0_check_59 rfl (lv_at hl 1 rfl) ?_
  refine va_get (D := (dC, dI)) (ci := 0) (v := .int 0) (C := RX0) (T := TX0) (N := 20) hx hb hts hin_X0 hown hK hP 0 rfl rfl 16 (by decide) (hts (.fieldLink RX0 67 "NeedHouse$Datas" "size" "I") (List.mem_of_getElem? (i := 8) rfl)) (fun _ h9 => h9) (hF0.at 3 rfl) dX0_check_60 ?_
  refine lv_icmp_ge (tgt := 77) hx hb dX0_check_63 (by decide) (fun _ => ?_) (fun c_23 => absurd (by decide) c_23)
  refine lv_iconst (v := 5) hx hb dX0_check_77 (by decide) ?_
  refine lv_istore_n (lv' := [(1, .int 5), (0, .ref h0)]) hx hb dX0_check_78 rfl hl (by decide) rfl (fun ls hl => ?_)
  refine lv_iload_n hx hb dX0_check_79 rfl (lv_at hl 0 rfl) ?_
  refine lv_aload_n hx hb dX0_check_80 rfl (lv_at hl 1 rfl) ?_
  refine va_get (D := (dC, dI)) (ci := 0) (v := .int 5) (C := RX0) (T := TX0) (N := 20) hx hb hts hin_X0 hown hK hP 0 rfl rfl 17 (by decide) (hts (.fieldLink RX0 63 "NeedHouse$Datas" "cons" "I") (List.mem_of_getElem? (i := 9) rfl)) (fun _ h9 => h9) (hF0.at 4 rfl) dX0_check_81 ?_
  refine lv_icmp_ge (tgt := 141) hx hb dX0_check_84 (by decide) (fun _ => ?_) (fun c_24 => absurd (by decide) c_24)
  refine lv_iconst (v := 5) hx hb dX0_check_141 (by decide) ?_
  refine lv_istore_n (lv' := [(1, .int 5), (0, .ref h0)]) hx hb dX0_check_142 rfl hl (by decide) rfl (fun ls hl => ?_)
  refine lv_iload_n hx hb dX0_check_143 rfl (lv_at hl 0 rfl) ?_
  refine lv_aload_n hx hb dX0_check_144 rfl (lv_at hl 1 rfl) ?_
  refine va_get (D := (dC, dI)) (ci := 0) (v := .int 5) (C := RX0) (T := TX0) (N := 20) hx hb hts hin_X0 hown hK hP 0 rfl rfl 17 (by decide) (hts (.fieldLink RX0 63 "NeedHouse$Datas" "cons" "I") (List.mem_of_getElem? (i := 9) rfl)) (fun _ h9 => h9) (hF0.at 4 rfl) dX0_check_145 ?_
  refine lv_icmp_ge (tgt := 162) hx hb dX0_check_148 (by decide) (fun _ => ?_) (fun c_25 => absurd (by decide) c_25)
  have hP9 := hP.sub (ws' := [(h0, .inr (0, fs0)), (b1, .inl (cI, 2100, .inl f_15)), (b2, .inl (cI, 2100, .inl f_20)), (b3, .inl (cI, 2100, .inl fz_11))]) [0, 1, 2, 3] rfl
  have hD9 := hD.sub (ws' := [(h0, .inr (0, fs0)), (b1, .inl (cI, 2100, .inl f_15)), (b2, .inl (cI, 2100, .inl f_20)), (b3, .inl (cI, 2100, .inl fz_11))]) [0, 1, 2, 3] (by decide) rfl
  have hK9 := hK.sub (tys' := [(cI, .int)]) [0] rfl
  exact W.vret hx hb hr (fun t ht hW => ⟨⟨((f_15, f_20, fz_11)), rfl, trivial, by rw [ht]; exact hP9, va_K.moved hW.alike hK9, hD9⟩, hS.F ht⟩) hS.2.2 dX0_check_162
def pw_c_X8_check : List Cond := .code yX8_check cX8_check 4 none :: ([.fieldLink RX8 56 "NeedHouse$Told" "mark" "[I", .methodLink RX8 76 yJ7_fill_53178, .static yJ7_fill_53178, .initialized RJ7, .code yJ7_fill_53178 cJ7_fill_53178 4 none, .fieldLink RX8 67 "NeedHouse$Told" "scopes" "I", .fieldLink RX8 42 "NeedHouse$Told" "first" "[I", .methodLink RX8 86 yX8_mainOf, .instanceMethod yX8_mainOf, .selects RX8 yX8_mainOf yX8_mainOf, .initialized RX8, .code yX8_mainOf cX8_mainOf 2 (some .int), .fieldLink RX8 59 "NeedHouse$Told" "lexemes" "LNeedHouse$Lexemes;", .fieldLink RX8 90 "NeedHouse$Lexemes" "size" "I", .methodLink RX8 82 yX2_note, .instanceMethod yX2_note, .selects RX2 yX2_note yX2_note, .initialized RX2, .code yX2_note cX2_note 3 none, .fieldLink RX2 38 "NeedHouse$Lexemes" "faultKind" "I", .fieldLink RX2 131 "NeedHouse$Lexemes" "faultToken" "I"] ++ (wsX80 ++ (wsX20 ++ [])))
set_option maxRecDepth 20000 in
theorem g_c_X8_check_c_J7_fill_53178_5 : GoodIn pw_c_X8_check (va_wsS RX8 76 yJ7_fill_53178 pw_c_J7_fill_53178) := goodIn_r _ [2, 3, 4, 5] rfl (by decide +kernel)
set_option maxRecDepth 20000 in
theorem g_c_X8_check_c_X8_mainOf_112 : GoodIn pw_c_X8_check (wsV RX8 86 RX8 yX8_mainOf pw_c_X8_mainOf) := goodIn_r _ [8, 9, 10, 11, 12, 7, 22, 23, 24, 25, 26, 27, 28, 29, 30, 31, 32, 33, 34, 35, 36, 37, 38, 39] rfl (by decide +kernel)
set_option maxRecDepth 20000 in
theorem g_c_X8_check_c_X2_note_130 : GoodIn pw_c_X8_check (wsV RX8 82 RX2 yX2_note pw_c_X2_note) := goodIn_r _ [15, 16, 17, 18, 19, 20, 21, 40, 41, 42, 43, 44, 45, 46, 47, 48, 49, 50, 51] rfl (by decide +kernel)
set_option maxHeartbeats 4000000 in
set_option maxRecDepth 100000 in
theorem c_X8_check (l : Launch) (dC : Nat → ClassId) (dI : Nat → Nat → Nat) (sz : Nat) (cI : ClassId) (h0 : Nat) (fs0 : List Value) (ql : Nat) (fsl : List Value) (z1 : Int32) (a3 : Nat) (f3 : Nat → Int32) (a6 : Nat) (f6 : Nat → Int32) (hF0 : hasF fs0 18 [(0, .ref ql), (11, .ref a3), (15, .ref a6), (17, .int 1)]) (hFl : hasF fsl 12 [(7, .int 0), (10, .int 0), (11, .int z1)]) (hkf3_0 : f3 0 = (-1)) : Met l yX8_check pw_c_X8_check ({ frames := 1, cells := 0, slots := 0, locals := 23 }) (va_Pc [.ref h0] (fun U => U.heap.size = sz ∧ va_P (dC, dI) vwCl [(h0, .inr (8, fs0)), (ql, .inr (2, fsl)), (a3, .inl (cI, 2100, .inl f3)), (a6, .inl (cI, 2100, .inl f6))] U.heap ∧ va_K (dC, dI) vwCl [(cI, .int)] U ∧ va_D (fun _ => True) [(h0, .inr (8, fs0)), (ql, .inr (2, fsl)), (a3, .inl (cI, 2100, .inl f3)), (a6, .inl (cI, 2100, .inl f6))])) (va_Qv (fun (u : (List Value) × (Nat → Int32)) => hasF u.1 12 [(10, .int 5), (11, .int 0)] ∧ sameF fsl u.1 [10, 11]) (fun (u : (List Value) × (Nat → Int32)) (t : State) => va_P (dC, dI) vwCl [(h0, .inr (8, fs0)), (ql, .inr (2, u.1)), (a3, .inl (cI, 2100, .inl f3)), (a6, .inl (cI, 2100, .inl u.2))] t.heap ∧ va_K (dC, dI) vwCl [(cI, .int)] t ∧ va_D (va_A [(h0, .inr (8, fs0)), (ql, .inr (2, fsl)), (a3, .inl (cI, 2100, .inl f3)), (a6, .inl (cI, 2100, .inl f6))] sz) [(h0, .inr (8, fs0)), (ql, .inr (2, u.1)), (a3, .inl (cI, 2100, .inl f3)), (a6, .inl (cI, 2100, .inl u.2))]) (va_A [(h0, .inr (8, fs0)), (ql, .inr (2, fsl)), (a3, .inl (cI, 2100, .inl f3)), (a6, .inl (cI, 2100, .inl f6))] sz)) 0 0 (va_A [(h0, .inr (8, fs0)), (ql, .inr (2, fsl)), (a3, .inl (cI, 2100, .inl f3)), (a6, .inl (cI, 2100, .inl f6))] sz) := by
  refine Met.ofW (cc := cX8_check) (maxL := 4) (ret := none) (by decide) rfl ?_
  intro p e s m args below meth c s₁ B hml hv
  obtain ⟨rfl, hsz, hP, hK, hD0⟩ := hv
  have hx := B.exec
  have hb := B.bytes
  have hr := B.returns
  have hts := atoms_spec (ws := pw_c_X8_check) B.pre
  have hown : s.vm.findClass RX8 = some m.cls := findClass_of_methodNamed B.named
  have hlocks := B.notSynchronized
  have hin_X8 : ∀ w ∈ u_ws RX8 TX8 18, w ∈ pw_c_X8_check := fun w h => List.mem_cons_of_mem _ (List.mem_append_right _ (List.mem_append_left _ h))
  have hin_X2 : ∀ w ∈ u_ws RX2 TX2 12, w ∈ pw_c_X8_check := fun w h => List.mem_cons_of_mem _ (List.mem_append_right _ (List.mem_append_right _ (List.mem_append_left _ h)))
  subst hsz
  have hD := hD0.self (sz := s.heap.size)
  generalize hAe : va_A [(h0, .inr (8, fs0)), (ql, .inr (2, fsl)), (a3, .inl (cI, 2100, .inl f3)), (a6, .inl (cI, 2100, .inl f6))] s.heap.size = A at hD ⊢
  have hA : ∀ q : Nat, s.heap.size ≤ q → A q := fun q h => by rw [← hAe]; exact Or.inr h
  have hS : va_S A s.heap s.heap [] := va_S.rf
  have hP : va_P (dC, dI) vwCl [(h0, .inr (8, fs0)), (ql, .inr (2, fsl)), (a3, .inl (cI, 2100, .inl f3)), (a6, .inl (cI, 2100, .inl f6))] s.heap := hP
  have hl := lv_entry ([.ref h0]) (n := 4) (Nat.le_of_ble_eq_true rfl)
  rw [lg_entry_eq]
  generalize (lg_sl ([.ref h0]) ++ List.replicate (4 - (lg_sl ([.ref h0])).length) Slot.unset).toArray = ls at hl ⊢
  have hl : lv_has ls 4 [(0, .ref h0)] := hl
  refine lv_aload_n hx hb dX8_check_0 rfl (lv_at hl 0 rfl) ?_
  refine va_get (D := (dC, dI)) (ci := 8) (v := .ref a6) (C := RX8) (T := TX8) (N := 18) hx hb hts hin_X8 hown hK hP 0 rfl rfl 15 (by decide) (hts (.fieldLink RX8 56 "NeedHouse$Told" "mark" "[I") (List.mem_of_getElem? (i := 1) rfl)) (fun _ h9 => h9) (hF0.at 2 rfl) dX8_check_1 ?_
  refine lv_iconst (v := (-1)) hx hb dX8_check_4 (by decide) ?_
  have hPc := hP.sub (ws' := [(a6, .inl (cI, 2100, .inl f6))]) [3] rfl
  have hDc := hD.sub (ws' := [(a6, .inl (cI, 2100, .inl f6))]) [3] (by decide) rfl
  have hKc := hK.sub (tys' := [(cI, .int)]) [0] rfl
  have hFc := va_free (wc := [(a6, .inl (cI, 2100, .inl f6))]) hD hS hA [3] rfl
  refine va_callv (va_runS (As := [.ref a6, .int (-1)]) (rest := []) ⟨hx, hb, hml, hown, hts⟩ (c_J7_fill_53178 l dC dI s.heap.size a6 cI 2100 f6 (-1) (by decide)) (va_cwS 2 hts g_c_X8_check_c_J7_fill_53178_5 rfl rfl rfl (by decide +kernel) ⟨Nat.le_of_ble_eq_true rfl, Nat.le_of_ble_eq_true rfl⟩) ⟨fun a U g mk q => by obtain ⟨q0, q1, qP, qK, qD⟩ := q; exact ⟨q0, q1, qP, va_K.moved (u := U) (U := U.calling g mk a) (Vm.Alike.refl U.vm) qK, qD⟩, fun U hU hW => ⟨rfl, by rw [hU], by rw [hU]; exact hPc, va_K.moved hW.alike hKc, hDc.weaken (fun _ _ _ _ => trivial)⟩⟩ rfl rfl hl.1 rfl (lv_room (Nat.le_of_ble_eq_true rfl)) dX8_check_5 ⟨show 0 + 0 ≤ 0 by decide, show 0 + 0 ≤ 0 by decide⟩) hS (fun q _ h => hFc q h) hFc (fun u t H1 locs ht hvm hw hB hz1 hk1 hS => ?_)
  obtain ⟨fz_3, rfl⟩ : ∃ z, z = u := ⟨_, rfl⟩
  obtain ⟨hP1, hK1, hD1⟩ := hB
  rw [ht] at hP1
  have hK1 := va_K.moved hvm.symm hK1
  try dsimp only at hw hP1 hK1 hD1
  have hX_4 := hw
  obtain ⟨hP, hD⟩ := va_join (wr := [(h0, .inr (8, fs0)), (ql, .inr (2, fsl)), (a3, .inl (cI, 2100, .inl f3))]) (w1 := [(a6, .inl (cI, 2100, .inl fz_3))]) hP hD [3] [0, 1, 2] rfl rfl (by decide) (by decide) hk1 hFc hP1 hD1
  generalize H1 = H at hP hS ⊢
  have hK := (hK.sub (tys' := []) [] rfl).app hK1
  have hK : va_K (dC, dI) vwCl [(cI, .int)] s := hK
  have hP : va_P (dC, dI) vwCl [(h0, .inr (8, fs0)), (ql, .inr (2, fsl)), (a3, .inl (cI, 2100, .inl f3)), (a6, .inl (cI, 2100, .inl fz_3))] H := hP
  have hD : va_D A [(h0, .inr (8, fs0)), (ql, .inr (2, fsl)), (a3, .inl (cI, 2100, .inl f3)), (a6, .inl (cI, 2100, .inl fz_3))] := hD
  refine lv_iconst (v := 0) hx hb dX8_check_8 (by decide) ?_
  refine lv_istore_n (lv' := [(1, .int 0), (0, .ref h0)]) hx hb dX8_check_9 rfl hl (by decide) rfl (fun ls hl => ?_)
  refine lv_iload_n hx hb dX8_check_10 rfl (lv_at hl 0 rfl) ?_
  refine lv_aload_n hx hb dX8_check_11 rfl (lv_at hl 1 rfl) ?_
  refine va_get (D := (dC, dI)) (ci := 8) (v := .int 1) (C := RX8) (T := TX8) (N := 18) hx hb hts hin_X8 hown hK hP 0 rfl rfl 17 (by decide) (hts (.fieldLink RX8 67 "NeedHouse$Told" "scopes" "I") (List.mem_of_getElem? (i := 6) rfl)) (fun _ h9 => h9) (hF0.at 3 rfl) dX8_check_12 ?_
  refine lv_icmp_ge (tgt := 111) hx hb dX8_check_15 (by decide) (fun c_5 => absurd c_5 (by decide)) (fun _ => ?_)
  refine lv_aload_n hx hb dX8_check_18 rfl (lv_at hl 1 rfl) ?_
  refine va_get (D := (dC, dI)) (ci := 8) (v := .ref a3) (C := RX8) (T := TX8) (N := 18) hx hb hts hin_X8 hown hK hP 0 rfl rfl 11 (by decide) (hts (.fieldLink RX8 42 "NeedHouse$Told" "first" "[I") (List.mem_of_getElem? (i := 7) rfl)) (fun _ h9 => h9) (hF0.at 1 rfl) dX8_check_19 ?_
  refine lv_iload_n hx hb dX8_check_22 rfl (lv_at hl 0 rfl) ?_
  refine va_iald hx hb hK hP 2 0 rfl rfl (show vp_in (nI 0) 2100 from vp_in_nI (by decide) (by decide)) dX8_check_23 ?_
  refine lv_topi (fun x_6 ex_6 => ?_)
  obtain rfl : x_6 = (-1) := ex_6.trans (by rw [show (0 : Int32).toNatClampNeg = 0 from by decide]; exact hkf3_0)
  refine lv_istore_n (lv' := [(2, .int (-1)), (1, .int 0), (0, .ref h0)]) hx hb dX8_check_24 rfl hl (by decide) rfl (fun ls hl => ?_)
  refine lv_iload_n hx hb dX8_check_25 rfl (lv_at hl 0 rfl) ?_
  refine lv_if_lt (tgt := 105) hx hb dX8_check_26 (by decide) (fun _ => ?_) (fun c_7 => absurd (by decide) c_7)
  refine lv_iinc (v := 1) (lv' := [(1, .int 1), (2, .int (-1)), (0, .ref h0)]) hx hb dX8_check_105 hl (k := 1) rfl (by decide +kernel) (by decide) rfl (fun ls hl => ?_)
  refine lv_goto (tgt := 10) hx hb dX8_check_108 (by decide) ?_
  refine lv_iload_n hx hb dX8_check_10 rfl (lv_at hl 0 rfl) ?_
  refine lv_aload_n hx hb dX8_check_11 rfl (lv_at hl 2 rfl) ?_
  refine va_get (D := (dC, dI)) (ci := 8) (v := .int 1) (C := RX8) (T := TX8) (N := 18) hx hb hts hin_X8 hown hK hP 0 rfl rfl 17 (by decide) (hts (.fieldLink RX8 67 "NeedHouse$Told" "scopes" "I") (List.mem_of_getElem? (i := 6) rfl)) (fun _ h9 => h9) (hF0.at 3 rfl) dX8_check_12 ?_
  refine lv_icmp_ge (tgt := 111) hx hb dX8_check_15 (by decide) (fun _ => ?_) (fun c_8 => absurd (by decide) c_8)
  refine lv_aload_n hx hb dX8_check_111 rfl (lv_at hl 2 rfl) ?_
  have hPc := hP.sub (ws' := [(h0, .inr (8, fs0)), (a3, .inl (cI, 2100, .inl f3))]) [0, 2] rfl
  have hDc := hD.sub (ws' := [(h0, .inr (8, fs0)), (a3, .inl (cI, 2100, .inl f3))]) [0, 2] (by decide) rfl
  have hKc := hK.sub (tys' := [(cI, .int)]) [0] rfl
  have hFc := va_free (wc := [(h0, .inr (8, fs0)), (a3, .inl (cI, 2100, .inl f3))]) hD hS hA [0, 2] rfl
  refine va_calli (va_runV (As := []) (rest := []) ⟨hx, hb, hml, hown, hts⟩ (c_X8_mainOf l dC dI H.size cI h0 fs0 a3 f3 (hF0.sub [1] rfl) (hkf3_0)) (cwV 0 hts g_c_X8_check_c_X8_mainOf_112 rfl rfl rfl (by decide +kernel) ⟨Nat.le_of_ble_eq_true rfl, Nat.le_of_ble_eq_true rfl⟩) ⟨fun a U g mk q => by obtain ⟨q0, q1, qP, qK, qD⟩ := q; exact ⟨q0, q1, qP, va_K.moved (u := U) (U := U.calling g mk a) (Vm.Alike.refl U.vm) qK, qD⟩, va_recv hKc hPc (ci := 8) (q0 := 0) rfl rfl, fun U hU hW => ⟨rfl, by rw [hU], by rw [hU]; exact hPc, va_K.moved hW.alike hKc, hDc.weaken (fun _ _ _ _ => trivial)⟩⟩ rfl rfl hl.1 rfl (lv_room (Nat.le_of_ble_eq_true rfl)) dX8_check_112 ⟨show 0 + 0 ≤ 0 by decide, show 0 + 0 ≤ 0 by decide⟩) hS (fun q _ h => hFc q h) hFc (fun r_9 u t H1 locs ht hvm hw hB hz1 hk1 hS => ?_)
  obtain ⟨hP1, hK1, hD1⟩ := hB
  rw [ht] at hP1
  have hK1 := va_K.moved hvm.symm hK1
  try dsimp only at hw hP1 hK1 hD1
  have hr_11 := hw
  obtain ⟨hP, hD⟩ := va_join (wr := [(ql, .inr (2, fsl)), (a6, .inl (cI, 2100, .inl fz_3))]) (w1 := [(h0, .inr (8, fs0)), (a3, .inl (cI, 2100, .inl f3))]) hP hD [0, 2] [1, 3] rfl rfl (by decide) (by decide) hk1 hFc hP1 hD1
  generalize H1 = H at hP hS ⊢
  have hK := (hK.sub (tys' := []) [] rfl).app hK1
  have hK : va_K (dC, dI) vwCl [(cI, .int)] s := hK
  have hP : va_P (dC, dI) vwCl [(ql, .inr (2, fsl)), (a6, .inl (cI, 2100, .inl fz_3)), (h0, .inr (8, fs0)), (a3, .inl (cI, 2100, .inl f3))] H := hP
  have hD : va_D A [(ql, .inr (2, fsl)), (a6, .inl (cI, 2100, .inl fz_3)), (h0, .inr (8, fs0)), (a3, .inl (cI, 2100, .inl f3))] := hD
  subst hr_11
  refine lv_if_ge (tgt := 133) hx hb dX8_check_115 (by decide) (fun c_12 => absurd c_12 (by decide)) (fun _ => ?_)
  refine lv_aload_n hx hb dX8_check_118 rfl (lv_at hl 2 rfl) ?_
  refine va_get (D := (dC, dI)) (ci := 8) (v := .ref ql) (C := RX8) (T := TX8) (N := 18) hx hb hts hin_X8 hown hK hP 2 rfl rfl 0 (by decide) (hts (.fieldLink RX8 59 "NeedHouse$Told" "lexemes" "LNeedHouse$Lexemes;") (List.mem_of_getElem? (i := 13) rfl)) (fun _ h9 => h9) (hF0.at 0 rfl) dX8_check_119 ?_
  refine lv_iconst (v := 5) hx hb dX8_check_122 (by decide) ?_
  refine lv_aload_n hx hb dX8_check_123 rfl (lv_at hl 2 rfl) ?_
  refine va_get (D := (dC, dI)) (ci := 8) (v := .ref ql) (C := RX8) (T := TX8) (N := 18) hx hb hts hin_X8 hown hK hP 2 rfl rfl 0 (by decide) (hts (.fieldLink RX8 59 "NeedHouse$Told" "lexemes" "LNeedHouse$Lexemes;") (List.mem_of_getElem? (i := 13) rfl)) (fun _ h9 => h9) (hF0.at 0 rfl) dX8_check_124 ?_
  refine va_get (D := (dC, dI)) (ci := 2) (v := .int 0) (C := RX2) (T := TX2) (N := 12) hx hb hts hin_X2 hown hK hP 0 rfl rfl 7 (by decide) (hts (.fieldLink RX8 90 "NeedHouse$Lexemes" "size" "I") (List.mem_of_getElem? (i := 14) rfl)) (fun _ h9 => h9) (hFl.at 0 rfl) dX8_check_127 ?_
  have hPc := hP.sub (ws' := [(ql, .inr (2, fsl))]) [0] rfl
  have hDc := hD.sub (ws' := [(ql, .inr (2, fsl))]) [0] (by decide) rfl
  have hKc := hK.sub (tys' := []) [] rfl
  have hFc := va_free (wc := [(ql, .inr (2, fsl))]) hD hS hA [0] rfl
  refine va_callv (va_runV (As := [.int 5, .int 0]) (rest := []) ⟨hx, hb, hml, hown, hts⟩ (c_X2_note l dC dI H.size ql fsl z1 (hFl.sub [1, 2] rfl)) (cwV 2 hts g_c_X8_check_c_X2_note_130 rfl rfl rfl (by decide +kernel) ⟨Nat.le_of_ble_eq_true rfl, Nat.le_of_ble_eq_true rfl⟩) ⟨fun a U g mk q => by obtain ⟨q0, q1, qP, qK, qD⟩ := q; exact ⟨q0, q1, qP, va_K.moved (u := U) (U := U.calling g mk a) (Vm.Alike.refl U.vm) qK, qD⟩, va_recv hKc hPc (ci := 2) (q0 := 0) rfl rfl, fun U hU hW => ⟨rfl, by rw [hU], by rw [hU]; exact hPc, va_K.moved hW.alike hKc, hDc.weaken (fun _ _ _ _ => trivial)⟩⟩ rfl rfl hl.1 rfl (lv_room (Nat.le_of_ble_eq_true rfl)) dX8_check_130 ⟨show 0 + 0 ≤ 0 by decide, show 0 + 0 ≤ 0 by decide⟩) hS (fun q _ h => hFc q h) hFc (fun u t H1 locs ht hvm hw hB hz1 hk1 hS => ?_)
  obtain ⟨fs0z_15, rfl⟩ : ∃ z, z = u := ⟨_, rfl⟩
  obtain ⟨hP1, hK1, hD1⟩ := hB
  rw [ht] at hP1
  have hK1 := va_K.moved hvm.symm hK1
  try dsimp only at hw hP1 hK1 hD1
  obtain ⟨hF_16, hE_17⟩ := hw
  obtain ⟨hP, hD⟩ := va_join (wr := [(a6, .inl (cI, 2100, .inl fz_3)), (h0, .inr (8, fs0)), (a3, .inl (cI, 2100, .inl f3))]) (w1 := [(ql, .inr (2, fs0z_15))]) hP hD [0] [1, 2, 3] rfl rfl (by decide) (by decide) hk1 hFc hP1 hD1
  generalize H1 = H at hP hS ⊢
  have hK := (hK.sub (tys' := [(cI, .int)]) [0] rfl).app hK1
  have hK : va_K (dC, dI) vwCl [(cI, .int)] s := hK
  have hP : va_P (dC, dI) vwCl [(a6, .inl (cI, 2100, .inl fz_3)), (h0, .inr (8, fs0)), (a3, .inl (cI, 2100, .inl f3)), (ql, .inr (2, fs0z_15))] H := hP
  have hD : va_D A [(a6, .inl (cI, 2100, .inl fz_3)), (h0, .inr (8, fs0)), (a3, .inl (cI, 2100, .inl f3)), (ql, .inr (2, fs0z_15))] := hD
  have hF_18 := hFl.same hE_17 (l' := [(7, .int 0)]) rfl
  have hF_19 := hF_16.app hF_18
  have hE_20 := (sameF.rf (f := fsl)).trans hE_17
  have hP9 := hP.sub (ws' := [(h0, .inr (8, fs0)), (ql, .inr (2, fs0z_15)), (a3, .inl (cI, 2100, .inl f3)), (a6, .inl (cI, 2100, .inl fz_3))]) [1, 3, 2, 0] rfl
  have hD9 := hD.sub (ws' := [(h0, .inr (8, fs0)), (ql, .inr (2, fs0z_15)), (a3, .inl (cI, 2100, .inl f3)), (a6, .inl (cI, 2100, .inl fz_3))]) [1, 3, 2, 0] (by decide) rfl
  have hK9 := hK.sub (tys' := [(cI, .int)]) [0] rfl
  exact W.vret hx hb hr (fun t ht hW => ⟨⟨((fs0z_15, fz_3)), rfl, ⟨hF_19.sub [0, 1] rfl, hE_20.mono (by decide)⟩, by rw [ht]; exact hP9, va_K.moved hW.alike hK9, hD9⟩, hS.F ht⟩) hS.2.2 dX8_check_133
