theorem dX14_nameOf__0 : decode cX14_nameOf_ 0 = .ok (.iconst 0, 1) := by decide +kernel
theorem dX14_nameOf__1 : decode cX14_nameOf_ 1 = .ok (.istore_n 2, 1) := by decide +kernel
theorem dX14_nameOf__2 : decode cX14_nameOf_ 2 = .ok (.iload_n 2, 1) := by decide +kernel
theorem dX14_nameOf__3 : decode cX14_nameOf_ 3 = .ok (.aload_n 1, 1) := by decide +kernel
theorem dX14_nameOf__4 : decode cX14_nameOf_ 4 = .ok (.invokevirtual 353, 3) := by decide +kernel
theorem dX14_nameOf__7 : decode cX14_nameOf_ 7 = .ok (.if_icmp .ge 20, 3) := by decide +kernel
theorem dX14_nameOf__10 : decode cX14_nameOf_ 10 = .ok (.aload_n 0, 1) := by decide +kernel
theorem dX14_nameOf__11 : decode cX14_nameOf_ 11 = .ok (.getfield 113, 3) := by decide +kernel
theorem dX14_nameOf__14 : decode cX14_nameOf_ 14 = .ok (.iload_n 2, 1) := by decide +kernel
theorem dX14_nameOf__15 : decode cX14_nameOf_ 15 = .ok (.aload_n 1, 1) := by decide +kernel
theorem dX14_nameOf__16 : decode cX14_nameOf_ 16 = .ok (.iload_n 2, 1) := by decide +kernel
theorem dX14_nameOf__17 : decode cX14_nameOf_ 17 = .ok (.invokevirtual 357, 3) := by decide +kernel
theorem dX14_nameOf__20 : decode cX14_nameOf_ 20 = .ok (.iastore, 1) := by decide +kernel
theorem dX14_nameOf__21 : decode cX14_nameOf_ 21 = .ok (.iinc 2 1, 3) := by decide +kernel
theorem dX14_nameOf__24 : decode cX14_nameOf_ 24 = .ok (.goto (-22), 3) := by decide +kernel
theorem dX14_nameOf__27 : decode cX14_nameOf_ 27 = .ok (.aload_n 0, 1) := by decide +kernel
theorem dX14_nameOf__28 : decode cX14_nameOf_ 28 = .ok (.aload_n 0, 1) := by decide +kernel
theorem dX14_nameOf__29 : decode cX14_nameOf_ 29 = .ok (.getfield 113, 3) := by decide +kernel
theorem dX14_nameOf__32 : decode cX14_nameOf_ 32 = .ok (.iconst 0, 1) := by decide +kernel
theorem dX14_nameOf__33 : decode cX14_nameOf_ 33 = .ok (.aload_n 1, 1) := by decide +kernel
theorem dX14_nameOf__34 : decode cX14_nameOf_ 34 = .ok (.invokevirtual 353, 3) := by decide +kernel
theorem dX14_nameOf__37 : decode cX14_nameOf_ 37 = .ok (.invokevirtual 361, 3) := by decide +kernel
theorem dX14_nameOf__40 : decode cX14_nameOf_ 40 = .ok (.ireturn, 1) := by decide +kernel
theorem dX14_con_0 : decode cX14_con 0 = .ok (.aload_n 0, 1) := by decide +kernel
theorem dX14_con_1 : decode cX14_con 1 = .ok (.getfield 167, 3) := by decide +kernel
theorem dX14_con_4 : decode cX14_con 4 = .ok (.aload_n 0, 1) := by decide +kernel
theorem dX14_con_5 : decode cX14_con 5 = .ok (.getfield 544, 3) := by decide +kernel
theorem dX14_con_8 : decode cX14_con 8 = .ok (.iload_n 1, 1) := by decide +kernel
theorem dX14_con_9 : decode cX14_con 9 = .ok (.iastore, 1) := by decide +kernel
theorem dX14_con_10 : decode cX14_con 10 = .ok (.aload_n 0, 1) := by decide +kernel
theorem dX14_con_11 : decode cX14_con 11 = .ok (.getfield 170, 3) := by decide +kernel
theorem dX14_con_14 : decode cX14_con 14 = .ok (.aload_n 0, 1) := by decide +kernel
theorem dX14_con_15 : decode cX14_con 15 = .ok (.getfield 544, 3) := by decide +kernel
theorem dX14_con_18 : decode cX14_con 18 = .ok (.iload_n 2, 1) := by decide +kernel
theorem dX14_con_19 : decode cX14_con 19 = .ok (.iastore, 1) := by decide +kernel
theorem dX14_con_20 : decode cX14_con 20 = .ok (.aload_n 0, 1) := by decide +kernel
theorem dX14_con_21 : decode cX14_con 21 = .ok (.getfield 173, 3) := by decide +kernel
theorem dX14_con_24 : decode cX14_con 24 = .ok (.aload_n 0, 1) := by decide +kernel
theorem dX14_con_25 : decode cX14_con 25 = .ok (.getfield 544, 3) := by decide +kernel
theorem dX14_con_28 : decode cX14_con 28 = .ok (.iload_n 3, 1) := by decide +kernel
theorem dX14_con_29 : decode cX14_con 29 = .ok (.iastore, 1) := by decide +kernel
theorem dX14_con_30 : decode cX14_con 30 = .ok (.aload_n 0, 1) := by decide +kernel
theorem dX14_con_31 : decode cX14_con 31 = .ok (.getfield 176, 3) := by decide +kernel
theorem dX14_con_34 : decode cX14_con 34 = .ok (.aload_n 0, 1) := by decide +kernel
theorem dX14_con_35 : decode cX14_con 35 = .ok (.getfield 544, 3) := by decide +kernel
theorem dX14_con_38 : decode cX14_con 38 = .ok (.iload 4, 2) := by decide +kernel
theorem dX14_con_40 : decode cX14_con 40 = .ok (.iastore, 1) := by decide +kernel
theorem dX14_con_41 : decode cX14_con 41 = .ok (.aload_n 0, 1) := by decide +kernel
theorem dX14_con_42 : decode cX14_con 42 = .ok (.dup, 1) := by decide +kernel
theorem dX14_con_43 : decode cX14_con 43 = .ok (.getfield 544, 3) := by decide +kernel
theorem dX14_con_46 : decode cX14_con 46 = .ok (.iconst 1, 1) := by decide +kernel
theorem dX14_con_47 : decode cX14_con 47 = .ok (.iadd, 1) := by decide +kernel
theorem dX14_con_48 : decode cX14_con 48 = .ok (.putfield 544, 3) := by decide +kernel
theorem dX14_con_51 : decode cX14_con 51 = .ok (.return_, 1) := by decide +kernel
theorem dX14_meaning_0 : decode cX14_meaning 0 = .ok (.aload_n 0, 1) := by decide +kernel
theorem dX14_meaning_1 : decode cX14_meaning 1 = .ok (.getfield 552, 3) := by decide +kernel
theorem dX14_meaning_4 : decode cX14_meaning 4 = .ok (.iconst 1, 1) := by decide +kernel
theorem dX14_meaning_5 : decode cX14_meaning 5 = .ok (.isub, 1) := by decide +kernel
theorem dX14_meaning_6 : decode cX14_meaning 6 = .ok (.istore_n 2, 1) := by decide +kernel
theorem dX14_meaning_7 : decode cX14_meaning 7 = .ok (.iload_n 2, 1) := by decide +kernel
theorem dX14_meaning_8 : decode cX14_meaning 8 = .ok (.ifCond .lt 31, 3) := by decide +kernel
theorem dX14_meaning_11 : decode cX14_meaning 11 = .ok (.aload_n 0, 1) := by decide +kernel
theorem dX14_meaning_12 : decode cX14_meaning 12 = .ok (.getfield 146, 3) := by decide +kernel
theorem dX14_meaning_15 : decode cX14_meaning 15 = .ok (.aload_n 0, 1) := by decide +kernel
theorem dX14_meaning_16 : decode cX14_meaning 16 = .ok (.getfield 155, 3) := by decide +kernel
theorem dX14_meaning_19 : decode cX14_meaning 19 = .ok (.iload_n 2, 1) := by decide +kernel
theorem dX14_meaning_20 : decode cX14_meaning 20 = .ok (.iaload, 1) := by decide +kernel
theorem dX14_meaning_21 : decode cX14_meaning 21 = .ok (.iaload, 1) := by decide +kernel
theorem dX14_meaning_22 : decode cX14_meaning 22 = .ok (.iload_n 1, 1) := by decide +kernel
theorem dX14_meaning_23 : decode cX14_meaning 23 = .ok (.if_icmp .ne 10, 3) := by decide +kernel
theorem dX14_meaning_26 : decode cX14_meaning 26 = .ok (.aload_n 0, 1) := by decide +kernel
theorem dX14_meaning_27 : decode cX14_meaning 27 = .ok (.getfield 155, 3) := by decide +kernel
theorem dX14_meaning_30 : decode cX14_meaning 30 = .ok (.iload_n 2, 1) := by decide +kernel
theorem dX14_meaning_31 : decode cX14_meaning 31 = .ok (.iaload, 1) := by decide +kernel
theorem dX14_meaning_32 : decode cX14_meaning 32 = .ok (.ireturn, 1) := by decide +kernel
theorem dX14_meaning_33 : decode cX14_meaning 33 = .ok (.iinc 2 (-1), 3) := by decide +kernel
theorem dX14_meaning_36 : decode cX14_meaning 36 = .ok (.goto (-29), 3) := by decide +kernel
theorem dX14_meaning_39 : decode cX14_meaning 39 = .ok (.iload_n 1, 1) := by decide +kernel
theorem dX14_meaning_40 : decode cX14_meaning 40 = .ok (.aload_n 0, 1) := by decide +kernel
theorem dX14_meaning_41 : decode cX14_meaning 41 = .ok (.getfield 561, 3) := by decide +kernel
theorem dX14_meaning_44 : decode cX14_meaning 44 = .ok (.if_icmp .ne 8, 3) := by decide +kernel
theorem dX14_meaning_47 : decode cX14_meaning 47 = .ok (.bipush (-5), 2) := by decide +kernel
theorem dX14_meaning_49 : decode cX14_meaning 49 = .ok (.goto 4, 3) := by decide +kernel
theorem dX14_meaning_52 : decode cX14_meaning 52 = .ok (.iconst (-1), 1) := by decide +kernel
theorem dX14_meaning_53 : decode cX14_meaning 53 = .ok (.ireturn, 1) := by decide +kernel
theorem dX14_firstRound_0 : decode cX14_firstRound 0 = .ok (.aload_n 0, 1) := by decide +kernel
theorem dX14_firstRound_1 : decode cX14_firstRound 1 = .ok (.iconst 0, 1) := by decide +kernel
theorem dX14_firstRound_2 : decode cX14_firstRound 2 = .ok (.putfield 547, 3) := by decide +kernel
theorem dX14_firstRound_5 : decode cX14_firstRound 5 = .ok (.aload_n 0, 1) := by decide +kernel
theorem dX14_firstRound_6 : decode cX14_firstRound 6 = .ok (.iconst 0, 1) := by decide +kernel
theorem dX14_firstRound_7 : decode cX14_firstRound 7 = .ok (.putfield 552, 3) := by decide +kernel
theorem dX14_firstRound_10 : decode cX14_firstRound 10 = .ok (.aload_n 0, 1) := by decide +kernel
theorem dX14_firstRound_11 : decode cX14_firstRound 11 = .ok (.iconst 0, 1) := by decide +kernel
theorem dX14_firstRound_12 : decode cX14_firstRound 12 = .ok (.putfield 558, 3) := by decide +kernel
theorem dX14_firstRound_15 : decode cX14_firstRound 15 = .ok (.aload_n 0, 1) := by decide +kernel
theorem dX14_firstRound_16 : decode cX14_firstRound 16 = .ok (.iconst 0, 1) := by decide +kernel
theorem dX14_firstRound_17 : decode cX14_firstRound 17 = .ok (.putfield 544, 3) := by decide +kernel
theorem dX14_firstRound_20 : decode cX14_firstRound 20 = .ok (.aload_n 0, 1) := by decide +kernel
theorem dX14_firstRound_21 : decode cX14_firstRound 21 = .ok (.iconst 0, 1) := by decide +kernel
theorem dX14_firstRound_22 : decode cX14_firstRound 22 = .ok (.putfield 571, 3) := by decide +kernel
theorem dX14_firstRound_25 : decode cX14_firstRound 25 = .ok (.aload_n 0, 1) := by decide +kernel
theorem dX14_firstRound_26 : decode cX14_firstRound 26 = .ok (.ldc_w 574, 3) := by decide +kernel
theorem dX14_firstRound_29 : decode cX14_firstRound 29 = .ok (.putfield 538, 3) := by decide +kernel
theorem dX14_firstRound_32 : decode cX14_firstRound 32 = .ok (.aload_n 0, 1) := by decide +kernel
theorem dX14_firstRound_33 : decode cX14_firstRound 33 = .ok (.iconst 0, 1) := by decide +kernel
theorem dX14_firstRound_34 : decode cX14_firstRound 34 = .ok (.putfield 541, 3) := by decide +kernel
theorem dX14_firstRound_37 : decode cX14_firstRound 37 = .ok (.aload_n 0, 1) := by decide +kernel
theorem dX14_firstRound_38 : decode cX14_firstRound 38 = .ok (.aload_n 0, 1) := by decide +kernel
theorem dX14_firstRound_39 : decode cX14_firstRound 39 = .ok (.getfield 369, 3) := by decide +kernel
theorem dX14_firstRound_42 : decode cX14_firstRound 42 = .ok (.iconst 1, 1) := by decide +kernel
theorem dX14_firstRound_43 : decode cX14_firstRound 43 = .ok (.isub, 1) := by decide +kernel
theorem dX14_firstRound_44 : decode cX14_firstRound 44 = .ok (.sipush 1500, 3) := by decide +kernel
theorem dX14_firstRound_47 : decode cX14_firstRound 47 = .ok (.if_icmp .le 7, 3) := by decide +kernel
theorem dX14_firstRound_50 : decode cX14_firstRound 50 = .ok (.iconst 1, 1) := by decide +kernel
theorem dX14_firstRound_51 : decode cX14_firstRound 51 = .ok (.goto 4, 3) := by decide +kernel
theorem dX14_firstRound_54 : decode cX14_firstRound 54 = .ok (.iconst 0, 1) := by decide +kernel
theorem dX14_firstRound_55 : decode cX14_firstRound 55 = .ok (.putfield 568, 3) := by decide +kernel
theorem dX14_firstRound_58 : decode cX14_firstRound 58 = .ok (.aload_n 0, 1) := by decide +kernel
theorem dX14_firstRound_59 : decode cX14_firstRound 59 = .ok (.aload_n 0, 1) := by decide +kernel
theorem dX14_firstRound_60 : decode cX14_firstRound 60 = .ok (.ldc_w 575, 3) := by decide +kernel
theorem dX14_firstRound_63 : decode cX14_firstRound 63 = .ok (.invokevirtual 577, 3) := by decide +kernel
theorem dX14_firstRound_66 : decode cX14_firstRound 66 = .ok (.putfield 555, 3) := by decide +kernel
theorem dX14_firstRound_69 : decode cX14_firstRound 69 = .ok (.aload_n 0, 1) := by decide +kernel
theorem dX14_firstRound_70 : decode cX14_firstRound 70 = .ok (.aload_n 0, 1) := by decide +kernel
theorem dX14_firstRound_71 : decode cX14_firstRound 71 = .ok (.ldc_w 580, 3) := by decide +kernel
theorem dX14_firstRound_74 : decode cX14_firstRound 74 = .ok (.invokevirtual 577, 3) := by decide +kernel
theorem dX14_firstRound_77 : decode cX14_firstRound 77 = .ok (.putfield 561, 3) := by decide +kernel
theorem dX14_firstRound_80 : decode cX14_firstRound 80 = .ok (.aload_n 0, 1) := by decide +kernel
theorem dX14_firstRound_81 : decode cX14_firstRound 81 = .ok (.aload_n 0, 1) := by decide +kernel
theorem dX14_firstRound_82 : decode cX14_firstRound 82 = .ok (.ldc_w 582, 3) := by decide +kernel
theorem dX14_firstRound_85 : decode cX14_firstRound 85 = .ok (.invokevirtual 577, 3) := by decide +kernel
theorem dX14_firstRound_88 : decode cX14_firstRound 88 = .ok (.putfield 584, 3) := by decide +kernel
theorem dX14_firstRound_91 : decode cX14_firstRound 91 = .ok (.aload_n 0, 1) := by decide +kernel
theorem dX14_firstRound_92 : decode cX14_firstRound 92 = .ok (.getfield 158, 3) := by decide +kernel
theorem dX14_firstRound_95 : decode cX14_firstRound 95 = .ok (.iconst 0, 1) := by decide +kernel
theorem dX14_firstRound_96 : decode cX14_firstRound 96 = .ok (.aload_n 0, 1) := by decide +kernel
theorem dX14_firstRound_97 : decode cX14_firstRound 97 = .ok (.ldc_w 587, 3) := by decide +kernel
theorem dX14_firstRound_100 : decode cX14_firstRound 100 = .ok (.invokevirtual 577, 3) := by decide +kernel
theorem dX14_firstRound_103 : decode cX14_firstRound 103 = .ok (.iastore, 1) := by decide +kernel
theorem dX14_firstRound_104 : decode cX14_firstRound 104 = .ok (.aload_n 0, 1) := by decide +kernel
theorem dX14_firstRound_105 : decode cX14_firstRound 105 = .ok (.getfield 158, 3) := by decide +kernel
theorem dX14_firstRound_108 : decode cX14_firstRound 108 = .ok (.iconst 1, 1) := by decide +kernel
theorem dX14_firstRound_109 : decode cX14_firstRound 109 = .ok (.iconst (-1), 1) := by decide +kernel
theorem dX14_firstRound_110 : decode cX14_firstRound 110 = .ok (.iastore, 1) := by decide +kernel
theorem dX14_firstRound_111 : decode cX14_firstRound 111 = .ok (.aload_n 0, 1) := by decide +kernel
theorem dX14_firstRound_112 : decode cX14_firstRound 112 = .ok (.getfield 158, 3) := by decide +kernel
theorem dX14_firstRound_115 : decode cX14_firstRound 115 = .ok (.iconst 2, 1) := by decide +kernel
theorem dX14_firstRound_116 : decode cX14_firstRound 116 = .ok (.iconst (-1), 1) := by decide +kernel
theorem dX14_firstRound_117 : decode cX14_firstRound 117 = .ok (.iastore, 1) := by decide +kernel
theorem dX14_firstRound_118 : decode cX14_firstRound 118 = .ok (.iconst 0, 1) := by decide +kernel
theorem dX14_firstRound_119 : decode cX14_firstRound 119 = .ok (.istore_n 1, 1) := by decide +kernel
theorem dX14_firstRound_120 : decode cX14_firstRound 120 = .ok (.iload_n 1, 1) := by decide +kernel
theorem dX14_firstRound_121 : decode cX14_firstRound 121 = .ok (.iconst 3, 1) := by decide +kernel
theorem dX14_firstRound_122 : decode cX14_firstRound 122 = .ok (.if_icmp .ge 23, 3) := by decide +kernel
theorem dX14_firstRound_125 : decode cX14_firstRound 125 = .ok (.aload_n 0, 1) := by decide +kernel
theorem dX14_firstRound_126 : decode cX14_firstRound 126 = .ok (.getfield 161, 3) := by decide +kernel
theorem dX14_firstRound_129 : decode cX14_firstRound 129 = .ok (.iload_n 1, 1) := by decide +kernel
theorem dX14_firstRound_130 : decode cX14_firstRound 130 = .ok (.iconst (-1), 1) := by decide +kernel
theorem dX14_firstRound_131 : decode cX14_firstRound 131 = .ok (.iastore, 1) := by decide +kernel
theorem dX14_firstRound_132 : decode cX14_firstRound 132 = .ok (.aload_n 0, 1) := by decide +kernel
theorem dX14_firstRound_133 : decode cX14_firstRound 133 = .ok (.getfield 164, 3) := by decide +kernel
theorem dX14_firstRound_136 : decode cX14_firstRound 136 = .ok (.iload_n 1, 1) := by decide +kernel
theorem dX14_firstRound_137 : decode cX14_firstRound 137 = .ok (.iload_n 1, 1) := by decide +kernel
theorem dX14_firstRound_138 : decode cX14_firstRound 138 = .ok (.iastore, 1) := by decide +kernel
theorem dX14_firstRound_139 : decode cX14_firstRound 139 = .ok (.iinc 1 1, 3) := by decide +kernel
theorem dX14_firstRound_142 : decode cX14_firstRound 142 = .ok (.goto (-22), 3) := by decide +kernel
theorem dX14_firstRound_145 : decode cX14_firstRound 145 = .ok (.aload_n 0, 1) := by decide +kernel
theorem dX14_firstRound_146 : decode cX14_firstRound 146 = .ok (.iconst 3, 1) := by decide +kernel
theorem dX14_firstRound_147 : decode cX14_firstRound 147 = .ok (.putfield 558, 3) := by decide +kernel
theorem dX14_firstRound_150 : decode cX14_firstRound 150 = .ok (.aload_n 0, 1) := by decide +kernel
theorem dX14_firstRound_151 : decode cX14_firstRound 151 = .ok (.aload_n 0, 1) := by decide +kernel
theorem dX14_firstRound_152 : decode cX14_firstRound 152 = .ok (.ldc_w 589, 3) := by decide +kernel
theorem dX14_firstRound_155 : decode cX14_firstRound 155 = .ok (.invokevirtual 577, 3) := by decide +kernel
theorem dX14_firstRound_158 : decode cX14_firstRound 158 = .ok (.iconst (-1), 1) := by decide +kernel
theorem dX14_firstRound_159 : decode cX14_firstRound 159 = .ok (.iconst 0, 1) := by decide +kernel
theorem dX14_firstRound_160 : decode cX14_firstRound 160 = .ok (.iconst 0, 1) := by decide +kernel
theorem dX14_firstRound_161 : decode cX14_firstRound 161 = .ok (.invokevirtual 591, 3) := by decide +kernel
theorem dX14_firstRound_164 : decode cX14_firstRound 164 = .ok (.aload_n 0, 1) := by decide +kernel
theorem dX14_firstRound_165 : decode cX14_firstRound 165 = .ok (.aload_n 0, 1) := by decide +kernel
theorem dX14_firstRound_166 : decode cX14_firstRound 166 = .ok (.ldc_w 594, 3) := by decide +kernel
theorem dX14_firstRound_169 : decode cX14_firstRound 169 = .ok (.invokevirtual 577, 3) := by decide +kernel
theorem dX14_firstRound_172 : decode cX14_firstRound 172 = .ok (.iconst (-1), 1) := by decide +kernel
theorem dX14_firstRound_173 : decode cX14_firstRound 173 = .ok (.iconst 0, 1) := by decide +kernel
theorem dX14_firstRound_174 : decode cX14_firstRound 174 = .ok (.iconst 0, 1) := by decide +kernel
theorem dX14_firstRound_175 : decode cX14_firstRound 175 = .ok (.invokevirtual 591, 3) := by decide +kernel
theorem dX14_firstRound_178 : decode cX14_firstRound 178 = .ok (.aload_n 0, 1) := by decide +kernel
theorem dX14_firstRound_179 : decode cX14_firstRound 179 = .ok (.iconst (-1), 1) := by decide +kernel
theorem dX14_firstRound_180 : decode cX14_firstRound 180 = .ok (.iconst (-1), 1) := by decide +kernel
theorem dX14_firstRound_181 : decode cX14_firstRound 181 = .ok (.iconst 1, 1) := by decide +kernel
theorem dX14_firstRound_182 : decode cX14_firstRound 182 = .ok (.iconst 0, 1) := by decide +kernel
theorem dX14_firstRound_183 : decode cX14_firstRound 183 = .ok (.invokevirtual 591, 3) := by decide +kernel
theorem dX14_firstRound_186 : decode cX14_firstRound 186 = .ok (.aload_n 0, 1) := by decide +kernel
theorem dX14_firstRound_187 : decode cX14_firstRound 187 = .ok (.iconst (-1), 1) := by decide +kernel
theorem dX14_firstRound_188 : decode cX14_firstRound 188 = .ok (.iconst (-1), 1) := by decide +kernel
theorem dX14_firstRound_189 : decode cX14_firstRound 189 = .ok (.iconst 1, 1) := by decide +kernel
theorem dX14_firstRound_190 : decode cX14_firstRound 190 = .ok (.iconst 2, 1) := by decide +kernel
theorem dX14_firstRound_191 : decode cX14_firstRound 191 = .ok (.invokevirtual 591, 3) := by decide +kernel
theorem dX14_firstRound_194 : decode cX14_firstRound 194 = .ok (.aload_n 0, 1) := by decide +kernel
theorem dX14_firstRound_195 : decode cX14_firstRound 195 = .ok (.iconst (-1), 1) := by decide +kernel
theorem dX14_firstRound_196 : decode cX14_firstRound 196 = .ok (.iconst (-1), 1) := by decide +kernel
theorem dX14_firstRound_197 : decode cX14_firstRound 197 = .ok (.iconst 2, 1) := by decide +kernel
theorem dX14_firstRound_198 : decode cX14_firstRound 198 = .ok (.iconst 2, 1) := by decide +kernel
theorem dX14_firstRound_199 : decode cX14_firstRound 199 = .ok (.invokevirtual 591, 3) := by decide +kernel
theorem dX14_firstRound_202 : decode cX14_firstRound 202 = .ok (.aload_n 0, 1) := by decide +kernel
theorem dX14_firstRound_203 : decode cX14_firstRound 203 = .ok (.getfield 596, 3) := by decide +kernel
theorem dX14_firstRound_206 : decode cX14_firstRound 206 = .ok (.istore_n 1, 1) := by decide +kernel
theorem dX14_firstRound_207 : decode cX14_firstRound 207 = .ok (.iload_n 1, 1) := by decide +kernel
theorem dX14_firstRound_208 : decode cX14_firstRound 208 = .ok (.ifCond .lt 18, 3) := by decide +kernel
theorem dX14_firstRound_211 : decode cX14_firstRound 211 = .ok (.aload_n 0, 1) := by decide +kernel
theorem dX14_firstRound_212 : decode cX14_firstRound 212 = .ok (.iload_n 1, 1) := by decide +kernel
theorem dX14_firstRound_213 : decode cX14_firstRound 213 = .ok (.invokevirtual 599, 3) := by decide +kernel
theorem dX14_firstRound_216 : decode cX14_firstRound 216 = .ok (.aload_n 0, 1) := by decide +kernel
theorem dX14_firstRound_217 : decode cX14_firstRound 217 = .ok (.getfield 140, 3) := by decide +kernel
theorem dX14_firstRound_220 : decode cX14_firstRound 220 = .ok (.iload_n 1, 1) := by decide +kernel
theorem dX14_firstRound_221 : decode cX14_firstRound 221 = .ok (.iaload, 1) := by decide +kernel
theorem dX14_firstRound_222 : decode cX14_firstRound 222 = .ok (.istore_n 1, 1) := by decide +kernel
theorem dX14_firstRound_223 : decode cX14_firstRound 223 = .ok (.goto (-16), 3) := by decide +kernel
theorem dX14_firstRound_226 : decode cX14_firstRound 226 = .ok (.aload_n 0, 1) := by decide +kernel
theorem dX14_firstRound_227 : decode cX14_firstRound 227 = .ok (.getfield 596, 3) := by decide +kernel
theorem dX14_firstRound_230 : decode cX14_firstRound 230 = .ok (.istore_n 1, 1) := by decide +kernel
theorem dX14_firstRound_231 : decode cX14_firstRound 231 = .ok (.iload_n 1, 1) := by decide +kernel
theorem dX14_firstRound_232 : decode cX14_firstRound 232 = .ok (.ifCond .lt 37, 3) := by decide +kernel
theorem dX14_firstRound_235 : decode cX14_firstRound 235 = .ok (.aload_n 0, 1) := by decide +kernel
theorem dX14_firstRound_236 : decode cX14_firstRound 236 = .ok (.getfield 125, 3) := by decide +kernel
theorem dX14_firstRound_239 : decode cX14_firstRound 239 = .ok (.iload_n 1, 1) := by decide +kernel
theorem dX14_firstRound_240 : decode cX14_firstRound 240 = .ok (.iaload, 1) := by decide +kernel
theorem dX14_firstRound_241 : decode cX14_firstRound 241 = .ok (.bipush 20, 2) := by decide +kernel
theorem dX14_firstRound_243 : decode cX14_firstRound 243 = .ok (.if_icmp .ne 11, 3) := by decide +kernel
theorem dX14_firstRound_246 : decode cX14_firstRound 246 = .ok (.aload_n 0, 1) := by decide +kernel
theorem dX14_firstRound_247 : decode cX14_firstRound 247 = .ok (.iload_n 1, 1) := by decide +kernel
theorem dX14_firstRound_248 : decode cX14_firstRound 248 = .ok (.invokevirtual 602, 3) := by decide +kernel
theorem dX14_firstRound_251 : decode cX14_firstRound 251 = .ok (.goto 8, 3) := by decide +kernel
theorem dX14_firstRound_254 : decode cX14_firstRound 254 = .ok (.aload_n 0, 1) := by decide +kernel
theorem dX14_firstRound_255 : decode cX14_firstRound 255 = .ok (.iload_n 1, 1) := by decide +kernel
theorem dX14_firstRound_256 : decode cX14_firstRound 256 = .ok (.invokevirtual 605, 3) := by decide +kernel
theorem dX14_firstRound_259 : decode cX14_firstRound 259 = .ok (.aload_n 0, 1) := by decide +kernel
theorem dX14_firstRound_260 : decode cX14_firstRound 260 = .ok (.getfield 140, 3) := by decide +kernel
theorem dX14_firstRound_263 : decode cX14_firstRound 263 = .ok (.iload_n 1, 1) := by decide +kernel
theorem dX14_firstRound_264 : decode cX14_firstRound 264 = .ok (.iaload, 1) := by decide +kernel
theorem dX14_firstRound_265 : decode cX14_firstRound 265 = .ok (.istore_n 1, 1) := by decide +kernel
theorem dX14_firstRound_266 : decode cX14_firstRound 266 = .ok (.goto (-35), 3) := by decide +kernel
theorem dX14_firstRound_269 : decode cX14_firstRound 269 = .ok (.aload_n 0, 1) := by decide +kernel
theorem dX14_firstRound_270 : decode cX14_firstRound 270 = .ok (.aload_n 0, 1) := by decide +kernel
theorem dX14_firstRound_271 : decode cX14_firstRound 271 = .ok (.getfield 584, 3) := by decide +kernel
theorem dX14_firstRound_274 : decode cX14_firstRound 274 = .ok (.invokevirtual 608, 3) := by decide +kernel
theorem dX14_firstRound_277 : decode cX14_firstRound 277 = .ok (.istore_n 1, 1) := by decide +kernel
theorem dX14_firstRound_278 : decode cX14_firstRound 278 = .ok (.iload_n 1, 1) := by decide +kernel
theorem dX14_firstRound_279 : decode cX14_firstRound 279 = .ok (.ifCond .ge 14, 3) := by decide +kernel
theorem dX14_firstRound_282 : decode cX14_firstRound 282 = .ok (.aload_n 0, 1) := by decide +kernel
theorem dX14_firstRound_283 : decode cX14_firstRound 283 = .ok (.iconst 5, 1) := by decide +kernel
theorem dX14_firstRound_284 : decode cX14_firstRound 284 = .ok (.aload_n 0, 1) := by decide +kernel
theorem dX14_firstRound_285 : decode cX14_firstRound 285 = .ok (.getfield 369, 3) := by decide +kernel
theorem dX14_firstRound_288 : decode cX14_firstRound 288 = .ok (.iconst 1, 1) := by decide +kernel
theorem dX14_firstRound_289 : decode cX14_firstRound 289 = .ok (.isub, 1) := by decide +kernel
theorem dX14_firstRound_290 : decode cX14_firstRound 290 = .ok (.invokevirtual 564, 3) := by decide +kernel
theorem dX14_firstRound_293 : decode cX14_firstRound 293 = .ok (.aload_n 0, 1) := by decide +kernel
theorem dX14_firstRound_294 : decode cX14_firstRound 294 = .ok (.aload_n 0, 1) := by decide +kernel
theorem dX14_firstRound_295 : decode cX14_firstRound 295 = .ok (.getfield 571, 3) := by decide +kernel
theorem dX14_firstRound_298 : decode cX14_firstRound 298 = .ok (.bipush 60, 2) := by decide +kernel
theorem dX14_firstRound_300 : decode cX14_firstRound 300 = .ok (.if_icmp .gt 31, 3) := by decide +kernel
theorem dX14_firstRound_303 : decode cX14_firstRound 303 = .ok (.aload_n 0, 1) := by decide +kernel
theorem dX14_firstRound_304 : decode cX14_firstRound 304 = .ok (.getfield 547, 3) := by decide +kernel
theorem dX14_firstRound_307 : decode cX14_firstRound 307 = .ok (.sipush 300, 3) := by decide +kernel
theorem dX14_firstRound_310 : decode cX14_firstRound 310 = .ok (.if_icmp .gt 21, 3) := by decide +kernel
theorem dX14_firstRound_313 : decode cX14_firstRound 313 = .ok (.aload_n 0, 1) := by decide +kernel
theorem dX14_firstRound_314 : decode cX14_firstRound 314 = .ok (.getfield 558, 3) := by decide +kernel
theorem dX14_firstRound_317 : decode cX14_firstRound 317 = .ok (.bipush 33, 2) := by decide +kernel
theorem dX14_firstRound_319 : decode cX14_firstRound 319 = .ok (.if_icmp .gt 12, 3) := by decide +kernel
theorem dX14_firstRound_322 : decode cX14_firstRound 322 = .ok (.aload_n 0, 1) := by decide +kernel
theorem dX14_firstRound_323 : decode cX14_firstRound 323 = .ok (.getfield 544, 3) := by decide +kernel
theorem dX14_firstRound_326 : decode cX14_firstRound 326 = .ok (.bipush 65, 2) := by decide +kernel
theorem dX14_firstRound_328 : decode cX14_firstRound 328 = .ok (.if_icmp .le 7, 3) := by decide +kernel
theorem dX14_firstRound_331 : decode cX14_firstRound 331 = .ok (.iconst 1, 1) := by decide +kernel
theorem dX14_firstRound_332 : decode cX14_firstRound 332 = .ok (.goto 4, 3) := by decide +kernel
theorem dX14_firstRound_335 : decode cX14_firstRound 335 = .ok (.iconst 0, 1) := by decide +kernel
theorem dX14_firstRound_336 : decode cX14_firstRound 336 = .ok (.invokevirtual 611, 3) := by decide +kernel
theorem dX14_firstRound_339 : decode cX14_firstRound 339 = .ok (.return_, 1) := by decide +kernel
section AXW
variable {p : Program} {l : Launch} {e : Env} {R : Room} {s : State} {m : MethodId} {args : Array Value} {below : List Frame} {meth : Method} {c : Code} {H : Heap} {locs : List Loc} {cells slots : Nat} {Q : State → Prop}
/-- a constant text by a wide index -/
theorem ax_ldcwS {cc : ByteArray} {pc : Nat} {ls : Array Slot} {rest : List Value} (hexec : p.tables.exec = Jvm.exec) (hb : c.code = cc) {own tx : String} {index q : Nat} (hown : s.vm.findClass own = some m.cls) (hZ : vk_R own index tx q s) (hdg : decode cc pc = .ok (.ldc_w index, 3))
    (k : W p l e R s m args below meth c H locs cells slots Q (F0 m (pc + 3) ls (.ref q :: rest))) : W p l e R s m args below meth c H locs cells slots Q (F0 m pc ls rest) := by
  intro T hT X
  obtain ⟨t, a1, b1⟩ := k T hT X
  exact ⟨t, X.ldcStringW hexec hown (text := tx) (a := q) hZ.1 hZ.2 (g := F0 m pc ls rest) rfl (by rw [hb]; exact hdg) t a1, b1⟩
end AXW

def pw_c_X14_nameOf_ : List Cond := .code yX14_nameOf_ cX14_nameOf_ 3 (some .int) :: ([.methodLink RX14 353 yJ0_length_8abf5, .instanceMethod yJ0_length_8abf5, .selects RJ0 yJ0_length_8abf5 yJ0_length_8abf5, .initialized RJ0, .code yJ0_length_8abf5 cJ0_length_8abf5 1 (some .int), .fieldLink RJ0 9 "java/lang/String" "value" "[B", .methodLink RJ0 335 yJ0_coder_7d493, .instanceMethod yJ0_coder_7d493, .selects RJ0 yJ0_coder_7d493 yJ0_coder_7d493, .code yJ0_coder_7d493 cJ0_coder_7d493 1 (some .byte), .fieldLink RJ0 38 "java/lang/String" "COMPACT_STRINGS" "Z", .fieldLink RJ0 15 "java/lang/String" "coder" "B", .fieldLink RX14 113 "NeedHouseModel" "small" "[I", .methodLink RX14 361 yX14_nameOf, .instanceMethod yX14_nameOf, .selects RX14 yX14_nameOf yX14_nameOf, .initialized RX14, .code yX14_nameOf cX14_nameOf 7 (some .int), .fieldLink RX14 350 "NeedHouseModel" "names" "I", .fieldLink RX14 110 "NeedHouseModel" "nameFrom" "[I", .fieldLink RX14 107 "NeedHouseModel" "letters" "[I", .methodLink RX14 357 yJ0_charAt_5068e, .instanceMethod yJ0_charAt_5068e, .selects RJ0 yJ0_charAt_5068e yJ0_charAt_5068e, .code yJ0_charAt_5068e cJ0_charAt_5068e 2 (some .char), .methodLink RJ0 492 yJ0_isLatin1_aae02, .instanceMethod yJ0_isLatin1_aae02, .selects RJ0 yJ0_isLatin1_aae02 yJ0_isLatin1_aae02, .code yJ0_isLatin1_aae02 cJ0_isLatin1_aae02 1 (some .boolean), .methodLink RJ0 495 yJ1_charAt_3b067, .static yJ1_charAt_3b067, .initialized RJ1, .code yJ1_charAt_3b067 cJ1_charAt_3b067 2 (some .char), .methodLink RJ1 9 yJ0_checkIndex_df160, .static yJ0_checkIndex_df160, .code yJ0_checkIndex_df160 cJ0_checkIndex_df160 2 none, .fieldLink RJ0 1053 "jdk/internal/util/Preconditions" "SIOOBE_FORMATTER" "Ljava/util/function/BiFunction;", .methodLink RJ0 1059 yJ3_checkIndex_8e157, .static yJ3_checkIndex_8e157, .initialized RJ3, .code yJ3_checkIndex_8e157 cJ3_checkIndex_8e157 3 (some .int)] ++ (wsX140 ++ []))
set_option maxRecDepth 20000 in
theorem g_c_X14_nameOf__c_J0_length_8abf5_4 : GoodIn pw_c_X14_nameOf_ (wsV RX14 353 RJ0 yJ0_length_8abf5 pw_c_J0_length_8abf5) := goodIn_r _ [1, 2, 3, 4, 5, 6, 7, 8, 9, 4, 10, 11, 12] rfl (by decide +kernel)
set_option maxRecDepth 20000 in
theorem g_c_X14_nameOf__c_J0_length_8abf5_34 : GoodIn pw_c_X14_nameOf_ (wsV RX14 353 RJ0 yJ0_length_8abf5 pw_c_J0_length_8abf5) := goodIn_r _ [1, 2, 3, 4, 5, 6, 7, 8, 9, 4, 10, 11, 12] rfl (by decide +kernel)
set_option maxRecDepth 20000 in
theorem g_c_X14_nameOf__c_X14_nameOf_37 : GoodIn pw_c_X14_nameOf_ (wsV RX14 361 RX14 yX14_nameOf pw_c_X14_nameOf) := goodIn_r _ [14, 15, 16, 17, 18, 19, 20, 21, 42, 43, 44, 45, 46, 47, 48, 49, 50, 51, 52, 53, 54, 55, 56, 57, 58, 59, 60, 61, 62, 63, 64, 65, 66, 67, 68, 69, 70, 71, 72, 73, 74, 75, 76, 77, 78, 79, 80, 81, 82, 83, 84, 85, 86, 87, 88, 89, 90, 91, 92, 93, 94, 95, 96, 97, 98, 99, 100, 101, 102, 103, 104, 105, 106, 107, 108, 109, 110, 111, 112, 113, 114, 115, 116, 117, 118, 119, 120, 121, 122, 123, 124, 125, 126, 127, 128, 129, 130, 131, 132, 133, 134, 135, 136, 137, 138, 139, 140, 141, 142, 143, 144, 145, 146, 147, 148, 149, 150, 151, 152, 153, 154, 155, 156, 157, 158, 159, 160, 161, 162, 163, 164, 165, 166, 167, 168, 169, 170, 171, 172, 173, 174, 175, 176, 177] rfl (by decide +kernel)
set_option maxRecDepth 20000 in
theorem g_c_X14_nameOf__c_J0_charAt_5068e_17 : GoodIn pw_c_X14_nameOf_ (wsV RX14 357 RJ0 yJ0_charAt_5068e pw_c_J0_charAt_5068e) := goodIn_r _ [22, 23, 24, 4, 25, 26, 27, 28, 4, 29, 11, 12, 6, 30, 31, 32, 33, 34, 35, 36, 37, 38, 39, 40, 41] rfl (by decide +kernel)
set_option maxHeartbeats 4000000 in
set_option maxRecDepth 100000 in
theorem c_X14_nameOf_ (l : Launch) (dC : Nat → ClassId) (dI : Nat → Nat → Nat) (sz : Nat) (h0 : Nat) (qr : Nat) (qf : Nat) (ql : Nat) (cI : ClassId) (fs : List Value) (gs : Nat → Int32) (nf : Nat → Int32) (lt : Nat → Int32) (N : Nat) (qs : Nat) (qv : Nat) (n : Nat) (g : Nat → Int32) (hF : hasF fs 136 [(13, .int (nI N)), (12, .ref qf), (11, .ref ql), (14, .ref qr)]) (hN : N ≤ 100) (hn : n ≤ 12) (hnm : nmI N nf) : Met l yX14_nameOf_ pw_c_X14_nameOf_ ({ frames := 4, cells := 0, slots := 0, locals := 85 }) (va_Pc [.ref h0, .ref qs] (fun U => U.heap.size = sz ∧ va_P (dC, dI) vwCl [(h0, .inr (14, fs)), (qr, .inl (cI, 12, .inl gs)), (qf, .inl (cI, 4040, .inl nf)), (ql, .inl (cI, 4100, .inl lt))] U.heap ∧ va_K (dC, dI) vwCl [(cI, .int)] U ∧ va_D (fun _ => True) [(h0, .inr (14, fs)), (qr, .inl (cI, 12, .inl gs)), (qf, .inl (cI, 4040, .inl nf)), (ql, .inl (cI, 4100, .inl lt))] ∧ strO qs qv n g (va_A [(h0, .inr (14, fs)), (qr, .inl (cI, 12, .inl gs)), (qf, .inl (cI, 4040, .inl nf)), (ql, .inl (cI, 4100, .inl lt))] sz) U U.heap ∧ jdkO (va_A [(h0, .inr (14, fs)), (qr, .inl (cI, 12, .inl gs)), (qf, .inl (cI, 4040, .inl nf)), (ql, .inl (cI, 4100, .inl lt))] sz) U U.heap)) (va_Qi (fun (r : Int32) (u : (List Value) × (Nat → Int32) × (Nat → Int32) × (Nat → Int32) × (Nat)) => hasF u.1 136 [(13, .int (nI u.2.2.2.2))] ∧ sameF fs u.1 [13] ∧ u.2.2.2.2 ≤ N + 1 ∧ nmI u.2.2.2.2 u.2.2.1) (fun (u : (List Value) × (Nat → Int32) × (Nat → Int32) × (Nat → Int32) × (Nat)) (t : State) => va_P (dC, dI) vwCl [(h0, .inr (14, u.1)), (qr, .inl (cI, 12, .inl u.2.1)), (qf, .inl (cI, 4040, .inl u.2.2.1)), (ql, .inl (cI, 4100, .inl u.2.2.2.1))] t.heap ∧ va_K (dC, dI) vwCl [(cI, .int)] t ∧ va_D (va_A [(h0, .inr (14, fs)), (qr, .inl (cI, 12, .inl gs)), (qf, .inl (cI, 4040, .inl nf)), (ql, .inl (cI, 4100, .inl lt))] sz) [(h0, .inr (14, u.1)), (qr, .inl (cI, 12, .inl u.2.1)), (qf, .inl (cI, 4040, .inl u.2.2.1)), (ql, .inl (cI, 4100, .inl u.2.2.2.1))]) (va_A [(h0, .inr (14, fs)), (qr, .inl (cI, 12, .inl gs)), (qf, .inl (cI, 4040, .inl nf)), (ql, .inl (cI, 4100, .inl lt))] sz)) 0 0 (va_A [(h0, .inr (14, fs)), (qr, .inl (cI, 12, .inl gs)), (qf, .inl (cI, 4040, .inl nf)), (ql, .inl (cI, 4100, .inl lt))] sz) := by
  refine Met.ofW (cc := cX14_nameOf_) (maxL := 3) (ret := (some .int)) (by decide) rfl ?_
  intro p e s m args below meth c s₁ B hml hv
  obtain ⟨rfl, hsz, hP, hK, hD0, hStr, hJ⟩ := hv
  have hx := B.exec
  have hb := B.bytes
  have hr := B.returns
  have hts := atoms_spec (ws := pw_c_X14_nameOf_) B.pre
  have hown : s.vm.findClass RX14 = some m.cls := findClass_of_methodNamed B.named
  have hlocks := B.notSynchronized
  have hin_X14 : ∀ w ∈ u_ws RX14 TX14 136, w ∈ pw_c_X14_nameOf_ := fun w h => List.mem_cons_of_mem _ (List.mem_append_right _ (List.mem_append_left _ h))
  subst hsz
  have hD := hD0.self (sz := s.heap.size)
  generalize hAe : va_A [(h0, .inr (14, fs)), (qr, .inl (cI, 12, .inl gs)), (qf, .inl (cI, 4040, .inl nf)), (ql, .inl (cI, 4100, .inl lt))] s.heap.size = A at hD hStr hJ ⊢
  have hA : ∀ q : Nat, s.heap.size ≤ q → A q := fun q h => by rw [← hAe]; exact Or.inr h
  have hS : va_S A s.heap s.heap [] := va_S.rf
  have hP : va_P (dC, dI) vwCl [(h0, .inr (14, fs)), (qr, .inl (cI, 12, .inl gs)), (qf, .inl (cI, 4040, .inl nf)), (ql, .inl (cI, 4100, .inl lt))] s.heap := hP
  have hl := lv_entry ([.ref h0, .ref qs]) (n := 3) (Nat.le_of_ble_eq_true rfl)
  rw [lg_entry_eq]
  generalize (lg_sl ([.ref h0, .ref qs]) ++ List.replicate (3 - (lg_sl ([.ref h0, .ref qs])).length) Slot.unset).toArray = ls at hl ⊢
  have hl : lv_has ls 3 [(0, .ref h0), (1, .ref qs)] := hl
  refine lv_iconst (v := 0) hx hb dX14_nameOf__0 (by decide) ?_
  refine lv_istore_n (lv' := [(2, .int 0), (0, .ref h0), (1, .ref qs)]) hx hb dX14_nameOf__1 rfl hl (by decide) rfl (fun ls hl => ?_)
  obtain ⟨H, hHe⟩ : ∃ z : Heap, z = s.heap := ⟨_, rfl⟩
  have hS : va_S A s.heap H [] := by rw [hHe]; exact hS
  have hP : va_P (dC, dI) vwCl [(h0, .inr (14, fs)), (qr, .inl (cI, 12, .inl gs)), (qf, .inl (cI, 4040, .inl nf)), (ql, .inl (cI, 4100, .inl lt))] H := by rw [hHe]; exact hP
  rw [← hHe]
  clear hHe
  generalize ([] : List Loc) = locs at hS ⊢
  obtain ⟨f_1, hq_f_1⟩ : ∃ z, z = gs := ⟨_, rfl⟩
  obtain ⟨i, hq_i⟩ : ∃ z : Nat, z = 0 := ⟨_, rfl⟩
  have hP : va_P (dC, dI) vwCl [(h0, .inr (14, fs)), (qr, .inl (cI, 12, .inl f_1)), (qf, .inl (cI, 4040, .inl nf)), (ql, .inl (cI, 4100, .inl lt))] H := by (try rw [hq_f_1]); (try rw [hq_i]); exact hP
  have hD : va_D A [(h0, .inr (14, fs)), (qr, .inl (cI, 12, .inl f_1)), (qf, .inl (cI, 4040, .inl nf)), (ql, .inl (cI, 4100, .inl lt))] := by (try rw [hq_f_1]); (try rw [hq_i]); exact hD
  have hl : lv_has ls 3 [(2, .int (nI i)), (0, .ref h0), (1, .ref qs)] := by (try rw [hq_f_1]); (try rw [hq_i]); exact hl
  have hi : i ≤ n := by (try rw [hq_f_1]); omega
  obtain ⟨fu_2, hfu_2⟩ : ∃ z : Nat, n - i < z := ⟨_, Nat.lt_succ_self _⟩
  clear hq_i
  clear hq_f_1
  revert hl
  revert hS
  revert hD
  revert hP
  revert hi
  revert hfu_2
  generalize ls = ls_, locs = locs_, H = H_
  revert ls_
  revert locs_
  revert H_
  revert f_1
  revert i
  induction fu_2 with
  | zero => intros; exact absurd (by assumption) (Nat.not_lt_zero _)
  | succ fu_2 ih_3 =>
    intro i f_1 H locs ls hfu_2 hi hP hD hS hl
    refine lv_iload_n hx hb dX14_nameOf__2 rfl (lv_at hl 0 rfl) ?_
    refine lv_aload_n hx hb dX14_nameOf__3 rfl (lv_at hl 2 rfl) ?_
    have hPc := hP.sub (ws' := []) [] rfl
    have hDc := hD.sub (ws' := []) [] (by decide) rfl
    have hKc := hK.sub (tys' := []) [] rfl
    have hFc := va_free (wc := []) hD hS hA [] rfl
    refine va_calli (va_runV (As := []) (rest := [.int (nI i)]) ⟨hx, hb, hml, hown, hts⟩ (c_J0_length_8abf5 l dC dI H.size qs qv n g ) (cwV 0 hts g_c_X14_nameOf__c_J0_length_8abf5_4 rfl rfl rfl (by decide +kernel) ⟨Nat.le_of_ble_eq_true rfl, Nat.le_of_ble_eq_true rfl⟩) ⟨fun a U g mk q => by obtain ⟨q0, q1, qP, qK, qD, hStr, hJ⟩ := q; exact ⟨q0, q1, qP, va_K.moved (u := U) (U := U.calling g mk a) (Vm.Alike.refl U.vm) qK, qD, hStr.moved (Vm.Alike.refl U.vm), hJ.moved (Vm.Alike.refl U.vm)⟩, by obtain ⟨cell, h1, h2, h3, -⟩ := hStr.1.kept hS.2.1; exact ⟨cell, h1, h2, h3⟩, fun U hU hW => ⟨rfl, by rw [hU], by rw [hU]; exact hPc, va_K.moved hW.alike hKc, hDc.weaken (fun _ _ _ _ => trivial), by rw [hU]; exact ((hStr.kept hS.2.1).narrow hFc).moved hW.alike, by rw [hU]; exact ((hJ.kept hS.2.1).narrow hFc).moved hW.alike⟩⟩ rfl rfl hl.1 rfl (lv_room (Nat.le_of_ble_eq_true rfl)) dX14_nameOf__4 ⟨show 0 + 0 ≤ 0 by decide, show 0 + 0 ≤ 0 by decide⟩) hS (fun q _ h => hFc q h) hFc (fun r_4 u t H1 locs ht hvm hw hB hz1 hk1 hS => ?_)
    obtain ⟨hP1, hK1, hD1⟩ := hB
    rw [ht] at hP1
    have hK1 := va_K.moved hvm.symm hK1
    try dsimp only at hw hP1 hK1 hD1
    have hr_6 := hw
    obtain ⟨hP, hD⟩ := va_join (wr := [(h0, .inr (14, fs)), (qr, .inl (cI, 12, .inl f_1)), (qf, .inl (cI, 4040, .inl nf)), (ql, .inl (cI, 4100, .inl lt))]) (w1 := []) hP hD [] [0, 1, 2, 3] rfl rfl (by decide) (by decide) hk1 hFc hP1 hD1
    generalize H1 = H at hP hS ⊢
    have hK := (hK.sub (tys' := [(cI, .int)]) [0] rfl).app hK1
    have hK : va_K (dC, dI) vwCl [(cI, .int)] s := hK
    have hP : va_P (dC, dI) vwCl [(h0, .inr (14, fs)), (qr, .inl (cI, 12, .inl f_1)), (qf, .inl (cI, 4040, .inl nf)), (ql, .inl (cI, 4100, .inl lt))] H := hP
    have hD : va_D A [(h0, .inr (14, fs)), (qr, .inl (cI, 12, .inl f_1)), (qf, .inl (cI, 4040, .inl nf)), (ql, .inl (cI, 4100, .inl lt))] := hD
    subst hr_6
    refine lv_icmp_ge (tgt := 27) hx hb dX14_nameOf__7 (by decide) (fun c_7 => ?_) (fun c_7 => ?_)
    ·
      refine lv_aload_n hx hb dX14_nameOf__27 rfl (lv_at hl 1 rfl) ?_
      refine lv_aload_n hx hb dX14_nameOf__28 rfl (lv_at hl 1 rfl) ?_
      refine va_get (D := (dC, dI)) (ci := 14) (v := .ref qr) (C := RX14) (T := TX14) (N := 136) hx hb hts hin_X14 hown hK hP 0 rfl rfl 14 (by decide) (hts (.fieldLink RX14 113 "NeedHouseModel" "small" "[I") (List.mem_of_getElem? (i := 13) rfl)) (fun _ h9 => h9) (hF.at 3 rfl) dX14_nameOf__29 ?_
      refine lv_iconst (v := 0) hx hb dX14_nameOf__32 (by decide) ?_
      refine lv_aload_n hx hb dX14_nameOf__33 rfl (lv_at hl 2 rfl) ?_
      have hPc := hP.sub (ws' := []) [] rfl
      have hDc := hD.sub (ws' := []) [] (by decide) rfl
      have hKc := hK.sub (tys' := []) [] rfl
      have hFc := va_free (wc := []) hD hS hA [] rfl
      refine va_calli (va_runV (As := []) (rest := [.int 0, .ref qr, .ref h0]) ⟨hx, hb, hml, hown, hts⟩ (c_J0_length_8abf5 l dC dI H.size qs qv n g ) (cwV 0 hts g_c_X14_nameOf__c_J0_length_8abf5_34 rfl rfl rfl (by decide +kernel) ⟨Nat.le_of_ble_eq_true rfl, Nat.le_of_ble_eq_true rfl⟩) ⟨fun a U g mk q => by obtain ⟨q0, q1, qP, qK, qD, hStr, hJ⟩ := q; exact ⟨q0, q1, qP, va_K.moved (u := U) (U := U.calling g mk a) (Vm.Alike.refl U.vm) qK, qD, hStr.moved (Vm.Alike.refl U.vm), hJ.moved (Vm.Alike.refl U.vm)⟩, by obtain ⟨cell, h1, h2, h3, -⟩ := hStr.1.kept hS.2.1; exact ⟨cell, h1, h2, h3⟩, fun U hU hW => ⟨rfl, by rw [hU], by rw [hU]; exact hPc, va_K.moved hW.alike hKc, hDc.weaken (fun _ _ _ _ => trivial), by rw [hU]; exact ((hStr.kept hS.2.1).narrow hFc).moved hW.alike, by rw [hU]; exact ((hJ.kept hS.2.1).narrow hFc).moved hW.alike⟩⟩ rfl rfl hl.1 rfl (lv_room (Nat.le_of_ble_eq_true rfl)) dX14_nameOf__34 ⟨show 0 + 0 ≤ 0 by decide, show 0 + 0 ≤ 0 by decide⟩) hS (fun q _ h => hFc q h) hFc (fun r_8 u t H1 locs ht hvm hw hB hz1 hk1 hS => ?_)
      obtain ⟨hP1, hK1, hD1⟩ := hB
      rw [ht] at hP1
      have hK1 := va_K.moved hvm.symm hK1
      try dsimp only at hw hP1 hK1 hD1
      have hr_10 := hw
      obtain ⟨hP, hD⟩ := va_join (wr := [(h0, .inr (14, fs)), (qr, .inl (cI, 12, .inl f_1)), (qf, .inl (cI, 4040, .inl nf)), (ql, .inl (cI, 4100, .inl lt))]) (w1 := []) hP hD [] [0, 1, 2, 3] rfl rfl (by decide) (by decide) hk1 hFc hP1 hD1
      generalize H1 = H at hP hS ⊢
      have hK := (hK.sub (tys' := [(cI, .int)]) [0] rfl).app hK1
      have hK : va_K (dC, dI) vwCl [(cI, .int)] s := hK
      have hP : va_P (dC, dI) vwCl [(h0, .inr (14, fs)), (qr, .inl (cI, 12, .inl f_1)), (qf, .inl (cI, 4040, .inl nf)), (ql, .inl (cI, 4100, .inl lt))] H := hP
      have hD : va_D A [(h0, .inr (14, fs)), (qr, .inl (cI, 12, .inl f_1)), (qf, .inl (cI, 4040, .inl nf)), (ql, .inl (cI, 4100, .inl lt))] := hD
      subst hr_10
      have hPc := hP.sub (ws' := [(h0, .inr (14, fs)), (qr, .inl (cI, 12, .inl f_1)), (qf, .inl (cI, 4040, .inl nf)), (ql, .inl (cI, 4100, .inl lt))]) [0, 1, 2, 3] rfl
      have hDc := hD.sub (ws' := [(h0, .inr (14, fs)), (qr, .inl (cI, 12, .inl f_1)), (qf, .inl (cI, 4040, .inl nf)), (ql, .inl (cI, 4100, .inl lt))]) [0, 1, 2, 3] (by decide) rfl
      have hKc := hK.sub (tys' := [(cI, .int)]) [0] rfl
      have hFc := va_free (wc := [(h0, .inr (14, fs)), (qr, .inl (cI, 12, .inl f_1)), (qf, .inl (cI, 4040, .inl nf)), (ql, .inl (cI, 4100, .inl lt))]) hD hS hA [0, 1, 2, 3] rfl
      refine va_calli (va_runV (As := [.ref qr, .int 0, .int (nI n)]) (rest := []) ⟨hx, hb, hml, hown, hts⟩ (c_X14_nameOf l dC dI H.size h0 qr qf ql cI fs f_1 nf lt N n (hF.sub [0, 1, 2] rfl) (hN) (hn) (hnm)) (cwV 3 hts g_c_X14_nameOf__c_X14_nameOf_37 rfl rfl rfl (by decide +kernel) ⟨Nat.le_of_ble_eq_true rfl, Nat.le_of_ble_eq_true rfl⟩) ⟨fun a U g mk q => by obtain ⟨q0, q1, qP, qK, qD⟩ := q; exact ⟨q0, q1, qP, va_K.moved (u := U) (U := U.calling g mk a) (Vm.Alike.refl U.vm) qK, qD⟩, va_recv hKc hPc (ci := 14) (q0 := 0) rfl rfl, fun U hU hW => ⟨rfl, by rw [hU], by rw [hU]; exact hPc, va_K.moved hW.alike hKc, hDc.weaken (fun _ _ _ _ => trivial)⟩⟩ rfl rfl hl.1 rfl (lv_room (Nat.le_of_ble_eq_true rfl)) dX14_nameOf__37 ⟨show 0 + 0 ≤ 0 by decide, show 0 + 0 ≤ 0 by decide⟩) hS (fun q _ h => hFc q h) hFc (fun r_11 u t H1 locs ht hvm hw hB hz1 hk1 hS => ?_)
      obtain ⟨fs1_13, nf1_14, lt1_15, N1_16⟩ := u
      obtain ⟨hP1, hK1, hD1⟩ := hB
      rw [ht] at hP1
      have hK1 := va_K.moved hvm.symm hK1
      try dsimp only at hw hP1 hK1 hD1
      obtain ⟨hF_17, hE_18, hX_19, hX_20⟩ := hw
      obtain ⟨hP, hD⟩ := va_join (wr := []) (w1 := [(h0, .inr (14, fs1_13)), (qr, .inl (cI, 12, .inl f_1)), (qf, .inl (cI, 4040, .inl nf1_14)), (ql, .inl (cI, 4100, .inl lt1_15))]) hP hD [0, 1, 2, 3] [] rfl rfl (by decide) (by decide) hk1 hFc hP1 hD1
      generalize H1 = H at hP hS ⊢
      have hK := (hK.sub (tys' := []) [] rfl).app hK1
      have hK : va_K (dC, dI) vwCl [(cI, .int)] s := hK
      have hP : va_P (dC, dI) vwCl [(h0, .inr (14, fs1_13)), (qr, .inl (cI, 12, .inl f_1)), (qf, .inl (cI, 4040, .inl nf1_14)), (ql, .inl (cI, 4100, .inl lt1_15))] H := hP
      have hD : va_D A [(h0, .inr (14, fs1_13)), (qr, .inl (cI, 12, .inl f_1)), (qf, .inl (cI, 4040, .inl nf1_14)), (ql, .inl (cI, 4100, .inl lt1_15))] := hD
      have hF_21 := hF.same hE_18 (l' := [(12, .ref qf), (11, .ref ql), (14, .ref qr)]) rfl
      have hF_22 := hF_17.app hF_21
      have hE_23 := (sameF.rf (f := fs)).trans hE_18
      have hP9 := hP.sub (ws' := [(h0, .inr (14, fs1_13)), (qr, .inl (cI, 12, .inl f_1)), (qf, .inl (cI, 4040, .inl nf1_14)), (ql, .inl (cI, 4100, .inl lt1_15))]) [0, 1, 2, 3] rfl
      have hD9 := hD.sub (ws' := [(h0, .inr (14, fs1_13)), (qr, .inl (cI, 12, .inl f_1)), (qf, .inl (cI, 4040, .inl nf1_14)), (ql, .inl (cI, 4100, .inl lt1_15))]) [0, 1, 2, 3] (by decide) rfl
      have hK9 := hK.sub (tys' := [(cI, .int)]) [0] rfl
      exact W.iret (v := r_11) hx hb hr (fun t ht hW => ⟨⟨r_11, ((fs1_13, f_1, nf1_14, lt1_15, N1_16)), rfl, ⟨hF_22.sub [0] rfl, hE_23.mono (by decide), hX_19, hX_20⟩, by rw [ht]; exact hP9, va_K.moved hW.alike hK9, hD9⟩, hS.F ht⟩) hS.2.2 dX14_nameOf__40
    ·
      have hlt : i < n := by rcases Nat.lt_or_ge i n with q | q; exact q; exact absurd (nI_le q (by omega)) c_7
      refine lv_aload_n hx hb dX14_nameOf__10 rfl (lv_at hl 1 rfl) ?_
      refine va_get (D := (dC, dI)) (ci := 14) (v := .ref qr) (C := RX14) (T := TX14) (N := 136) hx hb hts hin_X14 hown hK hP 0 rfl rfl 14 (by decide) (hts (.fieldLink RX14 113 "NeedHouseModel" "small" "[I") (List.mem_of_getElem? (i := 13) rfl)) (fun _ h9 => h9) (hF.at 3 rfl) dX14_nameOf__11 ?_
      refine lv_iload_n hx hb dX14_nameOf__14 rfl (lv_at hl 0 rfl) ?_
      refine lv_aload_n hx hb dX14_nameOf__15 rfl (lv_at hl 2 rfl) ?_
      refine lv_iload_n hx hb dX14_nameOf__16 rfl (lv_at hl 0 rfl) ?_
      have hPc := hP.sub (ws' := []) [] rfl
      have hDc := hD.sub (ws' := []) [] (by decide) rfl
      have hKc := hK.sub (tys' := []) [] rfl
      have hFc := va_free (wc := []) hD hS hA [] rfl
      refine va_calli (va_runV (As := [.int (nI i)]) (rest := [.int (nI i), .ref qr]) ⟨hx, hb, hml, hown, hts⟩ (c_J0_charAt_5068e l dC dI H.size qs qv n g i (hlt)) (cwV 1 hts g_c_X14_nameOf__c_J0_charAt_5068e_17 rfl rfl rfl (by decide +kernel) ⟨Nat.le_of_ble_eq_true rfl, Nat.le_of_ble_eq_true rfl⟩) ⟨fun a U g mk q => by obtain ⟨q0, q1, qP, qK, qD, hStr, hJ⟩ := q; exact ⟨q0, q1, qP, va_K.moved (u := U) (U := U.calling g mk a) (Vm.Alike.refl U.vm) qK, qD, hStr.moved (Vm.Alike.refl U.vm), hJ.moved (Vm.Alike.refl U.vm)⟩, by obtain ⟨cell, h1, h2, h3, -⟩ := hStr.1.kept hS.2.1; exact ⟨cell, h1, h2, h3⟩, fun U hU hW => ⟨rfl, by rw [hU], by rw [hU]; exact hPc, va_K.moved hW.alike hKc, hDc.weaken (fun _ _ _ _ => trivial), by rw [hU]; exact ((hStr.kept hS.2.1).narrow hFc).moved hW.alike, by rw [hU]; exact ((hJ.kept hS.2.1).narrow hFc).moved hW.alike⟩⟩ rfl rfl hl.1 rfl (lv_room (Nat.le_of_ble_eq_true rfl)) dX14_nameOf__17 ⟨show 0 + 0 ≤ 0 by decide, show 0 + 0 ≤ 0 by decide⟩) hS (fun q _ h => hFc q h) hFc (fun r_24 u t H1 locs ht hvm hw hB hz1 hk1 hS => ?_)
      obtain ⟨hP1, hK1, hD1⟩ := hB
      rw [ht] at hP1
      have hK1 := va_K.moved hvm.symm hK1
      try dsimp only at hw hP1 hK1 hD1
      have hr_26 := hw
      obtain ⟨hP, hD⟩ := va_join (wr := [(h0, .inr (14, fs)), (qr, .inl (cI, 12, .inl f_1)), (qf, .inl (cI, 4040, .inl nf)), (ql, .inl (cI, 4100, .inl lt))]) (w1 := []) hP hD [] [0, 1, 2, 3] rfl rfl (by decide) (by decide) hk1 hFc hP1 hD1
      generalize H1 = H at hP hS ⊢
      have hK := (hK.sub (tys' := [(cI, .int)]) [0] rfl).app hK1
      have hK : va_K (dC, dI) vwCl [(cI, .int)] s := hK
      have hP : va_P (dC, dI) vwCl [(h0, .inr (14, fs)), (qr, .inl (cI, 12, .inl f_1)), (qf, .inl (cI, 4040, .inl nf)), (ql, .inl (cI, 4100, .inl lt))] H := hP
      have hD : va_D A [(h0, .inr (14, fs)), (qr, .inl (cI, 12, .inl f_1)), (qf, .inl (cI, 4040, .inl nf)), (ql, .inl (cI, 4100, .inl lt))] := hD
      subst hr_26
      refine va_iast hx hb hK hP hD hS 1 0 rfl rfl (vp_in_nI (by omega) (by decide)) dX14_nameOf__20 (fun H locs hP hD hS => ?_)
      have hP : va_P (dC, dI) vwCl [(h0, .inr (14, fs)), (qr, .inl (cI, 12, .inl (upd f_1 (nI i : Int32).toNatClampNeg (g i &&& 255)))), (qf, .inl (cI, 4040, .inl nf)), (ql, .inl (cI, 4100, .inl lt))] H := hP
      have hD : va_D A [(h0, .inr (14, fs)), (qr, .inl (cI, 12, .inl (upd f_1 (nI i : Int32).toNatClampNeg (g i &&& 255)))), (qf, .inl (cI, 4040, .inl nf)), (ql, .inl (cI, 4100, .inl lt))] := hD
      generalize upd f_1 (nI i : Int32).toNatClampNeg (g i &&& 255) = f_27 at hP hD
      have hP : va_P (dC, dI) vwCl [(h0, .inr (14, fs)), (qr, .inl (cI, 12, .inl f_27)), (qf, .inl (cI, 4040, .inl nf)), (ql, .inl (cI, 4100, .inl lt))] H := hP
      have hD : va_D A [(h0, .inr (14, fs)), (qr, .inl (cI, 12, .inl f_27)), (qf, .inl (cI, 4040, .inl nf)), (ql, .inl (cI, 4100, .inl lt))] := hD
      refine lv_iinc (v := (nI (i + 1))) (lv' := [(2, .int (nI (i + 1))), (0, .ref h0), (1, .ref qs)]) hx hb dX14_nameOf__21 hl (k := 0) rfl (by first | exact nI_1 _ | exact nI_add _ _) (by decide) rfl (fun ls hl => ?_)
      refine lv_goto (tgt := 2) hx hb dX14_nameOf__24 (by decide) ?_
      refine ih_3 (i + 1) (f_27) _ _ ls ?_ (by omega) (hP.sub (ws' := [(h0, .inr (14, fs)), (qr, .inl (cI, 12, .inl (f_27))), (qf, .inl (cI, 4040, .inl nf)), (ql, .inl (cI, 4100, .inl lt))]) [0, 1, 2, 3] rfl) (hD.sub (ws' := [(h0, .inr (14, fs)), (qr, .inl (cI, 12, .inl (f_27))), (qf, .inl (cI, 4040, .inl nf)), (ql, .inl (cI, 4100, .inl lt))]) [0, 1, 2, 3] (by decide) rfl) hS (lv_sub hl [0, 1, 2] rfl)
      omega
def pw_c_X14_con : List Cond := .code yX14_con cX14_con 5 none :: ([.fieldLink RX14 167 "NeedHouseModel" "cName" "[I", .fieldLink RX14 544 "NeedHouseModel" "cons" "I", .fieldLink RX14 170 "NeedHouseModel" "cNode" "[I", .fieldLink RX14 173 "NeedHouseModel" "cData" "[I", .fieldLink RX14 176 "NeedHouseModel" "cMany" "[I"] ++ (wsX140 ++ []))
set_option maxHeartbeats 4000000 in
set_option maxRecDepth 100000 in
theorem c_X14_con (l : Launch) (dC : Nat → ClassId) (dI : Nat → Nat → Nat) (sz : Nat) (cI : ClassId) (h0 : Nat) (fs0 : List Value) (q1 : Nat) (f1 : Nat → Int32) (q2 : Nat) (f2 : Nat → Int32) (q3 : Nat) (f3 : Nat → Int32) (q4 : Nat) (f4 : Nat → Int32) (kc : Nat) (p0 : Int32) (p1 : Int32) (p2 : Int32) (p3 : Int32) (hF0 : hasF fs0 136 [(46, .ref q1), (47, .ref q2), (48, .ref q3), (49, .ref q4), (50, .int (nI kc))]) (hc : kc ≤ 100) : Met l yX14_con pw_c_X14_con ({ frames := 0, cells := 0, slots := 0, locals := 0 }) (va_Pc [.ref h0, .int p0, .int p1, .int p2, .int p3] (fun U => U.heap.size = sz ∧ va_P (dC, dI) vwCl [(h0, .inr (14, fs0)), (q1, .inl (cI, 4100, .inl f1)), (q2, .inl (cI, 4100, .inl f2)), (q3, .inl (cI, 4100, .inl f3)), (q4, .inl (cI, 4100, .inl f4))] U.heap ∧ va_K (dC, dI) vwCl [(cI, .int)] U ∧ va_D (fun _ => True) [(h0, .inr (14, fs0)), (q1, .inl (cI, 4100, .inl f1)), (q2, .inl (cI, 4100, .inl f2)), (q3, .inl (cI, 4100, .inl f3)), (q4, .inl (cI, 4100, .inl f4))])) (va_Qv (fun (u : (List Value) × (Nat → Int32) × (Nat → Int32) × (Nat → Int32) × (Nat → Int32)) => hasF u.1 136 [(50, .int (nI (kc + 1)))] ∧ sameF fs0 u.1 [50]) (fun (u : (List Value) × (Nat → Int32) × (Nat → Int32) × (Nat → Int32) × (Nat → Int32)) (t : State) => va_P (dC, dI) vwCl [(h0, .inr (14, u.1)), (q1, .inl (cI, 4100, .inl u.2.1)), (q2, .inl (cI, 4100, .inl u.2.2.1)), (q3, .inl (cI, 4100, .inl u.2.2.2.1)), (q4, .inl (cI, 4100, .inl u.2.2.2.2))] t.heap ∧ va_K (dC, dI) vwCl [(cI, .int)] t ∧ va_D (va_A [(h0, .inr (14, fs0)), (q1, .inl (cI, 4100, .inl f1)), (q2, .inl (cI, 4100, .inl f2)), (q3, .inl (cI, 4100, .inl f3)), (q4, .inl (cI, 4100, .inl f4))] sz) [(h0, .inr (14, u.1)), (q1, .inl (cI, 4100, .inl u.2.1)), (q2, .inl (cI, 4100, .inl u.2.2.1)), (q3, .inl (cI, 4100, .inl u.2.2.2.1)), (q4, .inl (cI, 4100, .inl u.2.2.2.2))]) (va_A [(h0, .inr (14, fs0)), (q1, .inl (cI, 4100, .inl f1)), (q2, .inl (cI, 4100, .inl f2)), (q3, .inl (cI, 4100, .inl f3)), (q4, .inl (cI, 4100, .inl f4))] sz)) 0 0 (va_A [(h0, .inr (14, fs0)), (q1, .inl (cI, 4100, .inl f1)), (q2, .inl (cI, 4100, .inl f2)), (q3, .inl (cI, 4100, .inl f3)), (q4, .inl (cI, 4100, .inl f4))] sz) := by
  refine Met.ofW (cc := cX14_con) (maxL := 5) (ret := none) (by decide) rfl ?_
  intro p e s m args below meth c s₁ B hml hv
  obtain ⟨rfl, hsz, hP, hK, hD0⟩ := hv
  have hx := B.exec
  have hb := B.bytes
  have hr := B.returns
  have hts := atoms_spec (ws := pw_c_X14_con) B.pre
  have hown : s.vm.findClass RX14 = some m.cls := findClass_of_methodNamed B.named
  have hlocks := B.notSynchronized
  have hin_X14 : ∀ w ∈ u_ws RX14 TX14 136, w ∈ pw_c_X14_con := fun w h => List.mem_cons_of_mem _ (List.mem_append_right _ (List.mem_append_left _ h))
  subst hsz
  have hD := hD0.self (sz := s.heap.size)
  generalize hAe : va_A [(h0, .inr (14, fs0)), (q1, .inl (cI, 4100, .inl f1)), (q2, .inl (cI, 4100, .inl f2)), (q3, .inl (cI, 4100, .inl f3)), (q4, .inl (cI, 4100, .inl f4))] s.heap.size = A at hD ⊢
  have hA : ∀ q : Nat, s.heap.size ≤ q → A q := fun q h => by rw [← hAe]; exact Or.inr h
  have hS : va_S A s.heap s.heap [] := va_S.rf
  have hP : va_P (dC, dI) vwCl [(h0, .inr (14, fs0)), (q1, .inl (cI, 4100, .inl f1)), (q2, .inl (cI, 4100, .inl f2)), (q3, .inl (cI, 4100, .inl f3)), (q4, .inl (cI, 4100, .inl f4))] s.heap := hP
  have hl := lv_entry ([.ref h0, .int p0, .int p1, .int p2, .int p3]) (n := 5) (Nat.le_of_ble_eq_true rfl)
  rw [lg_entry_eq]
  generalize (lg_sl ([.ref h0, .int p0, .int p1, .int p2, .int p3]) ++ List.replicate (5 - (lg_sl ([.ref h0, .int p0, .int p1, .int p2, .int p3])).length) Slot.unset).toArray = ls at hl ⊢
  have hl : lv_has ls 5 [(0, .ref h0), (1, .int p0), (2, .int p1), (3, .int p2), (4, .int p3)] := hl
  refine lv_aload_n hx hb dX14_con_0 rfl (lv_at hl 0 rfl) ?_
  refine va_get (D := (dC, dI)) (ci := 14) (v := .ref q1) (C := RX14) (T := TX14) (N := 136) hx hb hts hin_X14 hown hK hP 0 rfl rfl 46 (by decide) (hts (.fieldLink RX14 167 "NeedHouseModel" "cName" "[I") (List.mem_of_getElem? (i := 1) rfl)) (fun _ h9 => h9) (hF0.at 0 rfl) dX14_con_1 ?_
  refine lv_aload_n hx hb dX14_con_4 rfl (lv_at hl 0 rfl) ?_
  refine va_get (D := (dC, dI)) (ci := 14) (v := .int (nI kc)) (C := RX14) (T := TX14) (N := 136) hx hb hts hin_X14 hown hK hP 0 rfl rfl 50 (by decide) (hts (.fieldLink RX14 544 "NeedHouseModel" "cons" "I") (List.mem_of_getElem? (i := 2) rfl)) (fun _ h9 => h9) (hF0.at 4 rfl) dX14_con_5 ?_
  refine lv_iload_n hx hb dX14_con_8 rfl (lv_at hl 1 rfl) ?_
  refine va_iast hx hb hK hP hD hS 1 0 rfl rfl (vp_in_nI (by omega) (by decide)) dX14_con_9 (fun H locs hP hD hS => ?_)
  have hP : va_P (dC, dI) vwCl [(h0, .inr (14, fs0)), (q1, .inl (cI, 4100, .inl (upd f1 (nI kc : Int32).toNatClampNeg p0))), (q2, .inl (cI, 4100, .inl f2)), (q3, .inl (cI, 4100, .inl f3)), (q4, .inl (cI, 4100, .inl f4))] H := hP
  have hD : va_D A [(h0, .inr (14, fs0)), (q1, .inl (cI, 4100, .inl (upd f1 (nI kc : Int32).toNatClampNeg p0))), (q2, .inl (cI, 4100, .inl f2)), (q3, .inl (cI, 4100, .inl f3)), (q4, .inl (cI, 4100, .inl f4))] := hD
  generalize upd f1 (nI kc : Int32).toNatClampNeg p0 = f_1 at hP hD
  have hP : va_P (dC, dI) vwCl [(h0, .inr (14, fs0)), (q1, .inl (cI, 4100, .inl f_1)), (q2, .inl (cI, 4100, .inl f2)), (q3, .inl (cI, 4100, .inl f3)), (q4, .inl (cI, 4100, .inl f4))] H := hP
  have hD : va_D A [(h0, .inr (14, fs0)), (q1, .inl (cI, 4100, .inl f_1)), (q2, .inl (cI, 4100, .inl f2)), (q3, .inl (cI, 4100, .inl f3)), (q4, .inl (cI, 4100, .inl f4))] := hD
  refine lv_aload_n hx hb dX14_con_10 rfl (lv_at hl 0 rfl) ?_
  refine va_get (D := (dC, dI)) (ci := 14) (v := .ref q2) (C := RX14) (T := TX14) (N := 136) hx hb hts hin_X14 hown hK hP 0 rfl rfl 47 (by decide) (hts (.fieldLink RX14 170 "NeedHouseModel" "cNode" "[I") (List.mem_of_getElem? (i := 3) rfl)) (fun _ h9 => h9) (hF0.at 1 rfl) dX14_con_11 ?_
  refine lv_aload_n hx hb dX14_con_14 rfl (lv_at hl 0 rfl) ?_
  refine va_get (D := (dC, dI)) (ci := 14) (v := .int (nI kc)) (C := RX14) (T := TX14) (N := 136) hx hb hts hin_X14 hown hK hP 0 rfl rfl 50 (by decide) (hts (.fieldLink RX14 544 "NeedHouseModel" "cons" "I") (List.mem_of_getElem? (i := 2) rfl)) (fun _ h9 => h9) (hF0.at 4 rfl) dX14_con_15 ?_
  refine lv_iload_n hx hb dX14_con_18 rfl (lv_at hl 2 rfl) ?_
  refine va_iast hx hb hK hP hD hS 2 0 rfl rfl (vp_in_nI (by omega) (by decide)) dX14_con_19 (fun H locs hP hD hS => ?_)
  have hP : va_P (dC, dI) vwCl [(h0, .inr (14, fs0)), (q1, .inl (cI, 4100, .inl f_1)), (q2, .inl (cI, 4100, .inl (upd f2 (nI kc : Int32).toNatClampNeg p1))), (q3, .inl (cI, 4100, .inl f3)), (q4, .inl (cI, 4100, .inl f4))] H := hP
  have hD : va_D A [(h0, .inr (14, fs0)), (q1, .inl (cI, 4100, .inl f_1)), (q2, .inl (cI, 4100, .inl (upd f2 (nI kc : Int32).toNatClampNeg p1))), (q3, .inl (cI, 4100, .inl f3)), (q4, .inl (cI, 4100, .inl f4))] := hD
  generalize upd f2 (nI kc : Int32).toNatClampNeg p1 = f_2 at hP hD
  have hP : va_P (dC, dI) vwCl [(h0, .inr (14, fs0)), (q1, .inl (cI, 4100, .inl f_1)), (q2, .inl (cI, 4100, .inl f_2)), (q3, .inl (cI, 4100, .inl f3)), (q4, .inl (cI, 4100, .inl f4))] H := hP
  have hD : va_D A [(h0, .inr (14, fs0)), (q1, .inl (cI, 4100, .inl f_1)), (q2, .inl (cI, 4100, .inl f_2)), (q3, .inl (cI, 4100, .inl f3)), (q4, .inl (cI, 4100, .inl f4))] := hD
  refine lv_aload_n hx hb dX14_con_20 rfl (lv_at hl 0 rfl) ?_
  refine va_get (D := (dC, dI)) (ci := 14) (v := .ref q3) (C := RX14) (T := TX14) (N := 136) hx hb hts hin_X14 hown hK hP 0 rfl rfl 48 (by decide) (hts (.fieldLink RX14 173 "NeedHouseModel" "cData" "[I") (List.mem_of_getElem? (i := 4) rfl)) (fun _ h9 => h9) (hF0.at 2 rfl) dX14_con_21 ?_
  refine lv_aload_n hx hb dX14_con_24 rfl (lv_at hl 0 rfl) ?_
  refine va_get (D := (dC, dI)) (ci := 14) (v := .int (nI kc)) (C := RX14) (T := TX14) (N := 136) hx hb hts hin_X14 hown hK hP 0 rfl rfl 50 (by decide) (hts (.fieldLink RX14 544 "NeedHouseModel" "cons" "I") (List.mem_of_getElem? (i := 2) rfl)) (fun _ h9 => h9) (hF0.at 4 rfl) dX14_con_25 ?_
  refine lv_iload_n hx hb dX14_con_28 rfl (lv_at hl 3 rfl) ?_
  refine va_iast hx hb hK hP hD hS 3 0 rfl rfl (vp_in_nI (by omega) (by decide)) dX14_con_29 (fun H locs hP hD hS => ?_)
  have hP : va_P (dC, dI) vwCl [(h0, .inr (14, fs0)), (q1, .inl (cI, 4100, .inl f_1)), (q2, .inl (cI, 4100, .inl f_2)), (q3, .inl (cI, 4100, .inl (upd f3 (nI kc : Int32).toNatClampNeg p2))), (q4, .inl (cI, 4100, .inl f4))] H := hP
  have hD : va_D A [(h0, .inr (14, fs0)), (q1, .inl (cI, 4100, .inl f_1)), (q2, .inl (cI, 4100, .inl f_2)), (q3, .inl (cI, 4100, .inl (upd f3 (nI kc : Int32).toNatClampNeg p2))), (q4, .inl (cI, 4100, .inl f4))] := hD
  generalize upd f3 (nI kc : Int32).toNatClampNeg p2 = f_3 at hP hD
  have hP : va_P (dC, dI) vwCl [(h0, .inr (14, fs0)), (q1, .inl (cI, 4100, .inl f_1)), (q2, .inl (cI, 4100, .inl f_2)), (q3, .inl (cI, 4100, .inl f_3)), (q4, .inl (cI, 4100, .inl f4))] H := hP
  have hD : va_D A [(h0, .inr (14, fs0)), (q1, .inl (cI, 4100, .inl f_1)), (q2, .inl (cI, 4100, .inl f_2)), (q3, .inl (cI, 4100, .inl f_3)), (q4, .inl (cI, 4100, .inl f4))] := hD
  refine lv_aload_n hx hb dX14_con_30 rfl (lv_at hl 0 rfl) ?_
  refine va_get (D := (dC, dI)) (ci := 14) (v := .ref q4) (C := RX14) (T := TX14) (N := 136) hx hb hts hin_X14 hown hK hP 0 rfl rfl 49 (by decide) (hts (.fieldLink RX14 176 "NeedHouseModel" "cMany" "[I") (List.mem_of_getElem? (i := 5) rfl)) (fun _ h9 => h9) (hF0.at 3 rfl) dX14_con_31 ?_
  refine lv_aload_n hx hb dX14_con_34 rfl (lv_at hl 0 rfl) ?_
  refine va_get (D := (dC, dI)) (ci := 14) (v := .int (nI kc)) (C := RX14) (T := TX14) (N := 136) hx hb hts hin_X14 hown hK hP 0 rfl rfl 50 (by decide) (hts (.fieldLink RX14 544 "NeedHouseModel" "cons" "I") (List.mem_of_getElem? (i := 2) rfl)) (fun _ h9 => h9) (hF0.at 4 rfl) dX14_con_35 ?_
  refine lv_iload hx hb dX14_con_38 (lv_at hl 4 rfl) ?_
  refine va_iast hx hb hK hP hD hS 4 0 rfl rfl (vp_in_nI (by omega) (by decide)) dX14_con_40 (fun H locs hP hD hS => ?_)
  have hP : va_P (dC, dI) vwCl [(h0, .inr (14, fs0)), (q1, .inl (cI, 4100, .inl f_1)), (q2, .inl (cI, 4100, .inl f_2)), (q3, .inl (cI, 4100, .inl f_3)), (q4, .inl (cI, 4100, .inl (upd f4 (nI kc : Int32).toNatClampNeg p3)))] H := hP
  have hD : va_D A [(h0, .inr (14, fs0)), (q1, .inl (cI, 4100, .inl f_1)), (q2, .inl (cI, 4100, .inl f_2)), (q3, .inl (cI, 4100, .inl f_3)), (q4, .inl (cI, 4100, .inl (upd f4 (nI kc : Int32).toNatClampNeg p3)))] := hD
  generalize upd f4 (nI kc : Int32).toNatClampNeg p3 = f_4 at hP hD
  have hP : va_P (dC, dI) vwCl [(h0, .inr (14, fs0)), (q1, .inl (cI, 4100, .inl f_1)), (q2, .inl (cI, 4100, .inl f_2)), (q3, .inl (cI, 4100, .inl f_3)), (q4, .inl (cI, 4100, .inl f_4))] H := hP
  have hD : va_D A [(h0, .inr (14, fs0)), (q1, .inl (cI, 4100, .inl f_1)), (q2, .inl (cI, 4100, .inl f_2)), (q3, .inl (cI, 4100, .inl f_3)), (q4, .inl (cI, 4100, .inl f_4))] := hD
  refine lv_aload_n hx hb dX14_con_41 rfl (lv_at hl 0 rfl) ?_
  refine lv_dup hx hb dX14_con_42 rfl ?_
  refine va_get (D := (dC, dI)) (ci := 14) (v := .int (nI kc)) (C := RX14) (T := TX14) (N := 136) hx hb hts hin_X14 hown hK hP 0 rfl rfl 50 (by decide) (hts (.fieldLink RX14 544 "NeedHouseModel" "cons" "I") (List.mem_of_getElem? (i := 2) rfl)) (fun _ h9 => h9) (hF0.at 4 rfl) dX14_con_43 ?_
  refine lv_iconst (v := 1) hx hb dX14_con_46 (by decide) ?_
  refine lv_iadd hx hb dX14_con_47 ?_
  refine lv_topi (fun x_5 ex_5 => ?_)
  obtain rfl : x_5 = (nI (kc + 1)) := ex_5.trans (by first | exact nI_1 _ | exact nI_add _ _)
  refine va_put (D := (dC, dI)) (ci := 14) (v := .int (nI (kc + 1))) (ty := .int) (C := RX14) (T := TX14) (N := 136) hx hb hts hin_X14 tyX14 tyX14_ok nmX14 hown hK hP hD hS 0 rfl rfl 50 (by decide) (hts (.fieldLink RX14 544 "NeedHouseModel" "cons" "I") (List.mem_of_getElem? (i := 2) rfl)) (fun _ h9 => h9) rfl (by decide +kernel) rfl rfl (by rw [hF0.1]; decide) dX14_con_48 (fun H locs hP hD hS => ?_)
  have hP : va_P (dC, dI) vwCl [(h0, .inr (14, (fs0.set 50 (.int (nI (kc + 1)))))), (q1, .inl (cI, 4100, .inl f_1)), (q2, .inl (cI, 4100, .inl f_2)), (q3, .inl (cI, 4100, .inl f_3)), (q4, .inl (cI, 4100, .inl f_4))] H := hP
  have hD : va_D A [(h0, .inr (14, (fs0.set 50 (.int (nI (kc + 1)))))), (q1, .inl (cI, 4100, .inl f_1)), (q2, .inl (cI, 4100, .inl f_2)), (q3, .inl (cI, 4100, .inl f_3)), (q4, .inl (cI, 4100, .inl f_4))] := hD
  have hF_6 := hF0.set 50 (.int (nI (kc + 1))) (l' := [(50, .int (nI (kc + 1))), (46, .ref q1), (47, .ref q2), (48, .ref q3), (49, .ref q4)]) (by decide) rfl
  have hE_7 := (sameF.rf (f := fs0)).set 50 (.int (nI (kc + 1)))
  generalize fs0.set 50 (.int (nI (kc + 1))) = fs_8 at hP hD hF_6 hE_7
  have hP : va_P (dC, dI) vwCl [(h0, .inr (14, fs_8)), (q1, .inl (cI, 4100, .inl f_1)), (q2, .inl (cI, 4100, .inl f_2)), (q3, .inl (cI, 4100, .inl f_3)), (q4, .inl (cI, 4100, .inl f_4))] H := hP
  have hD : va_D A [(h0, .inr (14, fs_8)), (q1, .inl (cI, 4100, .inl f_1)), (q2, .inl (cI, 4100, .inl f_2)), (q3, .inl (cI, 4100, .inl f_3)), (q4, .inl (cI, 4100, .inl f_4))] := hD
  have hP9 := hP.sub (ws' := [(h0, .inr (14, fs_8)), (q1, .inl (cI, 4100, .inl f_1)), (q2, .inl (cI, 4100, .inl f_2)), (q3, .inl (cI, 4100, .inl f_3)), (q4, .inl (cI, 4100, .inl f_4))]) [0, 1, 2, 3, 4] rfl
  have hD9 := hD.sub (ws' := [(h0, .inr (14, fs_8)), (q1, .inl (cI, 4100, .inl f_1)), (q2, .inl (cI, 4100, .inl f_2)), (q3, .inl (cI, 4100, .inl f_3)), (q4, .inl (cI, 4100, .inl f_4))]) [0, 1, 2, 3, 4] (by decide) rfl
  have hK9 := hK.sub (tys' := [(cI, .int)]) [0] rfl
  exact W.vret hx hb hr (fun t ht hW => ⟨⟨((fs_8, f_1, f_2, f_3, f_4)), rfl, ⟨hF_6.sub [0] rfl, hE_7.mono (by decide)⟩, by rw [ht]; exact hP9, va_K.moved hW.alike hK9, hD9⟩, hS.F ht⟩) hS.2.2 dX14_con_51
def pw_c_X14_meaning : List Cond := .code yX14_meaning cX14_meaning 3 (some .int) :: ([.fieldLink RX14 552 "NeedHouseModel" "scopes" "I", .fieldLink RX14 561 "NeedHouseModel" "sayName" "I"] ++ (wsX140 ++ []))
set_option maxHeartbeats 4000000 in
set_option maxRecDepth 100000 in
theorem c_X14_meaning (l : Launch) (dC : Nat → ClassId) (dI : Nat → Nat → Nat) (sz : Nat) (h0 : Nat) (fs0 : List Value) (sn : Int32) (p0 : Int32) (hF0 : hasF fs0 136 [(41, .int 0), (57, .int sn)]) : Met l yX14_meaning pw_c_X14_meaning ({ frames := 0, cells := 0, slots := 0, locals := 0 }) (va_Pc [.ref h0, .int p0] (fun U => U.heap.size = sz ∧ va_P (dC, dI) vwCl [(h0, .inr (14, fs0))] U.heap ∧ va_K (dC, dI) vwCl [] U ∧ va_D (fun _ => True) [(h0, .inr (14, fs0))])) (va_Qi (fun (r : Int32) (u : Unit) => r < 0) (fun (u : Unit) (t : State) => va_P (dC, dI) vwCl [(h0, .inr (14, fs0))] t.heap ∧ va_K (dC, dI) vwCl [] t ∧ va_D (va_A [(h0, .inr (14, fs0))] sz) [(h0, .inr (14, fs0))]) (va_A [(h0, .inr (14, fs0))] sz)) 0 0 (va_A [(h0, .inr (14, fs0))] sz) := by
  refine Met.ofW (cc := cX14_meaning) (maxL := 3) (ret := (some .int)) (by decide) rfl ?_
  intro p e s m args below meth c s₁ B hml hv
  obtain ⟨rfl, hsz, hP, hK, hD0⟩ := hv
  have hx := B.exec
  have hb := B.bytes
  have hr := B.returns
  have hts := atoms_spec (ws := pw_c_X14_meaning) B.pre
  have hown : s.vm.findClass RX14 = some m.cls := findClass_of_methodNamed B.named
  have hlocks := B.notSynchronized
  have hin_X14 : ∀ w ∈ u_ws RX14 TX14 136, w ∈ pw_c_X14_meaning := fun w h => List.mem_cons_of_mem _ (List.mem_append_right _ (List.mem_append_left _ h))
  subst hsz
  have hD := hD0.self (sz := s.heap.size)
  generalize hAe : va_A [(h0, .inr (14, fs0))] s.heap.size = A at hD ⊢
  have hA : ∀ q : Nat, s.heap.size ≤ q → A q := fun q h => by rw [← hAe]; exact Or.inr h
  have hS : va_S A s.heap s.heap [] := va_S.rf
  have hP : va_P (dC, dI) vwCl [(h0, .inr (14, fs0))] s.heap := hP
  have hl := lv_entry ([.ref h0, .int p0]) (n := 3) (Nat.le_of_ble_eq_true rfl)
  rw [lg_entry_eq]
  generalize (lg_sl ([.ref h0, .int p0]) ++ List.replicate (3 - (lg_sl ([.ref h0, .int p0])).length) Slot.unset).toArray = ls at hl ⊢
  have hl : lv_has ls 3 [(0, .ref h0), (1, .int p0)] := hl
  refine lv_aload_n hx hb dX14_meaning_0 rfl (lv_at hl 0 rfl) ?_
  refine va_get (D := (dC, dI)) (ci := 14) (v := .int 0) (C := RX14) (T := TX14) (N := 136) hx hb hts hin_X14 hown hK hP 0 rfl rfl 41 (by decide) (hts (.fieldLink RX14 552 "NeedHouseModel" "scopes" "I") (List.mem_of_getElem? (i := 1) rfl)) (fun _ h9 => h9) (hF0.at 0 rfl) dX14_meaning_1 ?_
  refine lv_iconst (v := 1) hx hb dX14_meaning_4 (by decide) ?_
  refine lv_isub hx hb dX14_meaning_5 ?_
  refine lv_topi (fun x_1 ex_1 => ?_)
  obtain rfl : x_1 = (-1) := ex_1.trans (by decide +kernel)
  refine lv_istore_n (lv' := [(2, .int (-1)), (0, .ref h0), (1, .int p0)]) hx hb dX14_meaning_6 rfl hl (by decide) rfl (fun ls hl => ?_)
  refine lv_iload_n hx hb dX14_meaning_7 rfl (lv_at hl 0 rfl) ?_
  refine lv_if_lt (tgt := 39) hx hb dX14_meaning_8 (by decide) (fun _ => ?_) (fun c_2 => absurd (by decide) c_2)
  refine lv_iload_n hx hb dX14_meaning_39 rfl (lv_at hl 2 rfl) ?_
  refine lv_aload_n hx hb dX14_meaning_40 rfl (lv_at hl 1 rfl) ?_
  refine va_get (D := (dC, dI)) (ci := 14) (v := .int sn) (C := RX14) (T := TX14) (N := 136) hx hb hts hin_X14 hown hK hP 0 rfl rfl 57 (by decide) (hts (.fieldLink RX14 561 "NeedHouseModel" "sayName" "I") (List.mem_of_getElem? (i := 2) rfl)) (fun _ h9 => h9) (hF0.at 1 rfl) dX14_meaning_41 ?_
  refine lv_icmp_ne (tgt := 52) hx hb dX14_meaning_44 (by decide) (fun c_3 => ?_) (fun c_3 => ?_)
  ·
    refine lv_iconst (v := (-1)) hx hb dX14_meaning_52 (by decide) ?_
    have hP9 := hP.sub (ws' := [(h0, .inr (14, fs0))]) [0] rfl
    have hD9 := hD.sub (ws' := [(h0, .inr (14, fs0))]) [0] (by decide) rfl
    have hK9 := hK.sub (tys' := []) [] rfl
    exact W.iret (v := (-1)) hx hb hr (fun t ht hW => ⟨⟨(-1), (()), rfl, by decide, by rw [ht]; exact hP9, va_K.moved hW.alike hK9, hD9⟩, hS.F ht⟩) hS.2.2 dX14_meaning_53
  ·
    refine lv_bipush (v := (-5)) hx hb dX14_meaning_47 (by decide) ?_
    refine lv_goto (tgt := 53) hx hb dX14_meaning_49 (by decide) ?_
    have hP9 := hP.sub (ws' := [(h0, .inr (14, fs0))]) [0] rfl
    have hD9 := hD.sub (ws' := [(h0, .inr (14, fs0))]) [0] (by decide) rfl
    have hK9 := hK.sub (tys' := []) [] rfl
    exact W.iret (v := (-5)) hx hb hr (fun t ht hW => ⟨⟨(-5), (()), rfl, by decide, by rw [ht]; exact hP9, va_K.moved hW.alike hK9, hD9⟩, hS.F ht⟩) hS.2.2 dX14_meaning_53
def pw_c_X14_firstRound : List Cond := .code yX14_firstRound cX14_firstRound 2 none :: ([.fieldLink RX14 547 "NeedHouseModel" "told" "I", .fieldLink RX14 552 "NeedHouseModel" "scopes" "I", .fieldLink RX14 558 "NeedHouseModel" "datas" "I", .fieldLink RX14 544 "NeedHouseModel" "cons" "I", .fieldLink RX14 571 "NeedHouseModel" "definitions" "I", .constant RX14 574 (1000000), .fieldLink RX14 538 "NeedHouseModel" "bestToken" "I", .fieldLink RX14 541 "NeedHouseModel" "bestKind" "I", .fieldLink RX14 369 "NeedHouseModel" "tokens" "I", .fieldLink RX14 568 "NeedHouseModel" "tooMuch" "Z", .methodLink RX14 577 yX14_nameOf_, .instanceMethod yX14_nameOf_, .selects RX14 yX14_nameOf_ yX14_nameOf_, .initialized RX14, .code yX14_nameOf_ cX14_nameOf_ 3 (some .int), .methodLink RX14 353 yJ0_length_8abf5, .instanceMethod yJ0_length_8abf5, .selects RJ0 yJ0_length_8abf5 yJ0_length_8abf5, .initialized RJ0, .code yJ0_length_8abf5 cJ0_length_8abf5 1 (some .int), .fieldLink RJ0 9 "java/lang/String" "value" "[B", .methodLink RJ0 335 yJ0_coder_7d493, .instanceMethod yJ0_coder_7d493, .selects RJ0 yJ0_coder_7d493 yJ0_coder_7d493, .code yJ0_coder_7d493 cJ0_coder_7d493 1 (some .byte), .fieldLink RJ0 38 "java/lang/String" "COMPACT_STRINGS" "Z", .fieldLink RJ0 15 "java/lang/String" "coder" "B", .fieldLink RX14 113 "NeedHouseModel" "small" "[I", .methodLink RX14 361 yX14_nameOf, .instanceMethod yX14_nameOf, .selects RX14 yX14_nameOf yX14_nameOf, .code yX14_nameOf cX14_nameOf 7 (some .int), .fieldLink RX14 350 "NeedHouseModel" "names" "I", .fieldLink RX14 110 "NeedHouseModel" "nameFrom" "[I", .fieldLink RX14 107 "NeedHouseModel" "letters" "[I", .methodLink RX14 357 yJ0_charAt_5068e, .instanceMethod yJ0_charAt_5068e, .selects RJ0 yJ0_charAt_5068e yJ0_charAt_5068e, .code yJ0_charAt_5068e cJ0_charAt_5068e 2 (some .char), .methodLink RJ0 492 yJ0_isLatin1_aae02, .instanceMethod yJ0_isLatin1_aae02, .selects RJ0 yJ0_isLatin1_aae02 yJ0_isLatin1_aae02, .code yJ0_isLatin1_aae02 cJ0_isLatin1_aae02 1 (some .boolean), .methodLink RJ0 495 yJ1_charAt_3b067, .static yJ1_charAt_3b067, .initialized RJ1, .code yJ1_charAt_3b067 cJ1_charAt_3b067 2 (some .char), .methodLink RJ1 9 yJ0_checkIndex_df160, .static yJ0_checkIndex_df160, .code yJ0_checkIndex_df160 cJ0_checkIndex_df160 2 none, .fieldLink RJ0 1053 "jdk/internal/util/Preconditions" "SIOOBE_FORMATTER" "Ljava/util/function/BiFunction;", .methodLink RJ0 1059 yJ3_checkIndex_8e157, .static yJ3_checkIndex_8e157, .initialized RJ3, .code yJ3_checkIndex_8e157 cJ3_checkIndex_8e157 3 (some .int), .fieldLink RX14 555 "NeedHouseModel" "intName" "I", .fieldLink RX14 561 "NeedHouseModel" "sayName" "I", .fieldLink RX14 584 "NeedHouseModel" "mainName" "I", .fieldLink RX14 158 "NeedHouseModel" "dName" "[I", .fieldLink RX14 161 "NeedHouseModel" "dNode" "[I", .fieldLink RX14 164 "NeedHouseModel" "dMany" "[I", .methodLink RX14 591 yX14_con, .instanceMethod yX14_con, .selects RX14 yX14_con yX14_con, .code yX14_con cX14_con 5 none, .fieldLink RX14 167 "NeedHouseModel" "cName" "[I", .fieldLink RX14 170 "NeedHouseModel" "cNode" "[I", .fieldLink RX14 173 "NeedHouseModel" "cData" "[I", .fieldLink RX14 176 "NeedHouseModel" "cMany" "[I", .fieldLink RX14 596 "NeedHouseModel" "program" "I", .methodLink RX14 608 yX14_meaning, .instanceMethod yX14_meaning, .selects RX14 yX14_meaning yX14_meaning, .code yX14_meaning cX14_meaning 3 (some .int), .methodLink RX14 564 yX14_tells, .instanceMethod yX14_tells, .selects RX14 yX14_tells yX14_tells, .code yX14_tells cX14_tells 3 none, .methodLink RX14 611 yX14_limit, .instanceMethod yX14_limit, .selects RX14 yX14_limit yX14_limit, .code yX14_limit cX14_limit 2 none] ++ (wsX140 ++ []))
set_option maxRecDepth 20000 in
theorem g_c_X14_firstRound_c_X14_nameOf__63 : GoodIn pw_c_X14_firstRound (wsV RX14 577 RX14 yX14_nameOf_ pw_c_X14_nameOf_) := goodIn_r _ [11, 12, 13, 14, 15, 16, 17, 18, 19, 20, 21, 22, 23, 24, 25, 26, 27, 28, 29, 30, 31, 14, 32, 33, 34, 35, 36, 37, 38, 39, 40, 41, 42, 43, 44, 45, 46, 47, 48, 49, 50, 51, 52, 53, 54, 55, 83, 84, 85, 86, 87, 88, 89, 90, 91, 92, 93, 94, 95, 96, 97, 98, 99, 100, 101, 102, 103, 104, 105, 106, 107, 108, 109, 110, 111, 112, 113, 114, 115, 116, 117, 118, 119, 120, 121, 122, 123, 124, 125, 126, 127, 128, 129, 130, 131, 132, 133, 134, 135, 136, 137, 138, 139, 140, 141, 142, 143, 144, 145, 146, 147, 148, 149, 150, 151, 152, 153, 154, 155, 156, 157, 158, 159, 160, 161, 162, 163, 164, 165, 166, 167, 168, 169, 170, 171, 172, 173, 174, 175, 176, 177, 178, 179, 180, 181, 182, 183, 184, 185, 186, 187, 188, 189, 190, 191, 192, 193, 194, 195, 196, 197, 198, 199, 200, 201, 202, 203, 204, 205, 206, 207, 208, 209, 210, 211, 212, 213, 214, 215, 216, 217, 218] rfl (by decide +kernel)
set_option maxRecDepth 20000 in
theorem g_c_X14_firstRound_c_X14_nameOf__74 : GoodIn pw_c_X14_firstRound (wsV RX14 577 RX14 yX14_nameOf_ pw_c_X14_nameOf_) := goodIn_r _ [11, 12, 13, 14, 15, 16, 17, 18, 19, 20, 21, 22, 23, 24, 25, 26, 27, 28, 29, 30, 31, 14, 32, 33, 34, 35, 36, 37, 38, 39, 40, 41, 42, 43, 44, 45, 46, 47, 48, 49, 50, 51, 52, 53, 54, 55, 83, 84, 85, 86, 87, 88, 89, 90, 91, 92, 93, 94, 95, 96, 97, 98, 99, 100, 101, 102, 103, 104, 105, 106, 107, 108, 109, 110, 111, 112, 113, 114, 115, 116, 117, 118, 119, 120, 121, 122, 123, 124, 125, 126, 127, 128, 129, 130, 131, 132, 133, 134, 135, 136, 137, 138, 139, 140, 141, 142, 143, 144, 145, 146, 147, 148, 149, 150, 151, 152, 153, 154, 155, 156, 157, 158, 159, 160, 161, 162, 163, 164, 165, 166, 167, 168, 169, 170, 171, 172, 173, 174, 175, 176, 177, 178, 179, 180, 181, 182, 183, 184, 185, 186, 187, 188, 189, 190, 191, 192, 193, 194, 195, 196, 197, 198, 199, 200, 201, 202, 203, 204, 205, 206, 207, 208, 209, 210, 211, 212, 213, 214, 215, 216, 217, 218] rfl (by decide +kernel)
set_option maxRecDepth 20000 in
theorem g_c_X14_firstRound_c_X14_nameOf__85 : GoodIn pw_c_X14_firstRound (wsV RX14 577 RX14 yX14_nameOf_ pw_c_X14_nameOf_) := goodIn_r _ [11, 12, 13, 14, 15, 16, 17, 18, 19, 20, 21, 22, 23, 24, 25, 26, 27, 28, 29, 30, 31, 14, 32, 33, 34, 35, 36, 37, 38, 39, 40, 41, 42, 43, 44, 45, 46, 47, 48, 49, 50, 51, 52, 53, 54, 55, 83, 84, 85, 86, 87, 88, 89, 90, 91, 92, 93, 94, 95, 96, 97, 98, 99, 100, 101, 102, 103, 104, 105, 106, 107, 108, 109, 110, 111, 112, 113, 114, 115, 116, 117, 118, 119, 120, 121, 122, 123, 124, 125, 126, 127, 128, 129, 130, 131, 132, 133, 134, 135, 136, 137, 138, 139, 140, 141, 142, 143, 144, 145, 146, 147, 148, 149, 150, 151, 152, 153, 154, 155, 156, 157, 158, 159, 160, 161, 162, 163, 164, 165, 166, 167, 168, 169, 170, 171, 172, 173, 174, 175, 176, 177, 178, 179, 180, 181, 182, 183, 184, 185, 186, 187, 188, 189, 190, 191, 192, 193, 194, 195, 196, 197, 198, 199, 200, 201, 202, 203, 204, 205, 206, 207, 208, 209, 210, 211, 212, 213, 214, 215, 216, 217, 218] rfl (by decide +kernel)
set_option maxRecDepth 20000 in
theorem g_c_X14_firstRound_c_X14_nameOf__100 : GoodIn pw_c_X14_firstRound (wsV RX14 577 RX14 yX14_nameOf_ pw_c_X14_nameOf_) := goodIn_r _ [11, 12, 13, 14, 15, 16, 17, 18, 19, 20, 21, 22, 23, 24, 25, 26, 27, 28, 29, 30, 31, 14, 32, 33, 34, 35, 36, 37, 38, 39, 40, 41, 42, 43, 44, 45, 46, 47, 48, 49, 50, 51, 52, 53, 54, 55, 83, 84, 85, 86, 87, 88, 89, 90, 91, 92, 93, 94, 95, 96, 97, 98, 99, 100, 101, 102, 103, 104, 105, 106, 107, 108, 109, 110, 111, 112, 113, 114, 115, 116, 117, 118, 119, 120, 121, 122, 123, 124, 125, 126, 127, 128, 129, 130, 131, 132, 133, 134, 135, 136, 137, 138, 139, 140, 141, 142, 143, 144, 145, 146, 147, 148, 149, 150, 151, 152, 153, 154, 155, 156, 157, 158, 159, 160, 161, 162, 163, 164, 165, 166, 167, 168, 169, 170, 171, 172, 173, 174, 175, 176, 177, 178, 179, 180, 181, 182, 183, 184, 185, 186, 187, 188, 189, 190, 191, 192, 193, 194, 195, 196, 197, 198, 199, 200, 201, 202, 203, 204, 205, 206, 207, 208, 209, 210, 211, 212, 213, 214, 215, 216, 217, 218] rfl (by decide +kernel)
set_option maxRecDepth 20000 in
theorem g_c_X14_firstRound_c_X14_nameOf__155 : GoodIn pw_c_X14_firstRound (wsV RX14 577 RX14 yX14_nameOf_ pw_c_X14_nameOf_) := goodIn_r _ [11, 12, 13, 14, 15, 16, 17, 18, 19, 20, 21, 22, 23, 24, 25, 26, 27, 28, 29, 30, 31, 14, 32, 33, 34, 35, 36, 37, 38, 39, 40, 41, 42, 43, 44, 45, 46, 47, 48, 49, 50, 51, 52, 53, 54, 55, 83, 84, 85, 86, 87, 88, 89, 90, 91, 92, 93, 94, 95, 96, 97, 98, 99, 100, 101, 102, 103, 104, 105, 106, 107, 108, 109, 110, 111, 112, 113, 114, 115, 116, 117, 118, 119, 120, 121, 122, 123, 124, 125, 126, 127, 128, 129, 130, 131, 132, 133, 134, 135, 136, 137, 138, 139, 140, 141, 142, 143, 144, 145, 146, 147, 148, 149, 150, 151, 152, 153, 154, 155, 156, 157, 158, 159, 160, 161, 162, 163, 164, 165, 166, 167, 168, 169, 170, 171, 172, 173, 174, 175, 176, 177, 178, 179, 180, 181, 182, 183, 184, 185, 186, 187, 188, 189, 190, 191, 192, 193, 194, 195, 196, 197, 198, 199, 200, 201, 202, 203, 204, 205, 206, 207, 208, 209, 210, 211, 212, 213, 214, 215, 216, 217, 218] rfl (by decide +kernel)
set_option maxRecDepth 20000 in
theorem g_c_X14_firstRound_c_X14_con_161 : GoodIn pw_c_X14_firstRound (wsV RX14 591 RX14 yX14_con pw_c_X14_con) := goodIn_r _ [62, 63, 64, 14, 65, 66, 4, 67, 68, 69, 83, 84, 85, 86, 87, 88, 89, 90, 91, 92, 93, 94, 95, 96, 97, 98, 99, 100, 101, 102, 103, 104, 105, 106, 107, 108, 109, 110, 111, 112, 113, 114, 115, 116, 117, 118, 119, 120, 121, 122, 123, 124, 125, 126, 127, 128, 129, 130, 131, 132, 133, 134, 135, 136, 137, 138, 139, 140, 141, 142, 143, 144, 145, 146, 147, 148, 149, 150, 151, 152, 153, 154, 155, 156, 157, 158, 159, 160, 161, 162, 163, 164, 165, 166, 167, 168, 169, 170, 171, 172, 173, 174, 175, 176, 177, 178, 179, 180, 181, 182, 183, 184, 185, 186, 187, 188, 189, 190, 191, 192, 193, 194, 195, 196, 197, 198, 199, 200, 201, 202, 203, 204, 205, 206, 207, 208, 209, 210, 211, 212, 213, 214, 215, 216, 217, 218] rfl (by decide +kernel)
set_option maxRecDepth 20000 in
theorem g_c_X14_firstRound_c_X14_nameOf__169 : GoodIn pw_c_X14_firstRound (wsV RX14 577 RX14 yX14_nameOf_ pw_c_X14_nameOf_) := goodIn_r _ [11, 12, 13, 14, 15, 16, 17, 18, 19, 20, 21, 22, 23, 24, 25, 26, 27, 28, 29, 30, 31, 14, 32, 33, 34, 35, 36, 37, 38, 39, 40, 41, 42, 43, 44, 45, 46, 47, 48, 49, 50, 51, 52, 53, 54, 55, 83, 84, 85, 86, 87, 88, 89, 90, 91, 92, 93, 94, 95, 96, 97, 98, 99, 100, 101, 102, 103, 104, 105, 106, 107, 108, 109, 110, 111, 112, 113, 114, 115, 116, 117, 118, 119, 120, 121, 122, 123, 124, 125, 126, 127, 128, 129, 130, 131, 132, 133, 134, 135, 136, 137, 138, 139, 140, 141, 142, 143, 144, 145, 146, 147, 148, 149, 150, 151, 152, 153, 154, 155, 156, 157, 158, 159, 160, 161, 162, 163, 164, 165, 166, 167, 168, 169, 170, 171, 172, 173, 174, 175, 176, 177, 178, 179, 180, 181, 182, 183, 184, 185, 186, 187, 188, 189, 190, 191, 192, 193, 194, 195, 196, 197, 198, 199, 200, 201, 202, 203, 204, 205, 206, 207, 208, 209, 210, 211, 212, 213, 214, 215, 216, 217, 218] rfl (by decide +kernel)
set_option maxRecDepth 20000 in
theorem g_c_X14_firstRound_c_X14_con_175 : GoodIn pw_c_X14_firstRound (wsV RX14 591 RX14 yX14_con pw_c_X14_con) := goodIn_r _ [62, 63, 64, 14, 65, 66, 4, 67, 68, 69, 83, 84, 85, 86, 87, 88, 89, 90, 91, 92, 93, 94, 95, 96, 97, 98, 99, 100, 101, 102, 103, 104, 105, 106, 107, 108, 109, 110, 111, 112, 113, 114, 115, 116, 117, 118, 119, 120, 121, 122, 123, 124, 125, 126, 127, 128, 129, 130, 131, 132, 133, 134, 135, 136, 137, 138, 139, 140, 141, 142, 143, 144, 145, 146, 147, 148, 149, 150, 151, 152, 153, 154, 155, 156, 157, 158, 159, 160, 161, 162, 163, 164, 165, 166, 167, 168, 169, 170, 171, 172, 173, 174, 175, 176, 177, 178, 179, 180, 181, 182, 183, 184, 185, 186, 187, 188, 189, 190, 191, 192, 193, 194, 195, 196, 197, 198, 199, 200, 201, 202, 203, 204, 205, 206, 207, 208, 209, 210, 211, 212, 213, 214, 215, 216, 217, 218] rfl (by decide +kernel)
set_option maxRecDepth 20000 in
theorem g_c_X14_firstRound_c_X14_con_183 : GoodIn pw_c_X14_firstRound (wsV RX14 591 RX14 yX14_con pw_c_X14_con) := goodIn_r _ [62, 63, 64, 14, 65, 66, 4, 67, 68, 69, 83, 84, 85, 86, 87, 88, 89, 90, 91, 92, 93, 94, 95, 96, 97, 98, 99, 100, 101, 102, 103, 104, 105, 106, 107, 108, 109, 110, 111, 112, 113, 114, 115, 116, 117, 118, 119, 120, 121, 122, 123, 124, 125, 126, 127, 128, 129, 130, 131, 132, 133, 134, 135, 136, 137, 138, 139, 140, 141, 142, 143, 144, 145, 146, 147, 148, 149, 150, 151, 152, 153, 154, 155, 156, 157, 158, 159, 160, 161, 162, 163, 164, 165, 166, 167, 168, 169, 170, 171, 172, 173, 174, 175, 176, 177, 178, 179, 180, 181, 182, 183, 184, 185, 186, 187, 188, 189, 190, 191, 192, 193, 194, 195, 196, 197, 198, 199, 200, 201, 202, 203, 204, 205, 206, 207, 208, 209, 210, 211, 212, 213, 214, 215, 216, 217, 218] rfl (by decide +kernel)
set_option maxRecDepth 20000 in
theorem g_c_X14_firstRound_c_X14_con_191 : GoodIn pw_c_X14_firstRound (wsV RX14 591 RX14 yX14_con pw_c_X14_con) := goodIn_r _ [62, 63, 64, 14, 65, 66, 4, 67, 68, 69, 83, 84, 85, 86, 87, 88, 89, 90, 91, 92, 93, 94, 95, 96, 97, 98, 99, 100, 101, 102, 103, 104, 105, 106, 107, 108, 109, 110, 111, 112, 113, 114, 115, 116, 117, 118, 119, 120, 121, 122, 123, 124, 125, 126, 127, 128, 129, 130, 131, 132, 133, 134, 135, 136, 137, 138, 139, 140, 141, 142, 143, 144, 145, 146, 147, 148, 149, 150, 151, 152, 153, 154, 155, 156, 157, 158, 159, 160, 161, 162, 163, 164, 165, 166, 167, 168, 169, 170, 171, 172, 173, 174, 175, 176, 177, 178, 179, 180, 181, 182, 183, 184, 185, 186, 187, 188, 189, 190, 191, 192, 193, 194, 195, 196, 197, 198, 199, 200, 201, 202, 203, 204, 205, 206, 207, 208, 209, 210, 211, 212, 213, 214, 215, 216, 217, 218] rfl (by decide +kernel)
set_option maxRecDepth 20000 in
theorem g_c_X14_firstRound_c_X14_con_199 : GoodIn pw_c_X14_firstRound (wsV RX14 591 RX14 yX14_con pw_c_X14_con) := goodIn_r _ [62, 63, 64, 14, 65, 66, 4, 67, 68, 69, 83, 84, 85, 86, 87, 88, 89, 90, 91, 92, 93, 94, 95, 96, 97, 98, 99, 100, 101, 102, 103, 104, 105, 106, 107, 108, 109, 110, 111, 112, 113, 114, 115, 116, 117, 118, 119, 120, 121, 122, 123, 124, 125, 126, 127, 128, 129, 130, 131, 132, 133, 134, 135, 136, 137, 138, 139, 140, 141, 142, 143, 144, 145, 146, 147, 148, 149, 150, 151, 152, 153, 154, 155, 156, 157, 158, 159, 160, 161, 162, 163, 164, 165, 166, 167, 168, 169, 170, 171, 172, 173, 174, 175, 176, 177, 178, 179, 180, 181, 182, 183, 184, 185, 186, 187, 188, 189, 190, 191, 192, 193, 194, 195, 196, 197, 198, 199, 200, 201, 202, 203, 204, 205, 206, 207, 208, 209, 210, 211, 212, 213, 214, 215, 216, 217, 218] rfl (by decide +kernel)
set_option maxRecDepth 20000 in
theorem g_c_X14_firstRound_c_X14_meaning_274 : GoodIn pw_c_X14_firstRound (wsV RX14 608 RX14 yX14_meaning pw_c_X14_meaning) := goodIn_r _ [71, 72, 73, 14, 74, 2, 57, 83, 84, 85, 86, 87, 88, 89, 90, 91, 92, 93, 94, 95, 96, 97, 98, 99, 100, 101, 102, 103, 104, 105, 106, 107, 108, 109, 110, 111, 112, 113, 114, 115, 116, 117, 118, 119, 120, 121, 122, 123, 124, 125, 126, 127, 128, 129, 130, 131, 132, 133, 134, 135, 136, 137, 138, 139, 140, 141, 142, 143, 144, 145, 146, 147, 148, 149, 150, 151, 152, 153, 154, 155, 156, 157, 158, 159, 160, 161, 162, 163, 164, 165, 166, 167, 168, 169, 170, 171, 172, 173, 174, 175, 176, 177, 178, 179, 180, 181, 182, 183, 184, 185, 186, 187, 188, 189, 190, 191, 192, 193, 194, 195, 196, 197, 198, 199, 200, 201, 202, 203, 204, 205, 206, 207, 208, 209, 210, 211, 212, 213, 214, 215, 216, 217, 218] rfl (by decide +kernel)
set_option maxRecDepth 20000 in
theorem g_c_X14_firstRound_c_X14_tells_290 : GoodIn pw_c_X14_firstRound (wsV RX14 564 RX14 yX14_tells pw_c_X14_tells) := goodIn_r _ [75, 76, 77, 14, 78, 7, 8, 83, 84, 85, 86, 87, 88, 89, 90, 91, 92, 93, 94, 95, 96, 97, 98, 99, 100, 101, 102, 103, 104, 105, 106, 107, 108, 109, 110, 111, 112, 113, 114, 115, 116, 117, 118, 119, 120, 121, 122, 123, 124, 125, 126, 127, 128, 129, 130, 131, 132, 133, 134, 135, 136, 137, 138, 139, 140, 141, 142, 143, 144, 145, 146, 147, 148, 149, 150, 151, 152, 153, 154, 155, 156, 157, 158, 159, 160, 161, 162, 163, 164, 165, 166, 167, 168, 169, 170, 171, 172, 173, 174, 175, 176, 177, 178, 179, 180, 181, 182, 183, 184, 185, 186, 187, 188, 189, 190, 191, 192, 193, 194, 195, 196, 197, 198, 199, 200, 201, 202, 203, 204, 205, 206, 207, 208, 209, 210, 211, 212, 213, 214, 215, 216, 217, 218] rfl (by decide +kernel)
set_option maxRecDepth 20000 in
theorem g_c_X14_firstRound_c_X14_limit_336 : GoodIn pw_c_X14_firstRound (wsV RX14 611 RX14 yX14_limit pw_c_X14_limit) := goodIn_r _ [79, 80, 81, 14, 82, 10, 83, 84, 85, 86, 87, 88, 89, 90, 91, 92, 93, 94, 95, 96, 97, 98, 99, 100, 101, 102, 103, 104, 105, 106, 107, 108, 109, 110, 111, 112, 113, 114, 115, 116, 117, 118, 119, 120, 121, 122, 123, 124, 125, 126, 127, 128, 129, 130, 131, 132, 133, 134, 135, 136, 137, 138, 139, 140, 141, 142, 143, 144, 145, 146, 147, 148, 149, 150, 151, 152, 153, 154, 155, 156, 157, 158, 159, 160, 161, 162, 163, 164, 165, 166, 167, 168, 169, 170, 171, 172, 173, 174, 175, 176, 177, 178, 179, 180, 181, 182, 183, 184, 185, 186, 187, 188, 189, 190, 191, 192, 193, 194, 195, 196, 197, 198, 199, 200, 201, 202, 203, 204, 205, 206, 207, 208, 209, 210, 211, 212, 213, 214, 215, 216, 217, 218] rfl (by decide +kernel)
set_option maxHeartbeats 4000000 in
set_option maxRecDepth 100000 in
theorem c_X14_firstRound (l : Launch) (dC : Nat → ClassId) (dI : Nat → Nat → Nat) (sz : Nat) (cI : ClassId) (h0 : Nat) (fs0 : List Value) (z1 : Int32) (z2 : Int32) (z3 : Int32) (z4 : Int32) (z5 : Int32) (z6 : Int32) (z7 : Int32) (z8 : Int32) (z9 : Int32) (y1 : Int32) (y2 : Int32) (qr : Nat) (fr : Nat → Int32) (qf : Nat) (ff : Nat → Int32) (ql : Nat) (fl : Nat → Int32) (d1 : Nat) (fd1 : Nat → Int32) (d2 : Nat) (fd2 : Nat → Int32) (d3 : Nat) (fd3 : Nat → Int32) (q1 : Nat) (f1 : Nat → Int32) (q2 : Nat) (f2 : Nat → Int32) (q3 : Nat) (f3 : Nat → Int32) (q4 : Nat) (f4 : Nat → Int32) (s0 : Nat) (v0 : Nat) (b0 : Nat → Int32) (s1 : Nat) (v1 : Nat) (b1 : Nat → Int32) (s2 : Nat) (v2 : Nat) (b2 : Nat → Int32) (s3 : Nat) (v3 : Nat) (b3 : Nat → Int32) (s4 : Nat) (v4 : Nat) (b4 : Nat → Int32) (s5 : Nat) (v5 : Nat) (b5 : Nat → Int32) (hF0 : hasF fs0 136 [(39, .int z1), (41, .int z2), (45, .int z3), (50, .int z4), (51, .int z5), (53, .int z6), (54, .int z7), (10, .int 1), (55, .int z8), (56, .int z9), (57, .int y1), (58, .int y2), (34, .int (-1)), (13, .int 0), (12, .ref qf), (11, .ref ql), (14, .ref qr), (42, .ref d1), (43, .ref d2), (44, .ref d3), (46, .ref q1), (47, .ref q2), (48, .ref q3), (49, .ref q4)]) (hnm : nmI 0 ff) : Met l yX14_firstRound pw_c_X14_firstRound ({ frames := 5, cells := 0, slots := 0, locals := 107 }) (va_Pc [.ref h0] (fun U => U.heap.size = sz ∧ va_P (dC, dI) vwCl [(h0, .inr (14, fs0)), (qr, .inl (cI, 12, .inl fr)), (qf, .inl (cI, 4040, .inl ff)), (ql, .inl (cI, 4100, .inl fl)), (d1, .inl (cI, 4100, .inl fd1)), (d2, .inl (cI, 4100, .inl fd2)), (d3, .inl (cI, 4100, .inl fd3)), (q1, .inl (cI, 4100, .inl f1)), (q2, .inl (cI, 4100, .inl f2)), (q3, .inl (cI, 4100, .inl f3)), (q4, .inl (cI, 4100, .inl f4))] U.heap ∧ va_K (dC, dI) vwCl [(cI, .int)] U ∧ va_D (fun _ => True) [(h0, .inr (14, fs0)), (qr, .inl (cI, 12, .inl fr)), (qf, .inl (cI, 4040, .inl ff)), (ql, .inl (cI, 4100, .inl fl)), (d1, .inl (cI, 4100, .inl fd1)), (d2, .inl (cI, 4100, .inl fd2)), (d3, .inl (cI, 4100, .inl fd3)), (q1, .inl (cI, 4100, .inl f1)), (q2, .inl (cI, 4100, .inl f2)), (q3, .inl (cI, 4100, .inl f3)), (q4, .inl (cI, 4100, .inl f4))] ∧ jdkO (va_A [(h0, .inr (14, fs0)), (qr, .inl (cI, 12, .inl fr)), (qf, .inl (cI, 4040, .inl ff)), (ql, .inl (cI, 4100, .inl fl)), (d1, .inl (cI, 4100, .inl fd1)), (d2, .inl (cI, 4100, .inl fd2)), (d3, .inl (cI, 4100, .inl fd3)), (q1, .inl (cI, 4100, .inl f1)), (q2, .inl (cI, 4100, .inl f2)), (q3, .inl (cI, 4100, .inl f3)), (q4, .inl (cI, 4100, .inl f4))] sz) U U.heap ∧ vk_R RX14 575 "Int" s0 U ∧ strO s0 v0 3 b0 (va_A [(h0, .inr (14, fs0)), (qr, .inl (cI, 12, .inl fr)), (qf, .inl (cI, 4040, .inl ff)), (ql, .inl (cI, 4100, .inl fl)), (d1, .inl (cI, 4100, .inl fd1)), (d2, .inl (cI, 4100, .inl fd2)), (d3, .inl (cI, 4100, .inl fd3)), (q1, .inl (cI, 4100, .inl f1)), (q2, .inl (cI, 4100, .inl f2)), (q3, .inl (cI, 4100, .inl f3)), (q4, .inl (cI, 4100, .inl f4))] sz) U U.heap ∧ vk_R RX14 580 "say" s1 U ∧ strO s1 v1 3 b1 (va_A [(h0, .inr (14, fs0)), (qr, .inl (cI, 12, .inl fr)), (qf, .inl (cI, 4040, .inl ff)), (ql, .inl (cI, 4100, .inl fl)), (d1, .inl (cI, 4100, .inl fd1)), (d2, .inl (cI, 4100, .inl fd2)), (d3, .inl (cI, 4100, .inl fd3)), (q1, .inl (cI, 4100, .inl f1)), (q2, .inl (cI, 4100, .inl f2)), (q3, .inl (cI, 4100, .inl f3)), (q4, .inl (cI, 4100, .inl f4))] sz) U U.heap ∧ vk_R RX14 582 "main" s2 U ∧ strO s2 v2 4 b2 (va_A [(h0, .inr (14, fs0)), (qr, .inl (cI, 12, .inl fr)), (qf, .inl (cI, 4040, .inl ff)), (ql, .inl (cI, 4100, .inl fl)), (d1, .inl (cI, 4100, .inl fd1)), (d2, .inl (cI, 4100, .inl fd2)), (d3, .inl (cI, 4100, .inl fd3)), (q1, .inl (cI, 4100, .inl f1)), (q2, .inl (cI, 4100, .inl f2)), (q3, .inl (cI, 4100, .inl f3)), (q4, .inl (cI, 4100, .inl f4))] sz) U U.heap ∧ vk_R RX14 587 "Bool" s3 U ∧ strO s3 v3 4 b3 (va_A [(h0, .inr (14, fs0)), (qr, .inl (cI, 12, .inl fr)), (qf, .inl (cI, 4040, .inl ff)), (ql, .inl (cI, 4100, .inl fl)), (d1, .inl (cI, 4100, .inl fd1)), (d2, .inl (cI, 4100, .inl fd2)), (d3, .inl (cI, 4100, .inl fd3)), (q1, .inl (cI, 4100, .inl f1)), (q2, .inl (cI, 4100, .inl f2)), (q3, .inl (cI, 4100, .inl f3)), (q4, .inl (cI, 4100, .inl f4))] sz) U U.heap ∧ vk_R RX14 589 "False" s4 U ∧ strO s4 v4 5 b4 (va_A [(h0, .inr (14, fs0)), (qr, .inl (cI, 12, .inl fr)), (qf, .inl (cI, 4040, .inl ff)), (ql, .inl (cI, 4100, .inl fl)), (d1, .inl (cI, 4100, .inl fd1)), (d2, .inl (cI, 4100, .inl fd2)), (d3, .inl (cI, 4100, .inl fd3)), (q1, .inl (cI, 4100, .inl f1)), (q2, .inl (cI, 4100, .inl f2)), (q3, .inl (cI, 4100, .inl f3)), (q4, .inl (cI, 4100, .inl f4))] sz) U U.heap ∧ vk_R RX14 594 "True" s5 U ∧ strO s5 v5 4 b5 (va_A [(h0, .inr (14, fs0)), (qr, .inl (cI, 12, .inl fr)), (qf, .inl (cI, 4040, .inl ff)), (ql, .inl (cI, 4100, .inl fl)), (d1, .inl (cI, 4100, .inl fd1)), (d2, .inl (cI, 4100, .inl fd2)), (d3, .inl (cI, 4100, .inl fd3)), (q1, .inl (cI, 4100, .inl f1)), (q2, .inl (cI, 4100, .inl f2)), (q3, .inl (cI, 4100, .inl f3)), (q4, .inl (cI, 4100, .inl f4))] sz) U U.heap)) (va_Qv (fun (u : (List Value) × (Nat → Int32) × (Nat → Int32) × (Nat → Int32) × (Nat → Int32) × (Nat → Int32) × (Nat → Int32) × (Nat → Int32) × (Nat → Int32) × (Nat → Int32) × (Nat → Int32)) => hasF u.1 136 [(53, .int 0), (54, .int 5)] ∧ sameF fs0 u.1 [39, 41, 45, 50, 51, 53, 54, 55, 56, 57, 58, 13]) (fun (u : (List Value) × (Nat → Int32) × (Nat → Int32) × (Nat → Int32) × (Nat → Int32) × (Nat → Int32) × (Nat → Int32) × (Nat → Int32) × (Nat → Int32) × (Nat → Int32) × (Nat → Int32)) (t : State) => va_P (dC, dI) vwCl [(h0, .inr (14, u.1)), (qr, .inl (cI, 12, .inl u.2.1)), (qf, .inl (cI, 4040, .inl u.2.2.1)), (ql, .inl (cI, 4100, .inl u.2.2.2.1)), (d1, .inl (cI, 4100, .inl u.2.2.2.2.1)), (d2, .inl (cI, 4100, .inl u.2.2.2.2.2.1)), (d3, .inl (cI, 4100, .inl u.2.2.2.2.2.2.1)), (q1, .inl (cI, 4100, .inl u.2.2.2.2.2.2.2.1)), (q2, .inl (cI, 4100, .inl u.2.2.2.2.2.2.2.2.1)), (q3, .inl (cI, 4100, .inl u.2.2.2.2.2.2.2.2.2.1)), (q4, .inl (cI, 4100, .inl u.2.2.2.2.2.2.2.2.2.2))] t.heap ∧ va_K (dC, dI) vwCl [(cI, .int)] t ∧ va_D (va_A [(h0, .inr (14, fs0)), (qr, .inl (cI, 12, .inl fr)), (qf, .inl (cI, 4040, .inl ff)), (ql, .inl (cI, 4100, .inl fl)), (d1, .inl (cI, 4100, .inl fd1)), (d2, .inl (cI, 4100, .inl fd2)), (d3, .inl (cI, 4100, .inl fd3)), (q1, .inl (cI, 4100, .inl f1)), (q2, .inl (cI, 4100, .inl f2)), (q3, .inl (cI, 4100, .inl f3)), (q4, .inl (cI, 4100, .inl f4))] sz) [(h0, .inr (14, u.1)), (qr, .inl (cI, 12, .inl u.2.1)), (qf, .inl (cI, 4040, .inl u.2.2.1)), (ql, .inl (cI, 4100, .inl u.2.2.2.1)), (d1, .inl (cI, 4100, .inl u.2.2.2.2.1)), (d2, .inl (cI, 4100, .inl u.2.2.2.2.2.1)), (d3, .inl (cI, 4100, .inl u.2.2.2.2.2.2.1)), (q1, .inl (cI, 4100, .inl u.2.2.2.2.2.2.2.1)), (q2, .inl (cI, 4100, .inl u.2.2.2.2.2.2.2.2.1)), (q3, .inl (cI, 4100, .inl u.2.2.2.2.2.2.2.2.2.1)), (q4, .inl (cI, 4100, .inl u.2.2.2.2.2.2.2.2.2.2))]) (va_A [(h0, .inr (14, fs0)), (qr, .inl (cI, 12, .inl fr)), (qf, .inl (cI, 4040, .inl ff)), (ql, .inl (cI, 4100, .inl fl)), (d1, .inl (cI, 4100, .inl fd1)), (d2, .inl (cI, 4100, .inl fd2)), (d3, .inl (cI, 4100, .inl fd3)), (q1, .inl (cI, 4100, .inl f1)), (q2, .inl (cI, 4100, .inl f2)), (q3, .inl (cI, 4100, .inl f3)), (q4, .inl (cI, 4100, .inl f4))] sz)) 0 0 (va_A [(h0, .inr (14, fs0)), (qr, .inl (cI, 12, .inl fr)), (qf, .inl (cI, 4040, .inl ff)), (ql, .inl (cI, 4100, .inl fl)), (d1, .inl (cI, 4100, .inl fd1)), (d2, .inl (cI, 4100, .inl fd2)), (d3, .inl (cI, 4100, .inl fd3)), (q1, .inl (cI, 4100, .inl f1)), (q2, .inl (cI, 4100, .inl f2)), (q3, .inl (cI, 4100, .inl f3)), (q4, .inl (cI, 4100, .inl f4))] sz) := by
  refine Met.ofW (cc := cX14_firstRound) (maxL := 2) (ret := none) (by decide) rfl ?_
  intro p e s m args below meth c s₁ B hml hv
  obtain ⟨rfl, hsz, hP, hK, hD0, hJ, hR0, hT0, hR1, hT1, hR2, hT2, hR3, hT3, hR4, hT4, hR5, hT5⟩ := hv
  have hx := B.exec
  have hb := B.bytes
  have hr := B.returns
  have hts := atoms_spec (ws := pw_c_X14_firstRound) B.pre
  have hown : s.vm.findClass RX14 = some m.cls := findClass_of_methodNamed B.named
  have hlocks := B.notSynchronized
  have hin_X14 : ∀ w ∈ u_ws RX14 TX14 136, w ∈ pw_c_X14_firstRound := fun w h => List.mem_cons_of_mem _ (List.mem_append_right _ (List.mem_append_left _ h))
  subst hsz
  have hD := hD0.self (sz := s.heap.size)
  generalize hAe : va_A [(h0, .inr (14, fs0)), (qr, .inl (cI, 12, .inl fr)), (qf, .inl (cI, 4040, .inl ff)), (ql, .inl (cI, 4100, .inl fl)), (d1, .inl (cI, 4100, .inl fd1)), (d2, .inl (cI, 4100, .inl fd2)), (d3, .inl (cI, 4100, .inl fd3)), (q1, .inl (cI, 4100, .inl f1)), (q2, .inl (cI, 4100, .inl f2)), (q3, .inl (cI, 4100, .inl f3)), (q4, .inl (cI, 4100, .inl f4))] s.heap.size = A at hD hJ hT0 hT1 hT2 hT3 hT4 hT5 ⊢
  have hA : ∀ q : Nat, s.heap.size ≤ q → A q := fun q h => by rw [← hAe]; exact Or.inr h
  have hS : va_S A s.heap s.heap [] := va_S.rf
  have hP : va_P (dC, dI) vwCl [(h0, .inr (14, fs0)), (qr, .inl (cI, 12, .inl fr)), (qf, .inl (cI, 4040, .inl ff)), (ql, .inl (cI, 4100, .inl fl)), (d1, .inl (cI, 4100, .inl fd1)), (d2, .inl (cI, 4100, .inl fd2)), (d3, .inl (cI, 4100, .inl fd3)), (q1, .inl (cI, 4100, .inl f1)), (q2, .inl (cI, 4100, .inl f2)), (q3, .inl (cI, 4100, .inl f3)), (q4, .inl (cI, 4100, .inl f4))] s.heap := hP
  have hl := lv_entry ([.ref h0]) (n := 2) (Nat.le_of_ble_eq_true rfl)
  rw [lg_entry_eq]
  generalize (lg_sl ([.ref h0]) ++ List.replicate (2 - (lg_sl ([.ref h0])).length) Slot.unset).toArray = ls at hl ⊢
  have hl : lv_has ls 2 [(0, .ref h0)] := hl
  have hnm0 : nmI 0 ff := hnm
  refine lv_aload_n hx hb dX14_firstRound_0 rfl (lv_at hl 0 rfl) ?_
  refine lv_iconst (v := 0) hx hb dX14_firstRound_1 (by decide) ?_
  refine va_put (D := (dC, dI)) (ci := 14) (v := .int 0) (ty := .int) (C := RX14) (T := TX14) (N := 136) hx hb hts hin_X14 tyX14 tyX14_ok nmX14 hown hK hP hD hS 0 rfl rfl 39 (by decide) (hts (.fieldLink RX14 547 "NeedHouseModel" "told" "I") (List.mem_of_getElem? (i := 1) rfl)) (fun _ h9 => h9) rfl (by decide +kernel) rfl rfl (by rw [hF0.1]; decide) dX14_firstRound_2 (fun H locs hP hD hS => ?_)
  have hP : va_P (dC, dI) vwCl [(h0, .inr (14, (fs0.set 39 (.int 0)))), (qr, .inl (cI, 12, .inl fr)), (qf, .inl (cI, 4040, .inl ff)), (ql, .inl (cI, 4100, .inl fl)), (d1, .inl (cI, 4100, .inl fd1)), (d2, .inl (cI, 4100, .inl fd2)), (d3, .inl (cI, 4100, .inl fd3)), (q1, .inl (cI, 4100, .inl f1)), (q2, .inl (cI, 4100, .inl f2)), (q3, .inl (cI, 4100, .inl f3)), (q4, .inl (cI, 4100, .inl f4))] H := hP
  have hD : va_D A [(h0, .inr (14, (fs0.set 39 (.int 0)))), (qr, .inl (cI, 12, .inl fr)), (qf, .inl (cI, 4040, .inl ff)), (ql, .inl (cI, 4100, .inl fl)), (d1, .inl (cI, 4100, .inl fd1)), (d2, .inl (cI, 4100, .inl fd2)), (d3, .inl (cI, 4100, .inl fd3)), (q1, .inl (cI, 4100, .inl f1)), (q2, .inl (cI, 4100, .inl f2)), (q3, .inl (cI, 4100, .inl f3)), (q4, .inl (cI, 4100, .inl f4))] := hD
  have hF_1 := hF0.set 39 (.int 0) (l' := [(39, .int 0), (41, .int z2), (45, .int z3), (50, .int z4), (51, .int z5), (53, .int z6), (54, .int z7), (10, .int 1), (55, .int z8), (56, .int z9), (57, .int y1), (58, .int y2), (34, .int (-1)), (13, .int 0), (12, .ref qf), (11, .ref ql), (14, .ref qr), (42, .ref d1), (43, .ref d2), (44, .ref d3), (46, .ref q1), (47, .ref q2), (48, .ref q3), (49, .ref q4)]) (by decide) rfl
  have hE_2 := (sameF.rf (f := fs0)).set 39 (.int 0)
  generalize fs0.set 39 (.int 0) = fs_3 at hP hD hF_1 hE_2
  have hP : va_P (dC, dI) vwCl [(h0, .inr (14, fs_3)), (qr, .inl (cI, 12, .inl fr)), (qf, .inl (cI, 4040, .inl ff)), (ql, .inl (cI, 4100, .inl fl)), (d1, .inl (cI, 4100, .inl fd1)), (d2, .inl (cI, 4100, .inl fd2)), (d3, .inl (cI, 4100, .inl fd3)), (q1, .inl (cI, 4100, .inl f1)), (q2, .inl (cI, 4100, .inl f2)), (q3, .inl (cI, 4100, .inl f3)), (q4, .inl (cI, 4100, .inl f4))] H := hP
  have hD : va_D A [(h0, .inr (14, fs_3)), (qr, .inl (cI, 12, .inl fr)), (qf, .inl (cI, 4040, .inl ff)), (ql, .inl (cI, 4100, .inl fl)), (d1, .inl (cI, 4100, .inl fd1)), (d2, .inl (cI, 4100, .inl fd2)), (d3, .inl (cI, 4100, .inl fd3)), (q1, .inl (cI, 4100, .inl f1)), (q2, .inl (cI, 4100, .inl f2)), (q3, .inl (cI, 4100, .inl f3)), (q4, .inl (cI, 4100, .inl f4))] := hD
  refine lv_aload_n hx hb dX14_firstRound_5 rfl (lv_at hl 0 rfl) ?_
  refine lv_iconst (v := 0) hx hb dX14_firstRound_6 (by decide) ?_
  refine va_put (D := (dC, dI)) (ci := 14) (v := .int 0) (ty := .int) (C := RX14) (T := TX14) (N := 136) hx hb hts hin_X14 tyX14 tyX14_ok nmX14 hown hK hP hD hS 0 rfl rfl 41 (by decide) (hts (.fieldLink RX14 552 "NeedHouseModel" "scopes" "I") (List.mem_of_getElem? (i := 2) rfl)) (fun _ h9 => h9) rfl (by decide +kernel) rfl rfl (by rw [hF_1.1]; decide) dX14_firstRound_7 (fun H locs hP hD hS => ?_)
  have hP : va_P (dC, dI) vwCl [(h0, .inr (14, (fs_3.set 41 (.int 0)))), (qr, .inl (cI, 12, .inl fr)), (qf, .inl (cI, 4040, .inl ff)), (ql, .inl (cI, 4100, .inl fl)), (d1, .inl (cI, 4100, .inl fd1)), (d2, .inl (cI, 4100, .inl fd2)), (d3, .inl (cI, 4100, .inl fd3)), (q1, .inl (cI, 4100, .inl f1)), (q2, .inl (cI, 4100, .inl f2)), (q3, .inl (cI, 4100, .inl f3)), (q4, .inl (cI, 4100, .inl f4))] H := hP
  have hD : va_D A [(h0, .inr (14, (fs_3.set 41 (.int 0)))), (qr, .inl (cI, 12, .inl fr)), (qf, .inl (cI, 4040, .inl ff)), (ql, .inl (cI, 4100, .inl fl)), (d1, .inl (cI, 4100, .inl fd1)), (d2, .inl (cI, 4100, .inl fd2)), (d3, .inl (cI, 4100, .inl fd3)), (q1, .inl (cI, 4100, .inl f1)), (q2, .inl (cI, 4100, .inl f2)), (q3, .inl (cI, 4100, .inl f3)), (q4, .inl (cI, 4100, .inl f4))] := hD
  have hF_4 := hF_1.set 41 (.int 0) (l' := [(41, .int 0), (39, .int 0), (45, .int z3), (50, .int z4), (51, .int z5), (53, .int z6), (54, .int z7), (10, .int 1), (55, .int z8), (56, .int z9), (57, .int y1), (58, .int y2), (34, .int (-1)), (13, .int 0), (12, .ref qf), (11, .ref ql), (14, .ref qr), (42, .ref d1), (43, .ref d2), (44, .ref d3), (46, .ref q1), (47, .ref q2), (48, .ref q3), (49, .ref q4)]) (by decide) rfl
  have hE_5 := hE_2.set 41 (.int 0)
  generalize fs_3.set 41 (.int 0) = fs_6 at hP hD hF_4 hE_5
  have hP : va_P (dC, dI) vwCl [(h0, .inr (14, fs_6)), (qr, .inl (cI, 12, .inl fr)), (qf, .inl (cI, 4040, .inl ff)), (ql, .inl (cI, 4100, .inl fl)), (d1, .inl (cI, 4100, .inl fd1)), (d2, .inl (cI, 4100, .inl fd2)), (d3, .inl (cI, 4100, .inl fd3)), (q1, .inl (cI, 4100, .inl f1)), (q2, .inl (cI, 4100, .inl f2)), (q3, .inl (cI, 4100, .inl f3)), (q4, .inl (cI, 4100, .inl f4))] H := hP
  have hD : va_D A [(h0, .inr (14, fs_6)), (qr, .inl (cI, 12, .inl fr)), (qf, .inl (cI, 4040, .inl ff)), (ql, .inl (cI, 4100, .inl fl)), (d1, .inl (cI, 4100, .inl fd1)), (d2, .inl (cI, 4100, .inl fd2)), (d3, .inl (cI, 4100, .inl fd3)), (q1, .inl (cI, 4100, .inl f1)), (q2, .inl (cI, 4100, .inl f2)), (q3, .inl (cI, 4100, .inl f3)), (q4, .inl (cI, 4100, .inl f4))] := hD
  refine lv_aload_n hx hb dX14_firstRound_10 rfl (lv_at hl 0 rfl) ?_
  refine lv_iconst (v := 0) hx hb dX14_firstRound_11 (by decide) ?_
  refine va_put (D := (dC, dI)) (ci := 14) (v := .int 0) (ty := .int) (C := RX14) (T := TX14) (N := 136) hx hb hts hin_X14 tyX14 tyX14_ok nmX14 hown hK hP hD hS 0 rfl rfl 45 (by decide) (hts (.fieldLink RX14 558 "NeedHouseModel" "datas" "I") (List.mem_of_getElem? (i := 3) rfl)) (fun _ h9 => h9) rfl (by decide +kernel) rfl rfl (by rw [hF_4.1]; decide) dX14_firstRound_12 (fun H locs hP hD hS => ?_)
  have hP : va_P (dC, dI) vwCl [(h0, .inr (14, (fs_6.set 45 (.int 0)))), (qr, .inl (cI, 12, .inl fr)), (qf, .inl (cI, 4040, .inl ff)), (ql, .inl (cI, 4100, .inl fl)), (d1, .inl (cI, 4100, .inl fd1)), (d2, .inl (cI, 4100, .inl fd2)), (d3, .inl (cI, 4100, .inl fd3)), (q1, .inl (cI, 4100, .inl f1)), (q2, .inl (cI, 4100, .inl f2)), (q3, .inl (cI, 4100, .inl f3)), (q4, .inl (cI, 4100, .inl f4))] H := hP
  have hD : va_D A [(h0, .inr (14, (fs_6.set 45 (.int 0)))), (qr, .inl (cI, 12, .inl fr)), (qf, .inl (cI, 4040, .inl ff)), (ql, .inl (cI, 4100, .inl fl)), (d1, .inl (cI, 4100, .inl fd1)), (d2, .inl (cI, 4100, .inl fd2)), (d3, .inl (cI, 4100, .inl fd3)), (q1, .inl (cI, 4100, .inl f1)), (q2, .inl (cI, 4100, .inl f2)), (q3, .inl (cI, 4100, .inl f3)), (q4, .inl (cI, 4100, .inl f4))] := hD
  have hF_7 := hF_4.set 45 (.int 0) (l' := [(45, .int 0), (41, .int 0), (39, .int 0), (50, .int z4), (51, .int z5), (53, .int z6), (54, .int z7), (10, .int 1), (55, .int z8), (56, .int z9), (57, .int y1), (58, .int y2), (34, .int (-1)), (13, .int 0), (12, .ref qf), (11, .ref ql), (14, .ref qr), (42, .ref d1), (43, .ref d2), (44, .ref d3), (46, .ref q1), (47, .ref q2), (48, .ref q3), (49, .ref q4)]) (by decide) rfl
  have hE_8 := hE_5.set 45 (.int 0)
  generalize fs_6.set 45 (.int 0) = fs_9 at hP hD hF_7 hE_8
  have hP : va_P (dC, dI) vwCl [(h0, .inr (14, fs_9)), (qr, .inl (cI, 12, .inl fr)), (qf, .inl (cI, 4040, .inl ff)), (ql, .inl (cI, 4100, .inl fl)), (d1, .inl (cI, 4100, .inl fd1)), (d2, .inl (cI, 4100, .inl fd2)), (d3, .inl (cI, 4100, .inl fd3)), (q1, .inl (cI, 4100, .inl f1)), (q2, .inl (cI, 4100, .inl f2)), (q3, .inl (cI, 4100, .inl f3)), (q4, .inl (cI, 4100, .inl f4))] H := hP
  have hD : va_D A [(h0, .inr (14, fs_9)), (qr, .inl (cI, 12, .inl fr)), (qf, .inl (cI, 4040, .inl ff)), (ql, .inl (cI, 4100, .inl fl)), (d1, .inl (cI, 4100, .inl fd1)), (d2, .inl (cI, 4100, .inl fd2)), (d3, .inl (cI, 4100, .inl fd3)), (q1, .inl (cI, 4100, .inl f1)), (q2, .inl (cI, 4100, .inl f2)), (q3, .inl (cI, 4100, .inl f3)), (q4, .inl (cI, 4100, .inl f4))] := hD
  refine lv_aload_n hx hb dX14_firstRound_15 rfl (lv_at hl 0 rfl) ?_
  refine lv_iconst (v := 0) hx hb dX14_firstRound_16 (by decide) ?_
  refine va_put (D := (dC, dI)) (ci := 14) (v := .int 0) (ty := .int) (C := RX14) (T := TX14) (N := 136) hx hb hts hin_X14 tyX14 tyX14_ok nmX14 hown hK hP hD hS 0 rfl rfl 50 (by decide) (hts (.fieldLink RX14 544 "NeedHouseModel" "cons" "I") (List.mem_of_getElem? (i := 4) rfl)) (fun _ h9 => h9) rfl (by decide +kernel) rfl rfl (by rw [hF_7.1]; decide) dX14_firstRound_17 (fun H locs hP hD hS => ?_)
  have hP : va_P (dC, dI) vwCl [(h0, .inr (14, (fs_9.set 50 (.int 0)))), (qr, .inl (cI, 12, .inl fr)), (qf, .inl (cI, 4040, .inl ff)), (ql, .inl (cI, 4100, .inl fl)), (d1, .inl (cI, 4100, .inl fd1)), (d2, .inl (cI, 4100, .inl fd2)), (d3, .inl (cI, 4100, .inl fd3)), (q1, .inl (cI, 4100, .inl f1)), (q2, .inl (cI, 4100, .inl f2)), (q3, .inl (cI, 4100, .inl f3)), (q4, .inl (cI, 4100, .inl f4))] H := hP
  have hD : va_D A [(h0, .inr (14, (fs_9.set 50 (.int 0)))), (qr, .inl (cI, 12, .inl fr)), (qf, .inl (cI, 4040, .inl ff)), (ql, .inl (cI, 4100, .inl fl)), (d1, .inl (cI, 4100, .inl fd1)), (d2, .inl (cI, 4100, .inl fd2)), (d3, .inl (cI, 4100, .inl fd3)), (q1, .inl (cI, 4100, .inl f1)), (q2, .inl (cI, 4100, .inl f2)), (q3, .inl (cI, 4100, .inl f3)), (q4, .inl (cI, 4100, .inl f4))] := hD
  have hF_10 := hF_7.set 50 (.int 0) (l' := [(50, .int 0), (45, .int 0), (41, .int 0), (39, .int 0), (51, .int z5), (53, .int z6), (54, .int z7), (10, .int 1), (55, .int z8), (56, .int z9), (57, .int y1), (58, .int y2), (34, .int (-1)), (13, .int 0), (12, .ref qf), (11, .ref ql), (14, .ref qr), (42, .ref d1), (43, .ref d2), (44, .ref d3), (46, .ref q1), (47, .ref q2), (48, .ref q3), (49, .ref q4)]) (by decide) rfl
  have hE_11 := hE_8.set 50 (.int 0)
  generalize fs_9.set 50 (.int 0) = fs_12 at hP hD hF_10 hE_11
  have hP : va_P (dC, dI) vwCl [(h0, .inr (14, fs_12)), (qr, .inl (cI, 12, .inl fr)), (qf, .inl (cI, 4040, .inl ff)), (ql, .inl (cI, 4100, .inl fl)), (d1, .inl (cI, 4100, .inl fd1)), (d2, .inl (cI, 4100, .inl fd2)), (d3, .inl (cI, 4100, .inl fd3)), (q1, .inl (cI, 4100, .inl f1)), (q2, .inl (cI, 4100, .inl f2)), (q3, .inl (cI, 4100, .inl f3)), (q4, .inl (cI, 4100, .inl f4))] H := hP
  have hD : va_D A [(h0, .inr (14, fs_12)), (qr, .inl (cI, 12, .inl fr)), (qf, .inl (cI, 4040, .inl ff)), (ql, .inl (cI, 4100, .inl fl)), (d1, .inl (cI, 4100, .inl fd1)), (d2, .inl (cI, 4100, .inl fd2)), (d3, .inl (cI, 4100, .inl fd3)), (q1, .inl (cI, 4100, .inl f1)), (q2, .inl (cI, 4100, .inl f2)), (q3, .inl (cI, 4100, .inl f3)), (q4, .inl (cI, 4100, .inl f4))] := hD
  refine lv_aload_n hx hb dX14_firstRound_20 rfl (lv_at hl 0 rfl) ?_
  refine lv_iconst (v := 0) hx hb dX14_firstRound_21 (by decide) ?_
  refine va_put (D := (dC, dI)) (ci := 14) (v := .int 0) (ty := .int) (C := RX14) (T := TX14) (N := 136) hx hb hts hin_X14 tyX14 tyX14_ok nmX14 hown hK hP hD hS 0 rfl rfl 51 (by decide) (hts (.fieldLink RX14 571 "NeedHouseModel" "definitions" "I") (List.mem_of_getElem? (i := 5) rfl)) (fun _ h9 => h9) rfl (by decide +kernel) rfl rfl (by rw [hF_10.1]; decide) dX14_firstRound_22 (fun H locs hP hD hS => ?_)
  have hP : va_P (dC, dI) vwCl [(h0, .inr (14, (fs_12.set 51 (.int 0)))), (qr, .inl (cI, 12, .inl fr)), (qf, .inl (cI, 4040, .inl ff)), (ql, .inl (cI, 4100, .inl fl)), (d1, .inl (cI, 4100, .inl fd1)), (d2, .inl (cI, 4100, .inl fd2)), (d3, .inl (cI, 4100, .inl fd3)), (q1, .inl (cI, 4100, .inl f1)), (q2, .inl (cI, 4100, .inl f2)), (q3, .inl (cI, 4100, .inl f3)), (q4, .inl (cI, 4100, .inl f4))] H := hP
  have hD : va_D A [(h0, .inr (14, (fs_12.set 51 (.int 0)))), (qr, .inl (cI, 12, .inl fr)), (qf, .inl (cI, 4040, .inl ff)), (ql, .inl (cI, 4100, .inl fl)), (d1, .inl (cI, 4100, .inl fd1)), (d2, .inl (cI, 4100, .inl fd2)), (d3, .inl (cI, 4100, .inl fd3)), (q1, .inl (cI, 4100, .inl f1)), (q2, .inl (cI, 4100, .inl f2)), (q3, .inl (cI, 4100, .inl f3)), (q4, .inl (cI, 4100, .inl f4))] := hD
  have hF_13 := hF_10.set 51 (.int 0) (l' := [(51, .int 0), (50, .int 0), (45, .int 0), (41, .int 0), (39, .int 0), (53, .int z6), (54, .int z7), (10, .int 1), (55, .int z8), (56, .int z9), (57, .int y1), (58, .int y2), (34, .int (-1)), (13, .int 0), (12, .ref qf), (11, .ref ql), (14, .ref qr), (42, .ref d1), (43, .ref d2), (44, .ref d3), (46, .ref q1), (47, .ref q2), (48, .ref q3), (49, .ref q4)]) (by decide) rfl
  have hE_14 := hE_11.set 51 (.int 0)
  generalize fs_12.set 51 (.int 0) = fs_15 at hP hD hF_13 hE_14
  have hP : va_P (dC, dI) vwCl [(h0, .inr (14, fs_15)), (qr, .inl (cI, 12, .inl fr)), (qf, .inl (cI, 4040, .inl ff)), (ql, .inl (cI, 4100, .inl fl)), (d1, .inl (cI, 4100, .inl fd1)), (d2, .inl (cI, 4100, .inl fd2)), (d3, .inl (cI, 4100, .inl fd3)), (q1, .inl (cI, 4100, .inl f1)), (q2, .inl (cI, 4100, .inl f2)), (q3, .inl (cI, 4100, .inl f3)), (q4, .inl (cI, 4100, .inl f4))] H := hP
  have hD : va_D A [(h0, .inr (14, fs_15)), (qr, .inl (cI, 12, .inl fr)), (qf, .inl (cI, 4040, .inl ff)), (ql, .inl (cI, 4100, .inl fl)), (d1, .inl (cI, 4100, .inl fd1)), (d2, .inl (cI, 4100, .inl fd2)), (d3, .inl (cI, 4100, .inl fd3)), (q1, .inl (cI, 4100, .inl f1)), (q2, .inl (cI, 4100, .inl f2)), (q3, .inl (cI, 4100, .inl f3)), (q4, .inl (cI, 4100, .inl f4))] := hD
  refine lv_aload_n hx hb dX14_firstRound_25 rfl (lv_at hl 0 rfl) ?_
  refine lv_ldcw (v := 1000000) hx hb hown (hts (.constant RX14 574 (1000000)) (List.mem_of_getElem? (i := 6) rfl)) dX14_firstRound_26 ?_
  refine va_put (D := (dC, dI)) (ci := 14) (v := .int 1000000) (ty := .int) (C := RX14) (T := TX14) (N := 136) hx hb hts hin_X14 tyX14 tyX14_ok nmX14 hown hK hP hD hS 0 rfl rfl 53 (by decide) (hts (.fieldLink RX14 538 "NeedHouseModel" "bestToken" "I") (List.mem_of_getElem? (i := 7) rfl)) (fun _ h9 => h9) rfl (by decide +kernel) rfl rfl (by rw [hF_13.1]; decide) dX14_firstRound_29 (fun H locs hP hD hS => ?_)
  have hP : va_P (dC, dI) vwCl [(h0, .inr (14, (fs_15.set 53 (.int 1000000)))), (qr, .inl (cI, 12, .inl fr)), (qf, .inl (cI, 4040, .inl ff)), (ql, .inl (cI, 4100, .inl fl)), (d1, .inl (cI, 4100, .inl fd1)), (d2, .inl (cI, 4100, .inl fd2)), (d3, .inl (cI, 4100, .inl fd3)), (q1, .inl (cI, 4100, .inl f1)), (q2, .inl (cI, 4100, .inl f2)), (q3, .inl (cI, 4100, .inl f3)), (q4, .inl (cI, 4100, .inl f4))] H := hP
  have hD : va_D A [(h0, .inr (14, (fs_15.set 53 (.int 1000000)))), (qr, .inl (cI, 12, .inl fr)), (qf, .inl (cI, 4040, .inl ff)), (ql, .inl (cI, 4100, .inl fl)), (d1, .inl (cI, 4100, .inl fd1)), (d2, .inl (cI, 4100, .inl fd2)), (d3, .inl (cI, 4100, .inl fd3)), (q1, .inl (cI, 4100, .inl f1)), (q2, .inl (cI, 4100, .inl f2)), (q3, .inl (cI, 4100, .inl f3)), (q4, .inl (cI, 4100, .inl f4))] := hD
  have hF_16 := hF_13.set 53 (.int 1000000) (l' := [(53, .int 1000000), (51, .int 0), (50, .int 0), (45, .int 0), (41, .int 0), (39, .int 0), (54, .int z7), (10, .int 1), (55, .int z8), (56, .int z9), (57, .int y1), (58, .int y2), (34, .int (-1)), (13, .int 0), (12, .ref qf), (11, .ref ql), (14, .ref qr), (42, .ref d1), (43, .ref d2), (44, .ref d3), (46, .ref q1), (47, .ref q2), (48, .ref q3), (49, .ref q4)]) (by decide) rfl
  have hE_17 := hE_14.set 53 (.int 1000000)
  generalize fs_15.set 53 (.int 1000000) = fs_18 at hP hD hF_16 hE_17
  have hP : va_P (dC, dI) vwCl [(h0, .inr (14, fs_18)), (qr, .inl (cI, 12, .inl fr)), (qf, .inl (cI, 4040, .inl ff)), (ql, .inl (cI, 4100, .inl fl)), (d1, .inl (cI, 4100, .inl fd1)), (d2, .inl (cI, 4100, .inl fd2)), (d3, .inl (cI, 4100, .inl fd3)), (q1, .inl (cI, 4100, .inl f1)), (q2, .inl (cI, 4100, .inl f2)), (q3, .inl (cI, 4100, .inl f3)), (q4, .inl (cI, 4100, .inl f4))] H := hP
  have hD : va_D A [(h0, .inr (14, fs_18)), (qr, .inl (cI, 12, .inl fr)), (qf, .inl (cI, 4040, .inl ff)), (ql, .inl (cI, 4100, .inl fl)), (d1, .inl (cI, 4100, .inl fd1)), (d2, .inl (cI, 4100, .inl fd2)), (d3, .inl (cI, 4100, .inl fd3)), (q1, .inl (cI, 4100, .inl f1)), (q2, .inl (cI, 4100, .inl f2)), (q3, .inl (cI, 4100, .inl f3)), (q4, .inl (cI, 4100, .inl f4))] := hD
  refine lv_aload_n hx hb dX14_firstRound_32 rfl (lv_at hl 0 rfl) ?_
  refine lv_iconst (v := 0) hx hb dX14_firstRound_33 (by decide) ?_
  refine va_put (D := (dC, dI)) (ci := 14) (v := .int 0) (ty := .int) (C := RX14) (T := TX14) (N := 136) hx hb hts hin_X14 tyX14 tyX14_ok nmX14 hown hK hP hD hS 0 rfl rfl 54 (by decide) (hts (.fieldLink RX14 541 "NeedHouseModel" "bestKind" "I") (List.mem_of_getElem? (i := 8) rfl)) (fun _ h9 => h9) rfl (by decide +kernel) rfl rfl (by rw [hF_16.1]; decide) dX14_firstRound_34 (fun H locs hP hD hS => ?_)
  have hP : va_P (dC, dI) vwCl [(h0, .inr (14, (fs_18.set 54 (.int 0)))), (qr, .inl (cI, 12, .inl fr)), (qf, .inl (cI, 4040, .inl ff)), (ql, .inl (cI, 4100, .inl fl)), (d1, .inl (cI, 4100, .inl fd1)), (d2, .inl (cI, 4100, .inl fd2)), (d3, .inl (cI, 4100, .inl fd3)), (q1, .inl (cI, 4100, .inl f1)), (q2, .inl (cI, 4100, .inl f2)), (q3, .inl (cI, 4100, .inl f3)), (q4, .inl (cI, 4100, .inl f4))] H := hP
  have hD : va_D A [(h0, .inr (14, (fs_18.set 54 (.int 0)))), (qr, .inl (cI, 12, .inl fr)), (qf, .inl (cI, 4040, .inl ff)), (ql, .inl (cI, 4100, .inl fl)), (d1, .inl (cI, 4100, .inl fd1)), (d2, .inl (cI, 4100, .inl fd2)), (d3, .inl (cI, 4100, .inl fd3)), (q1, .inl (cI, 4100, .inl f1)), (q2, .inl (cI, 4100, .inl f2)), (q3, .inl (cI, 4100, .inl f3)), (q4, .inl (cI, 4100, .inl f4))] := hD
  have hF_19 := hF_16.set 54 (.int 0) (l' := [(54, .int 0), (53, .int 1000000), (51, .int 0), (50, .int 0), (45, .int 0), (41, .int 0), (39, .int 0), (10, .int 1), (55, .int z8), (56, .int z9), (57, .int y1), (58, .int y2), (34, .int (-1)), (13, .int 0), (12, .ref qf), (11, .ref ql), (14, .ref qr), (42, .ref d1), (43, .ref d2), (44, .ref d3), (46, .ref q1), (47, .ref q2), (48, .ref q3), (49, .ref q4)]) (by decide) rfl
  have hE_20 := hE_17.set 54 (.int 0)
  generalize fs_18.set 54 (.int 0) = fs_21 at hP hD hF_19 hE_20
  have hP : va_P (dC, dI) vwCl [(h0, .inr (14, fs_21)), (qr, .inl (cI, 12, .inl fr)), (qf, .inl (cI, 4040, .inl ff)), (ql, .inl (cI, 4100, .inl fl)), (d1, .inl (cI, 4100, .inl fd1)), (d2, .inl (cI, 4100, .inl fd2)), (d3, .inl (cI, 4100, .inl fd3)), (q1, .inl (cI, 4100, .inl f1)), (q2, .inl (cI, 4100, .inl f2)), (q3, .inl (cI, 4100, .inl f3)), (q4, .inl (cI, 4100, .inl f4))] H := hP
  have hD : va_D A [(h0, .inr (14, fs_21)), (qr, .inl (cI, 12, .inl fr)), (qf, .inl (cI, 4040, .inl ff)), (ql, .inl (cI, 4100, .inl fl)), (d1, .inl (cI, 4100, .inl fd1)), (d2, .inl (cI, 4100, .inl fd2)), (d3, .inl (cI, 4100, .inl fd3)), (q1, .inl (cI, 4100, .inl f1)), (q2, .inl (cI, 4100, .inl f2)), (q3, .inl (cI, 4100, .inl f3)), (q4, .inl (cI, 4100, .inl f4))] := hD
  refine lv_aload_n hx hb dX14_firstRound_37 rfl (lv_at hl 0 rfl) ?_
  refine lv_aload_n hx hb dX14_firstRound_38 rfl (lv_at hl 0 rfl) ?_
  refine va_get (D := (dC, dI)) (ci := 14) (v := .int 1) (C := RX14) (T := TX14) (N := 136) hx hb hts hin_X14 hown hK hP 0 rfl rfl 10 (by decide) (hts (.fieldLink RX14 369 "NeedHouseModel" "tokens" "I") (List.mem_of_getElem? (i := 9) rfl)) (fun _ h9 => h9) (hF_19.at 7 rfl) dX14_firstRound_39 ?_
  refine lv_iconst (v := 1) hx hb dX14_firstRound_42 (by decide) ?_
  refine lv_isub hx hb dX14_firstRound_43 ?_
  refine lv_topi (fun x_22 ex_22 => ?_)
  obtain rfl : x_22 = 0 := ex_22.trans (by decide +kernel)
  refine lv_sipush (v := 1500) hx hb dX14_firstRound_44 (by decide) ?_
  refine lv_icmp_le (tgt := 54) hx hb dX14_firstRound_47 (by decide) (fun _ => ?_) (fun c_23 => absurd (by decide) c_23)
  refine lv_iconst (v := 0) hx hb dX14_firstRound_54 (by decide) ?_
  refine va_put (D := (dC, dI)) (ci := 14) (v := .int 0) (ty := .boolean) (C := RX14) (T := TX14) (N := 136) hx hb hts hin_X14 tyX14 tyX14_ok nmX14 hown hK hP hD hS 0 rfl rfl 55 (by decide) (hts (.fieldLink RX14 568 "NeedHouseModel" "tooMuch" "Z") (List.mem_of_getElem? (i := 10) rfl)) (fun _ h9 => h9) rfl (by decide +kernel) rfl rfl (by rw [hF_19.1]; decide) dX14_firstRound_55 (fun H locs hP hD hS => ?_)
  have hP : va_P (dC, dI) vwCl [(h0, .inr (14, (fs_21.set 55 (.int 0)))), (qr, .inl (cI, 12, .inl fr)), (qf, .inl (cI, 4040, .inl ff)), (ql, .inl (cI, 4100, .inl fl)), (d1, .inl (cI, 4100, .inl fd1)), (d2, .inl (cI, 4100, .inl fd2)), (d3, .inl (cI, 4100, .inl fd3)), (q1, .inl (cI, 4100, .inl f1)), (q2, .inl (cI, 4100, .inl f2)), (q3, .inl (cI, 4100, .inl f3)), (q4, .inl (cI, 4100, .inl f4))] H := hP
  have hD : va_D A [(h0, .inr (14, (fs_21.set 55 (.int 0)))), (qr, .inl (cI, 12, .inl fr)), (qf, .inl (cI, 4040, .inl ff)), (ql, .inl (cI, 4100, .inl fl)), (d1, .inl (cI, 4100, .inl fd1)), (d2, .inl (cI, 4100, .inl fd2)), (d3, .inl (cI, 4100, .inl fd3)), (q1, .inl (cI, 4100, .inl f1)), (q2, .inl (cI, 4100, .inl f2)), (q3, .inl (cI, 4100, .inl f3)), (q4, .inl (cI, 4100, .inl f4))] := hD
  have hF_24 := hF_19.set 55 (.int 0) (l' := [(55, .int 0), (54, .int 0), (53, .int 1000000), (51, .int 0), (50, .int 0), (45, .int 0), (41, .int 0), (39, .int 0), (10, .int 1), (56, .int z9), (57, .int y1), (58, .int y2), (34, .int (-1)), (13, .int 0), (12, .ref qf), (11, .ref ql), (14, .ref qr), (42, .ref d1), (43, .ref d2), (44, .ref d3), (46, .ref q1), (47, .ref q2), (48, .ref q3), (49, .ref q4)]) (by decide) rfl
  have hE_25 := hE_20.set 55 (.int 0)
  generalize fs_21.set 55 (.int 0) = fs_26 at hP hD hF_24 hE_25
  have hP : va_P (dC, dI) vwCl [(h0, .inr (14, fs_26)), (qr, .inl (cI, 12, .inl fr)), (qf, .inl (cI, 4040, .inl ff)), (ql, .inl (cI, 4100, .inl fl)), (d1, .inl (cI, 4100, .inl fd1)), (d2, .inl (cI, 4100, .inl fd2)), (d3, .inl (cI, 4100, .inl fd3)), (q1, .inl (cI, 4100, .inl f1)), (q2, .inl (cI, 4100, .inl f2)), (q3, .inl (cI, 4100, .inl f3)), (q4, .inl (cI, 4100, .inl f4))] H := hP
  have hD : va_D A [(h0, .inr (14, fs_26)), (qr, .inl (cI, 12, .inl fr)), (qf, .inl (cI, 4040, .inl ff)), (ql, .inl (cI, 4100, .inl fl)), (d1, .inl (cI, 4100, .inl fd1)), (d2, .inl (cI, 4100, .inl fd2)), (d3, .inl (cI, 4100, .inl fd3)), (q1, .inl (cI, 4100, .inl f1)), (q2, .inl (cI, 4100, .inl f2)), (q3, .inl (cI, 4100, .inl f3)), (q4, .inl (cI, 4100, .inl f4))] := hD
  have hF_27 : hasF fs_26 136 [(55, .int 0), (54, .int 0), (53, .int 1000000), (51, .int 0), (50, .int 0), (45, .int 0), (41, .int 0), (39, .int 0), (10, .int 1), (56, .int z9), (57, .int y1), (58, .int y2), (34, .int (-1)), (13, .int (nI 0)), (12, .ref qf), (11, .ref ql), (14, .ref qr), (42, .ref d1), (43, .ref d2), (44, .ref d3), (46, .ref q1), (47, .ref q2), (48, .ref q3), (49, .ref q4)] := hF_24
  refine lv_aload_n hx hb dX14_firstRound_58 rfl (lv_at hl 0 rfl) ?_
  refine lv_aload_n hx hb dX14_firstRound_59 rfl (lv_at hl 0 rfl) ?_
  refine ax_ldcwS hx hb hown hR0 dX14_firstRound_60 ?_
  have hPc := hP.sub (ws' := [(h0, .inr (14, fs_26)), (qr, .inl (cI, 12, .inl fr)), (qf, .inl (cI, 4040, .inl ff)), (ql, .inl (cI, 4100, .inl fl))]) [0, 1, 2, 3] rfl
  have hDc := hD.sub (ws' := [(h0, .inr (14, fs_26)), (qr, .inl (cI, 12, .inl fr)), (qf, .inl (cI, 4040, .inl ff)), (ql, .inl (cI, 4100, .inl fl))]) [0, 1, 2, 3] (by decide) rfl
  have hKc := hK.sub (tys' := [(cI, .int)]) [0] rfl
  have hFc := va_free (wc := [(h0, .inr (14, fs_26)), (qr, .inl (cI, 12, .inl fr)), (qf, .inl (cI, 4040, .inl ff)), (ql, .inl (cI, 4100, .inl fl))]) hD hS hA [0, 1, 2, 3] rfl
  refine va_calli (va_runV (As := [.ref s0]) (rest := [.ref h0]) ⟨hx, hb, hml, hown, hts⟩ (c_X14_nameOf_ l dC dI H.size h0 qr qf ql cI fs_26 fr ff fl 0 s0 v0 3 b0 (hF_27.sub [13, 14, 15, 16] rfl) (by omega) (by decide) (hnm0)) (cwV 1 hts g_c_X14_firstRound_c_X14_nameOf__63 rfl rfl rfl (by decide +kernel) ⟨Nat.le_of_ble_eq_true rfl, Nat.le_of_ble_eq_true rfl⟩) ⟨fun a U g mk q => by obtain ⟨q0, q1, qP, qK, qD, hStr, hJ⟩ := q; exact ⟨q0, q1, qP, va_K.moved (u := U) (U := U.calling g mk a) (Vm.Alike.refl U.vm) qK, qD, hStr.moved (Vm.Alike.refl U.vm), hJ.moved (Vm.Alike.refl U.vm)⟩, va_recv hKc hPc (ci := 14) (q0 := 0) rfl rfl, fun U hU hW => ⟨rfl, by rw [hU], by rw [hU]; exact hPc, va_K.moved hW.alike hKc, hDc.weaken (fun _ _ _ _ => trivial), by rw [hU]; exact ((hT0.kept hS.2.1).narrow hFc).moved hW.alike, by rw [hU]; exact ((hJ.kept hS.2.1).narrow hFc).moved hW.alike⟩⟩ rfl rfl hl.1 rfl (lv_room (Nat.le_of_ble_eq_true rfl)) dX14_firstRound_63 ⟨show 0 + 0 ≤ 0 by decide, show 0 + 0 ≤ 0 by decide⟩) hS (fun q _ h => hFc q h) hFc (fun r_28 u t H1 locs ht hvm hw hB hz1 hk1 hS => ?_)
  obtain ⟨fs1_30, gs1_31, nf1_32, lt1_33, N1_34⟩ := u
  obtain ⟨hP1, hK1, hD1⟩ := hB
  rw [ht] at hP1
  have hK1 := va_K.moved hvm.symm hK1
  try dsimp only at hw hP1 hK1 hD1
  obtain ⟨hF_35, hE_36, hX_37, hX_38⟩ := hw
  obtain ⟨hP, hD⟩ := va_join (wr := [(d1, .inl (cI, 4100, .inl fd1)), (d2, .inl (cI, 4100, .inl fd2)), (d3, .inl (cI, 4100, .inl fd3)), (q1, .inl (cI, 4100, .inl f1)), (q2, .inl (cI, 4100, .inl f2)), (q3, .inl (cI, 4100, .inl f3)), (q4, .inl (cI, 4100, .inl f4))]) (w1 := [(h0, .inr (14, fs1_30)), (qr, .inl (cI, 12, .inl gs1_31)), (qf, .inl (cI, 4040, .inl nf1_32)), (ql, .inl (cI, 4100, .inl lt1_33))]) hP hD [0, 1, 2, 3] [4, 5, 6, 7, 8, 9, 10] rfl rfl (by decide) (by decide) hk1 hFc hP1 hD1
  generalize H1 = H at hP hS ⊢
  have hK := (hK.sub (tys' := []) [] rfl).app hK1
  have hK : va_K (dC, dI) vwCl [(cI, .int)] s := hK
  have hP : va_P (dC, dI) vwCl [(d1, .inl (cI, 4100, .inl fd1)), (d2, .inl (cI, 4100, .inl fd2)), (d3, .inl (cI, 4100, .inl fd3)), (q1, .inl (cI, 4100, .inl f1)), (q2, .inl (cI, 4100, .inl f2)), (q3, .inl (cI, 4100, .inl f3)), (q4, .inl (cI, 4100, .inl f4)), (h0, .inr (14, fs1_30)), (qr, .inl (cI, 12, .inl gs1_31)), (qf, .inl (cI, 4040, .inl nf1_32)), (ql, .inl (cI, 4100, .inl lt1_33))] H := hP
  have hD : va_D A [(d1, .inl (cI, 4100, .inl fd1)), (d2, .inl (cI, 4100, .inl fd2)), (d3, .inl (cI, 4100, .inl fd3)), (q1, .inl (cI, 4100, .inl f1)), (q2, .inl (cI, 4100, .inl f2)), (q3, .inl (cI, 4100, .inl f3)), (q4, .inl (cI, 4100, .inl f4)), (h0, .inr (14, fs1_30)), (qr, .inl (cI, 12, .inl gs1_31)), (qf, .inl (cI, 4040, .inl nf1_32)), (ql, .inl (cI, 4100, .inl lt1_33))] := hD
  have hF_39 := hF_27.same hE_36 (l' := [(55, .int 0), (54, .int 0), (53, .int 1000000), (51, .int 0), (50, .int 0), (45, .int 0), (41, .int 0), (39, .int 0), (10, .int 1), (56, .int z9), (57, .int y1), (58, .int y2), (34, .int (-1)), (12, .ref qf), (11, .ref ql), (14, .ref qr), (42, .ref d1), (43, .ref d2), (44, .ref d3), (46, .ref q1), (47, .ref q2), (48, .ref q3), (49, .ref q4)]) rfl
  have hF_40 := hF_35.app hF_39
  have hE_41 := hE_25.trans hE_36
  refine va_put (D := (dC, dI)) (ci := 14) (v := .int r_28) (ty := .int) (C := RX14) (T := TX14) (N := 136) hx hb hts hin_X14 tyX14 tyX14_ok nmX14 hown hK hP hD hS 7 rfl rfl 56 (by decide) (hts (.fieldLink RX14 555 "NeedHouseModel" "intName" "I") (List.mem_of_getElem? (i := 56) rfl)) (fun _ h9 => h9) rfl (by decide +kernel) rfl rfl (by rw [hF_40.1]; decide) dX14_firstRound_66 (fun H locs hP hD hS => ?_)
  have hP : va_P (dC, dI) vwCl [(d1, .inl (cI, 4100, .inl fd1)), (d2, .inl (cI, 4100, .inl fd2)), (d3, .inl (cI, 4100, .inl fd3)), (q1, .inl (cI, 4100, .inl f1)), (q2, .inl (cI, 4100, .inl f2)), (q3, .inl (cI, 4100, .inl f3)), (q4, .inl (cI, 4100, .inl f4)), (h0, .inr (14, (fs1_30.set 56 (.int r_28)))), (qr, .inl (cI, 12, .inl gs1_31)), (qf, .inl (cI, 4040, .inl nf1_32)), (ql, .inl (cI, 4100, .inl lt1_33))] H := hP
  have hD : va_D A [(d1, .inl (cI, 4100, .inl fd1)), (d2, .inl (cI, 4100, .inl fd2)), (d3, .inl (cI, 4100, .inl fd3)), (q1, .inl (cI, 4100, .inl f1)), (q2, .inl (cI, 4100, .inl f2)), (q3, .inl (cI, 4100, .inl f3)), (q4, .inl (cI, 4100, .inl f4)), (h0, .inr (14, (fs1_30.set 56 (.int r_28)))), (qr, .inl (cI, 12, .inl gs1_31)), (qf, .inl (cI, 4040, .inl nf1_32)), (ql, .inl (cI, 4100, .inl lt1_33))] := hD
  have hF_42 := hF_40.set 56 (.int r_28) (l' := [(56, .int r_28), (13, .int (nI N1_34)), (55, .int 0), (54, .int 0), (53, .int 1000000), (51, .int 0), (50, .int 0), (45, .int 0), (41, .int 0), (39, .int 0), (10, .int 1), (57, .int y1), (58, .int y2), (34, .int (-1)), (12, .ref qf), (11, .ref ql), (14, .ref qr), (42, .ref d1), (43, .ref d2), (44, .ref d3), (46, .ref q1), (47, .ref q2), (48, .ref q3), (49, .ref q4)]) (by decide) rfl
  have hE_43 := hE_41.set 56 (.int r_28)
  generalize fs1_30.set 56 (.int r_28) = fs_44 at hP hD hF_42 hE_43
  have hP : va_P (dC, dI) vwCl [(d1, .inl (cI, 4100, .inl fd1)), (d2, .inl (cI, 4100, .inl fd2)), (d3, .inl (cI, 4100, .inl fd3)), (q1, .inl (cI, 4100, .inl f1)), (q2, .inl (cI, 4100, .inl f2)), (q3, .inl (cI, 4100, .inl f3)), (q4, .inl (cI, 4100, .inl f4)), (h0, .inr (14, fs_44)), (qr, .inl (cI, 12, .inl gs1_31)), (qf, .inl (cI, 4040, .inl nf1_32)), (ql, .inl (cI, 4100, .inl lt1_33))] H := hP
  have hD : va_D A [(d1, .inl (cI, 4100, .inl fd1)), (d2, .inl (cI, 4100, .inl fd2)), (d3, .inl (cI, 4100, .inl fd3)), (q1, .inl (cI, 4100, .inl f1)), (q2, .inl (cI, 4100, .inl f2)), (q3, .inl (cI, 4100, .inl f3)), (q4, .inl (cI, 4100, .inl f4)), (h0, .inr (14, fs_44)), (qr, .inl (cI, 12, .inl gs1_31)), (qf, .inl (cI, 4040, .inl nf1_32)), (ql, .inl (cI, 4100, .inl lt1_33))] := hD
  refine lv_aload_n hx hb dX14_firstRound_69 rfl (lv_at hl 0 rfl) ?_
  refine lv_aload_n hx hb dX14_firstRound_70 rfl (lv_at hl 0 rfl) ?_
  refine ax_ldcwS hx hb hown hR1 dX14_firstRound_71 ?_
  have hPc := hP.sub (ws' := [(h0, .inr (14, fs_44)), (qr, .inl (cI, 12, .inl gs1_31)), (qf, .inl (cI, 4040, .inl nf1_32)), (ql, .inl (cI, 4100, .inl lt1_33))]) [7, 8, 9, 10] rfl
  have hDc := hD.sub (ws' := [(h0, .inr (14, fs_44)), (qr, .inl (cI, 12, .inl gs1_31)), (qf, .inl (cI, 4040, .inl nf1_32)), (ql, .inl (cI, 4100, .inl lt1_33))]) [7, 8, 9, 10] (by decide) rfl
  have hKc := hK.sub (tys' := [(cI, .int)]) [0] rfl
  have hFc := va_free (wc := [(h0, .inr (14, fs_44)), (qr, .inl (cI, 12, .inl gs1_31)), (qf, .inl (cI, 4040, .inl nf1_32)), (ql, .inl (cI, 4100, .inl lt1_33))]) hD hS hA [7, 8, 9, 10] rfl
  refine va_calli (va_runV (As := [.ref s1]) (rest := [.ref h0]) ⟨hx, hb, hml, hown, hts⟩ (c_X14_nameOf_ l dC dI H.size h0 qr qf ql cI fs_44 gs1_31 nf1_32 lt1_33 N1_34 s1 v1 3 b1 (hF_42.sub [1, 14, 15, 16] rfl) (by omega) (by decide) (hX_38)) (cwV 1 hts g_c_X14_firstRound_c_X14_nameOf__74 rfl rfl rfl (by decide +kernel) ⟨Nat.le_of_ble_eq_true rfl, Nat.le_of_ble_eq_true rfl⟩) ⟨fun a U g mk q => by obtain ⟨q0, q1, qP, qK, qD, hStr, hJ⟩ := q; exact ⟨q0, q1, qP, va_K.moved (u := U) (U := U.calling g mk a) (Vm.Alike.refl U.vm) qK, qD, hStr.moved (Vm.Alike.refl U.vm), hJ.moved (Vm.Alike.refl U.vm)⟩, va_recv hKc hPc (ci := 14) (q0 := 0) rfl rfl, fun U hU hW => ⟨rfl, by rw [hU], by rw [hU]; exact hPc, va_K.moved hW.alike hKc, hDc.weaken (fun _ _ _ _ => trivial), by rw [hU]; exact ((hT1.kept hS.2.1).narrow hFc).moved hW.alike, by rw [hU]; exact ((hJ.kept hS.2.1).narrow hFc).moved hW.alike⟩⟩ rfl rfl hl.1 rfl (lv_room (Nat.le_of_ble_eq_true rfl)) dX14_firstRound_74 ⟨show 0 + 0 ≤ 0 by decide, show 0 + 0 ≤ 0 by decide⟩) hS (fun q _ h => hFc q h) hFc (fun r_45 u t H1 locs ht hvm hw hB hz1 hk1 hS => ?_)
  obtain ⟨fs1_47, gs1_48, nf1_49, lt1_50, N1_51⟩ := u
  obtain ⟨hP1, hK1, hD1⟩ := hB
  rw [ht] at hP1
  have hK1 := va_K.moved hvm.symm hK1
  try dsimp only at hw hP1 hK1 hD1
  obtain ⟨hF_52, hE_53, hX_54, hX_55⟩ := hw
  obtain ⟨hP, hD⟩ := va_join (wr := [(d1, .inl (cI, 4100, .inl fd1)), (d2, .inl (cI, 4100, .inl fd2)), (d3, .inl (cI, 4100, .inl fd3)), (q1, .inl (cI, 4100, .inl f1)), (q2, .inl (cI, 4100, .inl f2)), (q3, .inl (cI, 4100, .inl f3)), (q4, .inl (cI, 4100, .inl f4))]) (w1 := [(h0, .inr (14, fs1_47)), (qr, .inl (cI, 12, .inl gs1_48)), (qf, .inl (cI, 4040, .inl nf1_49)), (ql, .inl (cI, 4100, .inl lt1_50))]) hP hD [7, 8, 9, 10] [0, 1, 2, 3, 4, 5, 6] rfl rfl (by decide) (by decide) hk1 hFc hP1 hD1
  generalize H1 = H at hP hS ⊢
  have hK := (hK.sub (tys' := []) [] rfl).app hK1
  have hK : va_K (dC, dI) vwCl [(cI, .int)] s := hK
  have hP : va_P (dC, dI) vwCl [(d1, .inl (cI, 4100, .inl fd1)), (d2, .inl (cI, 4100, .inl fd2)), (d3, .inl (cI, 4100, .inl fd3)), (q1, .inl (cI, 4100, .inl f1)), (q2, .inl (cI, 4100, .inl f2)), (q3, .inl (cI, 4100, .inl f3)), (q4, .inl (cI, 4100, .inl f4)), (h0, .inr (14, fs1_47)), (qr, .inl (cI, 12, .inl gs1_48)), (qf, .inl (cI, 4040, .inl nf1_49)), (ql, .inl (cI, 4100, .inl lt1_50))] H := hP
  have hD : va_D A [(d1, .inl (cI, 4100, .inl fd1)), (d2, .inl (cI, 4100, .inl fd2)), (d3, .inl (cI, 4100, .inl fd3)), (q1, .inl (cI, 4100, .inl f1)), (q2, .inl (cI, 4100, .inl f2)), (q3, .inl (cI, 4100, .inl f3)), (q4, .inl (cI, 4100, .inl f4)), (h0, .inr (14, fs1_47)), (qr, .inl (cI, 12, .inl gs1_48)), (qf, .inl (cI, 4040, .inl nf1_49)), (ql, .inl (cI, 4100, .inl lt1_50))] := hD
  have hF_56 := hF_42.same hE_53 (l' := [(56, .int r_28), (55, .int 0), (54, .int 0), (53, .int 1000000), (51, .int 0), (50, .int 0), (45, .int 0), (41, .int 0), (39, .int 0), (10, .int 1), (57, .int y1), (58, .int y2), (34, .int (-1)), (12, .ref qf), (11, .ref ql), (14, .ref qr), (42, .ref d1), (43, .ref d2), (44, .ref d3), (46, .ref q1), (47, .ref q2), (48, .ref q3), (49, .ref q4)]) rfl
  have hF_57 := hF_52.app hF_56
  have hE_58 := hE_43.trans hE_53
  refine va_put (D := (dC, dI)) (ci := 14) (v := .int r_45) (ty := .int) (C := RX14) (T := TX14) (N := 136) hx hb hts hin_X14 tyX14 tyX14_ok nmX14 hown hK hP hD hS 7 rfl rfl 57 (by decide) (hts (.fieldLink RX14 561 "NeedHouseModel" "sayName" "I") (List.mem_of_getElem? (i := 57) rfl)) (fun _ h9 => h9) rfl (by decide +kernel) rfl rfl (by rw [hF_57.1]; decide) dX14_firstRound_77 (fun H locs hP hD hS => ?_)
  have hP : va_P (dC, dI) vwCl [(d1, .inl (cI, 4100, .inl fd1)), (d2, .inl (cI, 4100, .inl fd2)), (d3, .inl (cI, 4100, .inl fd3)), (q1, .inl (cI, 4100, .inl f1)), (q2, .inl (cI, 4100, .inl f2)), (q3, .inl (cI, 4100, .inl f3)), (q4, .inl (cI, 4100, .inl f4)), (h0, .inr (14, (fs1_47.set 57 (.int r_45)))), (qr, .inl (cI, 12, .inl gs1_48)), (qf, .inl (cI, 4040, .inl nf1_49)), (ql, .inl (cI, 4100, .inl lt1_50))] H := hP
  have hD : va_D A [(d1, .inl (cI, 4100, .inl fd1)), (d2, .inl (cI, 4100, .inl fd2)), (d3, .inl (cI, 4100, .inl fd3)), (q1, .inl (cI, 4100, .inl f1)), (q2, .inl (cI, 4100, .inl f2)), (q3, .inl (cI, 4100, .inl f3)), (q4, .inl (cI, 4100, .inl f4)), (h0, .inr (14, (fs1_47.set 57 (.int r_45)))), (qr, .inl (cI, 12, .inl gs1_48)), (qf, .inl (cI, 4040, .inl nf1_49)), (ql, .inl (cI, 4100, .inl lt1_50))] := hD
  have hF_59 := hF_57.set 57 (.int r_45) (l' := [(57, .int r_45), (13, .int (nI N1_51)), (56, .int r_28), (55, .int 0), (54, .int 0), (53, .int 1000000), (51, .int 0), (50, .int 0), (45, .int 0), (41, .int 0), (39, .int 0), (10, .int 1), (58, .int y2), (34, .int (-1)), (12, .ref qf), (11, .ref ql), (14, .ref qr), (42, .ref d1), (43, .ref d2), (44, .ref d3), (46, .ref q1), (47, .ref q2), (48, .ref q3), (49, .ref q4)]) (by decide) rfl
  have hE_60 := hE_58.set 57 (.int r_45)
  generalize fs1_47.set 57 (.int r_45) = fs_61 at hP hD hF_59 hE_60
  have hP : va_P (dC, dI) vwCl [(d1, .inl (cI, 4100, .inl fd1)), (d2, .inl (cI, 4100, .inl fd2)), (d3, .inl (cI, 4100, .inl fd3)), (q1, .inl (cI, 4100, .inl f1)), (q2, .inl (cI, 4100, .inl f2)), (q3, .inl (cI, 4100, .inl f3)), (q4, .inl (cI, 4100, .inl f4)), (h0, .inr (14, fs_61)), (qr, .inl (cI, 12, .inl gs1_48)), (qf, .inl (cI, 4040, .inl nf1_49)), (ql, .inl (cI, 4100, .inl lt1_50))] H := hP
  have hD : va_D A [(d1, .inl (cI, 4100, .inl fd1)), (d2, .inl (cI, 4100, .inl fd2)), (d3, .inl (cI, 4100, .inl fd3)), (q1, .inl (cI, 4100, .inl f1)), (q2, .inl (cI, 4100, .inl f2)), (q3, .inl (cI, 4100, .inl f3)), (q4, .inl (cI, 4100, .inl f4)), (h0, .inr (14, fs_61)), (qr, .inl (cI, 12, .inl gs1_48)), (qf, .inl (cI, 4040, .inl nf1_49)), (ql, .inl (cI, 4100, .inl lt1_50))] := hD
  refine lv_aload_n hx hb dX14_firstRound_80 rfl (lv_at hl 0 rfl) ?_
  refine lv_aload_n hx hb dX14_firstRound_81 rfl (lv_at hl 0 rfl) ?_
  refine ax_ldcwS hx hb hown hR2 dX14_firstRound_82 ?_
  have hPc := hP.sub (ws' := [(h0, .inr (14, fs_61)), (qr, .inl (cI, 12, .inl gs1_48)), (qf, .inl (cI, 4040, .inl nf1_49)), (ql, .inl (cI, 4100, .inl lt1_50))]) [7, 8, 9, 10] rfl
  have hDc := hD.sub (ws' := [(h0, .inr (14, fs_61)), (qr, .inl (cI, 12, .inl gs1_48)), (qf, .inl (cI, 4040, .inl nf1_49)), (ql, .inl (cI, 4100, .inl lt1_50))]) [7, 8, 9, 10] (by decide) rfl
  have hKc := hK.sub (tys' := [(cI, .int)]) [0] rfl
  have hFc := va_free (wc := [(h0, .inr (14, fs_61)), (qr, .inl (cI, 12, .inl gs1_48)), (qf, .inl (cI, 4040, .inl nf1_49)), (ql, .inl (cI, 4100, .inl lt1_50))]) hD hS hA [7, 8, 9, 10] rfl
  refine va_calli (va_runV (As := [.ref s2]) (rest := [.ref h0]) ⟨hx, hb, hml, hown, hts⟩ (c_X14_nameOf_ l dC dI H.size h0 qr qf ql cI fs_61 gs1_48 nf1_49 lt1_50 N1_51 s2 v2 4 b2 (hF_59.sub [1, 14, 15, 16] rfl) (by omega) (by decide) (hX_55)) (cwV 1 hts g_c_X14_firstRound_c_X14_nameOf__85 rfl rfl rfl (by decide +kernel) ⟨Nat.le_of_ble_eq_true rfl, Nat.le_of_ble_eq_true rfl⟩) ⟨fun a U g mk q => by obtain ⟨q0, q1, qP, qK, qD, hStr, hJ⟩ := q; exact ⟨q0, q1, qP, va_K.moved (u := U) (U := U.calling g mk a) (Vm.Alike.refl U.vm) qK, qD, hStr.moved (Vm.Alike.refl U.vm), hJ.moved (Vm.Alike.refl U.vm)⟩, va_recv hKc hPc (ci := 14) (q0 := 0) rfl rfl, fun U hU hW => ⟨rfl, by rw [hU], by rw [hU]; exact hPc, va_K.moved hW.alike hKc, hDc.weaken (fun _ _ _ _ => trivial), by rw [hU]; exact ((hT2.kept hS.2.1).narrow hFc).moved hW.alike, by rw [hU]; exact ((hJ.kept hS.2.1).narrow hFc).moved hW.alike⟩⟩ rfl rfl hl.1 rfl (lv_room (Nat.le_of_ble_eq_true rfl)) dX14_firstRound_85 ⟨show 0 + 0 ≤ 0 by decide, show 0 + 0 ≤ 0 by decide⟩) hS (fun q _ h => hFc q h) hFc (fun r_62 u t H1 locs ht hvm hw hB hz1 hk1 hS => ?_)
  obtain ⟨fs1_64, gs1_65, nf1_66, lt1_67, N1_68⟩ := u
  obtain ⟨hP1, hK1, hD1⟩ := hB
  rw [ht] at hP1
  have hK1 := va_K.moved hvm.symm hK1
  try dsimp only at hw hP1 hK1 hD1
  obtain ⟨hF_69, hE_70, hX_71, hX_72⟩ := hw
  obtain ⟨hP, hD⟩ := va_join (wr := [(d1, .inl (cI, 4100, .inl fd1)), (d2, .inl (cI, 4100, .inl fd2)), (d3, .inl (cI, 4100, .inl fd3)), (q1, .inl (cI, 4100, .inl f1)), (q2, .inl (cI, 4100, .inl f2)), (q3, .inl (cI, 4100, .inl f3)), (q4, .inl (cI, 4100, .inl f4))]) (w1 := [(h0, .inr (14, fs1_64)), (qr, .inl (cI, 12, .inl gs1_65)), (qf, .inl (cI, 4040, .inl nf1_66)), (ql, .inl (cI, 4100, .inl lt1_67))]) hP hD [7, 8, 9, 10] [0, 1, 2, 3, 4, 5, 6] rfl rfl (by decide) (by decide) hk1 hFc hP1 hD1
  generalize H1 = H at hP hS ⊢
  have hK := (hK.sub (tys' := []) [] rfl).app hK1
  have hK : va_K (dC, dI) vwCl [(cI, .int)] s := hK
  have hP : va_P (dC, dI) vwCl [(d1, .inl (cI, 4100, .inl fd1)), (d2, .inl (cI, 4100, .inl fd2)), (d3, .inl (cI, 4100, .inl fd3)), (q1, .inl (cI, 4100, .inl f1)), (q2, .inl (cI, 4100, .inl f2)), (q3, .inl (cI, 4100, .inl f3)), (q4, .inl (cI, 4100, .inl f4)), (h0, .inr (14, fs1_64)), (qr, .inl (cI, 12, .inl gs1_65)), (qf, .inl (cI, 4040, .inl nf1_66)), (ql, .inl (cI, 4100, .inl lt1_67))] H := hP
  have hD : va_D A [(d1, .inl (cI, 4100, .inl fd1)), (d2, .inl (cI, 4100, .inl fd2)), (d3, .inl (cI, 4100, .inl fd3)), (q1, .inl (cI, 4100, .inl f1)), (q2, .inl (cI, 4100, .inl f2)), (q3, .inl (cI, 4100, .inl f3)), (q4, .inl (cI, 4100, .inl f4)), (h0, .inr (14, fs1_64)), (qr, .inl (cI, 12, .inl gs1_65)), (qf, .inl (cI, 4040, .inl nf1_66)), (ql, .inl (cI, 4100, .inl lt1_67))] := hD
  have hF_73 := hF_59.same hE_70 (l' := [(57, .int r_45), (56, .int r_28), (55, .int 0), (54, .int 0), (53, .int 1000000), (51, .int 0), (50, .int 0), (45, .int 0), (41, .int 0), (39, .int 0), (10, .int 1), (58, .int y2), (34, .int (-1)), (12, .ref qf), (11, .ref ql), (14, .ref qr), (42, .ref d1), (43, .ref d2), (44, .ref d3), (46, .ref q1), (47, .ref q2), (48, .ref q3), (49, .ref q4)]) rfl
  have hF_74 := hF_69.app hF_73
  have hE_75 := hE_60.trans hE_70
  refine va_put (D := (dC, dI)) (ci := 14) (v := .int r_62) (ty := .int) (C := RX14) (T := TX14) (N := 136) hx hb hts hin_X14 tyX14 tyX14_ok nmX14 hown hK hP hD hS 7 rfl rfl 58 (by decide) (hts (.fieldLink RX14 584 "NeedHouseModel" "mainName" "I") (List.mem_of_getElem? (i := 58) rfl)) (fun _ h9 => h9) rfl (by decide +kernel) rfl rfl (by rw [hF_74.1]; decide) dX14_firstRound_88 (fun H locs hP hD hS => ?_)
  have hP : va_P (dC, dI) vwCl [(d1, .inl (cI, 4100, .inl fd1)), (d2, .inl (cI, 4100, .inl fd2)), (d3, .inl (cI, 4100, .inl fd3)), (q1, .inl (cI, 4100, .inl f1)), (q2, .inl (cI, 4100, .inl f2)), (q3, .inl (cI, 4100, .inl f3)), (q4, .inl (cI, 4100, .inl f4)), (h0, .inr (14, (fs1_64.set 58 (.int r_62)))), (qr, .inl (cI, 12, .inl gs1_65)), (qf, .inl (cI, 4040, .inl nf1_66)), (ql, .inl (cI, 4100, .inl lt1_67))] H := hP
  have hD : va_D A [(d1, .inl (cI, 4100, .inl fd1)), (d2, .inl (cI, 4100, .inl fd2)), (d3, .inl (cI, 4100, .inl fd3)), (q1, .inl (cI, 4100, .inl f1)), (q2, .inl (cI, 4100, .inl f2)), (q3, .inl (cI, 4100, .inl f3)), (q4, .inl (cI, 4100, .inl f4)), (h0, .inr (14, (fs1_64.set 58 (.int r_62)))), (qr, .inl (cI, 12, .inl gs1_65)), (qf, .inl (cI, 4040, .inl nf1_66)), (ql, .inl (cI, 4100, .inl lt1_67))] := hD
  have hF_76 := hF_74.set 58 (.int r_62) (l' := [(58, .int r_62), (13, .int (nI N1_68)), (57, .int r_45), (56, .int r_28), (55, .int 0), (54, .int 0), (53, .int 1000000), (51, .int 0), (50, .int 0), (45, .int 0), (41, .int 0), (39, .int 0), (10, .int 1), (34, .int (-1)), (12, .ref qf), (11, .ref ql), (14, .ref qr), (42, .ref d1), (43, .ref d2), (44, .ref d3), (46, .ref q1), (47, .ref q2), (48, .ref q3), (49, .ref q4)]) (by decide) rfl
  have hE_77 := hE_75.set 58 (.int r_62)
  generalize fs1_64.set 58 (.int r_62) = fs_78 at hP hD hF_76 hE_77
  have hP : va_P (dC, dI) vwCl [(d1, .inl (cI, 4100, .inl fd1)), (d2, .inl (cI, 4100, .inl fd2)), (d3, .inl (cI, 4100, .inl fd3)), (q1, .inl (cI, 4100, .inl f1)), (q2, .inl (cI, 4100, .inl f2)), (q3, .inl (cI, 4100, .inl f3)), (q4, .inl (cI, 4100, .inl f4)), (h0, .inr (14, fs_78)), (qr, .inl (cI, 12, .inl gs1_65)), (qf, .inl (cI, 4040, .inl nf1_66)), (ql, .inl (cI, 4100, .inl lt1_67))] H := hP
  have hD : va_D A [(d1, .inl (cI, 4100, .inl fd1)), (d2, .inl (cI, 4100, .inl fd2)), (d3, .inl (cI, 4100, .inl fd3)), (q1, .inl (cI, 4100, .inl f1)), (q2, .inl (cI, 4100, .inl f2)), (q3, .inl (cI, 4100, .inl f3)), (q4, .inl (cI, 4100, .inl f4)), (h0, .inr (14, fs_78)), (qr, .inl (cI, 12, .inl gs1_65)), (qf, .inl (cI, 4040, .inl nf1_66)), (ql, .inl (cI, 4100, .inl lt1_67))] := hD
  refine lv_aload_n hx hb dX14_firstRound_91 rfl (lv_at hl 0 rfl) ?_
  refine va_get (D := (dC, dI)) (ci := 14) (v := .ref d1) (C := RX14) (T := TX14) (N := 136) hx hb hts hin_X14 hown hK hP 7 rfl rfl 42 (by decide) (hts (.fieldLink RX14 158 "NeedHouseModel" "dName" "[I") (List.mem_of_getElem? (i := 59) rfl)) (fun _ h9 => h9) (hF_76.at 17 rfl) dX14_firstRound_92 ?_
  refine lv_iconst (v := 0) hx hb dX14_firstRound_95 (by decide) ?_
  refine lv_aload_n hx hb dX14_firstRound_96 rfl (lv_at hl 0 rfl) ?_
  refine ax_ldcwS hx hb hown hR3 dX14_firstRound_97 ?_
  have hPc := hP.sub (ws' := [(h0, .inr (14, fs_78)), (qr, .inl (cI, 12, .inl gs1_65)), (qf, .inl (cI, 4040, .inl nf1_66)), (ql, .inl (cI, 4100, .inl lt1_67))]) [7, 8, 9, 10] rfl
  have hDc := hD.sub (ws' := [(h0, .inr (14, fs_78)), (qr, .inl (cI, 12, .inl gs1_65)), (qf, .inl (cI, 4040, .inl nf1_66)), (ql, .inl (cI, 4100, .inl lt1_67))]) [7, 8, 9, 10] (by decide) rfl
  have hKc := hK.sub (tys' := [(cI, .int)]) [0] rfl
  have hFc := va_free (wc := [(h0, .inr (14, fs_78)), (qr, .inl (cI, 12, .inl gs1_65)), (qf, .inl (cI, 4040, .inl nf1_66)), (ql, .inl (cI, 4100, .inl lt1_67))]) hD hS hA [7, 8, 9, 10] rfl
  refine va_calli (va_runV (As := [.ref s3]) (rest := [.int 0, .ref d1]) ⟨hx, hb, hml, hown, hts⟩ (c_X14_nameOf_ l dC dI H.size h0 qr qf ql cI fs_78 gs1_65 nf1_66 lt1_67 N1_68 s3 v3 4 b3 (hF_76.sub [1, 14, 15, 16] rfl) (by omega) (by decide) (hX_72)) (cwV 1 hts g_c_X14_firstRound_c_X14_nameOf__100 rfl rfl rfl (by decide +kernel) ⟨Nat.le_of_ble_eq_true rfl, Nat.le_of_ble_eq_true rfl⟩) ⟨fun a U g mk q => by obtain ⟨q0, q1, qP, qK, qD, hStr, hJ⟩ := q; exact ⟨q0, q1, qP, va_K.moved (u := U) (U := U.calling g mk a) (Vm.Alike.refl U.vm) qK, qD, hStr.moved (Vm.Alike.refl U.vm), hJ.moved (Vm.Alike.refl U.vm)⟩, va_recv hKc hPc (ci := 14) (q0 := 0) rfl rfl, fun U hU hW => ⟨rfl, by rw [hU], by rw [hU]; exact hPc, va_K.moved hW.alike hKc, hDc.weaken (fun _ _ _ _ => trivial), by rw [hU]; exact ((hT3.kept hS.2.1).narrow hFc).moved hW.alike, by rw [hU]; exact ((hJ.kept hS.2.1).narrow hFc).moved hW.alike⟩⟩ rfl rfl hl.1 rfl (lv_room (Nat.le_of_ble_eq_true rfl)) dX14_firstRound_100 ⟨show 0 + 0 ≤ 0 by decide, show 0 + 0 ≤ 0 by decide⟩) hS (fun q _ h => hFc q h) hFc (fun r_79 u t H1 locs ht hvm hw hB hz1 hk1 hS => ?_)
  obtain ⟨fs1_81, gs1_82, nf1_83, lt1_84, N1_85⟩ := u
  obtain ⟨hP1, hK1, hD1⟩ := hB
  rw [ht] at hP1
  have hK1 := va_K.moved hvm.symm hK1
  try dsimp only at hw hP1 hK1 hD1
  obtain ⟨hF_86, hE_87, hX_88, hX_89⟩ := hw
  obtain ⟨hP, hD⟩ := va_join (wr := [(d1, .inl (cI, 4100, .inl fd1)), (d2, .inl (cI, 4100, .inl fd2)), (d3, .inl (cI, 4100, .inl fd3)), (q1, .inl (cI, 4100, .inl f1)), (q2, .inl (cI, 4100, .inl f2)), (q3, .inl (cI, 4100, .inl f3)), (q4, .inl (cI, 4100, .inl f4))]) (w1 := [(h0, .inr (14, fs1_81)), (qr, .inl (cI, 12, .inl gs1_82)), (qf, .inl (cI, 4040, .inl nf1_83)), (ql, .inl (cI, 4100, .inl lt1_84))]) hP hD [7, 8, 9, 10] [0, 1, 2, 3, 4, 5, 6] rfl rfl (by decide) (by decide) hk1 hFc hP1 hD1
  generalize H1 = H at hP hS ⊢
  have hK := (hK.sub (tys' := []) [] rfl).app hK1
  have hK : va_K (dC, dI) vwCl [(cI, .int)] s := hK
  have hP : va_P (dC, dI) vwCl [(d1, .inl (cI, 4100, .inl fd1)), (d2, .inl (cI, 4100, .inl fd2)), (d3, .inl (cI, 4100, .inl fd3)), (q1, .inl (cI, 4100, .inl f1)), (q2, .inl (cI, 4100, .inl f2)), (q3, .inl (cI, 4100, .inl f3)), (q4, .inl (cI, 4100, .inl f4)), (h0, .inr (14, fs1_81)), (qr, .inl (cI, 12, .inl gs1_82)), (qf, .inl (cI, 4040, .inl nf1_83)), (ql, .inl (cI, 4100, .inl lt1_84))] H := hP
  have hD : va_D A [(d1, .inl (cI, 4100, .inl fd1)), (d2, .inl (cI, 4100, .inl fd2)), (d3, .inl (cI, 4100, .inl fd3)), (q1, .inl (cI, 4100, .inl f1)), (q2, .inl (cI, 4100, .inl f2)), (q3, .inl (cI, 4100, .inl f3)), (q4, .inl (cI, 4100, .inl f4)), (h0, .inr (14, fs1_81)), (qr, .inl (cI, 12, .inl gs1_82)), (qf, .inl (cI, 4040, .inl nf1_83)), (ql, .inl (cI, 4100, .inl lt1_84))] := hD
  have hF_90 := hF_76.same hE_87 (l' := [(58, .int r_62), (57, .int r_45), (56, .int r_28), (55, .int 0), (54, .int 0), (53, .int 1000000), (51, .int 0), (50, .int 0), (45, .int 0), (41, .int 0), (39, .int 0), (10, .int 1), (34, .int (-1)), (12, .ref qf), (11, .ref ql), (14, .ref qr), (42, .ref d1), (43, .ref d2), (44, .ref d3), (46, .ref q1), (47, .ref q2), (48, .ref q3), (49, .ref q4)]) rfl
  have hF_91 := hF_86.app hF_90
  have hE_92 := hE_77.trans hE_87
  refine va_iast hx hb hK hP hD hS 0 0 rfl rfl (show vp_in (nI 0) 4100 from vp_in_nI (by decide) (by decide)) dX14_firstRound_103 (fun H locs hP hD hS => ?_)
  have hP : va_P (dC, dI) vwCl [(d1, .inl (cI, 4100, .inl (upd fd1 (0 : Int32).toNatClampNeg r_79))), (d2, .inl (cI, 4100, .inl fd2)), (d3, .inl (cI, 4100, .inl fd3)), (q1, .inl (cI, 4100, .inl f1)), (q2, .inl (cI, 4100, .inl f2)), (q3, .inl (cI, 4100, .inl f3)), (q4, .inl (cI, 4100, .inl f4)), (h0, .inr (14, fs1_81)), (qr, .inl (cI, 12, .inl gs1_82)), (qf, .inl (cI, 4040, .inl nf1_83)), (ql, .inl (cI, 4100, .inl lt1_84))] H := hP
  have hD : va_D A [(d1, .inl (cI, 4100, .inl (upd fd1 (0 : Int32).toNatClampNeg r_79))), (d2, .inl (cI, 4100, .inl fd2)), (d3, .inl (cI, 4100, .inl fd3)), (q1, .inl (cI, 4100, .inl f1)), (q2, .inl (cI, 4100, .inl f2)), (q3, .inl (cI, 4100, .inl f3)), (q4, .inl (cI, 4100, .inl f4)), (h0, .inr (14, fs1_81)), (qr, .inl (cI, 12, .inl gs1_82)), (qf, .inl (cI, 4040, .inl nf1_83)), (ql, .inl (cI, 4100, .inl lt1_84))] := hD
  have hk_94 : (upd fd1 (0 : Int32).toNatClampNeg r_79) 0 = r_79 := by rw [show (0 : Int32).toNatClampNeg = 0 from by decide]; exact pk_us
  generalize upd fd1 (0 : Int32).toNatClampNeg r_79 = f_93 at hP hD hk_94
  have hP : va_P (dC, dI) vwCl [(d1, .inl (cI, 4100, .inl f_93)), (d2, .inl (cI, 4100, .inl fd2)), (d3, .inl (cI, 4100, .inl fd3)), (q1, .inl (cI, 4100, .inl f1)), (q2, .inl (cI, 4100, .inl f2)), (q3, .inl (cI, 4100, .inl f3)), (q4, .inl (cI, 4100, .inl f4)), (h0, .inr (14, fs1_81)), (qr, .inl (cI, 12, .inl gs1_82)), (qf, .inl (cI, 4040, .inl nf1_83)), (ql, .inl (cI, 4100, .inl lt1_84))] H := hP
  have hD : va_D A [(d1, .inl (cI, 4100, .inl f_93)), (d2, .inl (cI, 4100, .inl fd2)), (d3, .inl (cI, 4100, .inl fd3)), (q1, .inl (cI, 4100, .inl f1)), (q2, .inl (cI, 4100, .inl f2)), (q3, .inl (cI, 4100, .inl f3)), (q4, .inl (cI, 4100, .inl f4)), (h0, .inr (14, fs1_81)), (qr, .inl (cI, 12, .inl gs1_82)), (qf, .inl (cI, 4040, .inl nf1_83)), (ql, .inl (cI, 4100, .inl lt1_84))] := hD
  refine lv_aload_n hx hb dX14_firstRound_104 rfl (lv_at hl 0 rfl) ?_
  refine va_get (D := (dC, dI)) (ci := 14) (v := .ref d1) (C := RX14) (T := TX14) (N := 136) hx hb hts hin_X14 hown hK hP 7 rfl rfl 42 (by decide) (hts (.fieldLink RX14 158 "NeedHouseModel" "dName" "[I") (List.mem_of_getElem? (i := 59) rfl)) (fun _ h9 => h9) (hF_91.at 17 rfl) dX14_firstRound_105 ?_
  refine lv_iconst (v := 1) hx hb dX14_firstRound_108 (by decide) ?_
  refine lv_iconst (v := (-1)) hx hb dX14_firstRound_109 (by decide) ?_
  refine va_iast hx hb hK hP hD hS 0 0 rfl rfl (show vp_in (nI 1) 4100 from vp_in_nI (by decide) (by decide)) dX14_firstRound_110 (fun H locs hP hD hS => ?_)
  have hP : va_P (dC, dI) vwCl [(d1, .inl (cI, 4100, .inl (upd f_93 (1 : Int32).toNatClampNeg (-1)))), (d2, .inl (cI, 4100, .inl fd2)), (d3, .inl (cI, 4100, .inl fd3)), (q1, .inl (cI, 4100, .inl f1)), (q2, .inl (cI, 4100, .inl f2)), (q3, .inl (cI, 4100, .inl f3)), (q4, .inl (cI, 4100, .inl f4)), (h0, .inr (14, fs1_81)), (qr, .inl (cI, 12, .inl gs1_82)), (qf, .inl (cI, 4040, .inl nf1_83)), (ql, .inl (cI, 4100, .inl lt1_84))] H := hP
  have hD : va_D A [(d1, .inl (cI, 4100, .inl (upd f_93 (1 : Int32).toNatClampNeg (-1)))), (d2, .inl (cI, 4100, .inl fd2)), (d3, .inl (cI, 4100, .inl fd3)), (q1, .inl (cI, 4100, .inl f1)), (q2, .inl (cI, 4100, .inl f2)), (q3, .inl (cI, 4100, .inl f3)), (q4, .inl (cI, 4100, .inl f4)), (h0, .inr (14, fs1_81)), (qr, .inl (cI, 12, .inl gs1_82)), (qf, .inl (cI, 4040, .inl nf1_83)), (ql, .inl (cI, 4100, .inl lt1_84))] := hD
  have hk_96 : (upd f_93 (1 : Int32).toNatClampNeg (-1)) 1 = (-1) := by rw [show (1 : Int32).toNatClampNeg = 1 from by decide]; exact pk_us
  have hk_97 : (upd f_93 (1 : Int32).toNatClampNeg (-1)) 0 = r_79 := by rw [show (1 : Int32).toNatClampNeg = 1 from by decide, pk_un (by decide)]; exact hk_94
  generalize upd f_93 (1 : Int32).toNatClampNeg (-1) = f_95 at hP hD hk_96 hk_97
  have hP : va_P (dC, dI) vwCl [(d1, .inl (cI, 4100, .inl f_95)), (d2, .inl (cI, 4100, .inl fd2)), (d3, .inl (cI, 4100, .inl fd3)), (q1, .inl (cI, 4100, .inl f1)), (q2, .inl (cI, 4100, .inl f2)), (q3, .inl (cI, 4100, .inl f3)), (q4, .inl (cI, 4100, .inl f4)), (h0, .inr (14, fs1_81)), (qr, .inl (cI, 12, .inl gs1_82)), (qf, .inl (cI, 4040, .inl nf1_83)), (ql, .inl (cI, 4100, .inl lt1_84))] H := hP
  have hD : va_D A [(d1, .inl (cI, 4100, .inl f_95)), (d2, .inl (cI, 4100, .inl fd2)), (d3, .inl (cI, 4100, .inl fd3)), (q1, .inl (cI, 4100, .inl f1)), (q2, .inl (cI, 4100, .inl f2)), (q3, .inl (cI, 4100, .inl f3)), (q4, .inl (cI, 4100, .inl f4)), (h0, .inr (14, fs1_81)), (qr, .inl (cI, 12, .inl gs1_82)), (qf, .inl (cI, 4040, .inl nf1_83)), (ql, .inl (cI, 4100, .inl lt1_84))] := hD
  refine lv_aload_n hx hb dX14_firstRound_111 rfl (lv_at hl 0 rfl) ?_
  refine va_get (D := (dC, dI)) (ci := 14) (v := .ref d1) (C := RX14) (T := TX14) (N := 136) hx hb hts hin_X14 hown hK hP 7 rfl rfl 42 (by decide) (hts (.fieldLink RX14 158 "NeedHouseModel" "dName" "[I") (List.mem_of_getElem? (i := 59) rfl)) (fun _ h9 => h9) (hF_91.at 17 rfl) dX14_firstRound_112 ?_
  refine lv_iconst (v := 2) hx hb dX14_firstRound_115 (by decide) ?_
  refine lv_iconst (v := (-1)) hx hb dX14_firstRound_116 (by decide) ?_
  refine va_iast hx hb hK hP hD hS 0 0 rfl rfl (show vp_in (nI 2) 4100 from vp_in_nI (by decide) (by decide)) dX14_firstRound_117 (fun H locs hP hD hS => ?_)
  have hP : va_P (dC, dI) vwCl [(d1, .inl (cI, 4100, .inl (upd f_95 (2 : Int32).toNatClampNeg (-1)))), (d2, .inl (cI, 4100, .inl fd2)), (d3, .inl (cI, 4100, .inl fd3)), (q1, .inl (cI, 4100, .inl f1)), (q2, .inl (cI, 4100, .inl f2)), (q3, .inl (cI, 4100, .inl f3)), (q4, .inl (cI, 4100, .inl f4)), (h0, .inr (14, fs1_81)), (qr, .inl (cI, 12, .inl gs1_82)), (qf, .inl (cI, 4040, .inl nf1_83)), (ql, .inl (cI, 4100, .inl lt1_84))] H := hP
  have hD : va_D A [(d1, .inl (cI, 4100, .inl (upd f_95 (2 : Int32).toNatClampNeg (-1)))), (d2, .inl (cI, 4100, .inl fd2)), (d3, .inl (cI, 4100, .inl fd3)), (q1, .inl (cI, 4100, .inl f1)), (q2, .inl (cI, 4100, .inl f2)), (q3, .inl (cI, 4100, .inl f3)), (q4, .inl (cI, 4100, .inl f4)), (h0, .inr (14, fs1_81)), (qr, .inl (cI, 12, .inl gs1_82)), (qf, .inl (cI, 4040, .inl nf1_83)), (ql, .inl (cI, 4100, .inl lt1_84))] := hD
  have hk_99 : (upd f_95 (2 : Int32).toNatClampNeg (-1)) 2 = (-1) := by rw [show (2 : Int32).toNatClampNeg = 2 from by decide]; exact pk_us
  have hk_100 : (upd f_95 (2 : Int32).toNatClampNeg (-1)) 1 = (-1) := by rw [show (2 : Int32).toNatClampNeg = 2 from by decide, pk_un (by decide)]; exact hk_96
  have hk_101 : (upd f_95 (2 : Int32).toNatClampNeg (-1)) 0 = r_79 := by rw [show (2 : Int32).toNatClampNeg = 2 from by decide, pk_un (by decide)]; exact hk_97
  generalize upd f_95 (2 : Int32).toNatClampNeg (-1) = f_98 at hP hD hk_99 hk_100 hk_101
  have hP : va_P (dC, dI) vwCl [(d1, .inl (cI, 4100, .inl f_98)), (d2, .inl (cI, 4100, .inl fd2)), (d3, .inl (cI, 4100, .inl fd3)), (q1, .inl (cI, 4100, .inl f1)), (q2, .inl (cI, 4100, .inl f2)), (q3, .inl (cI, 4100, .inl f3)), (q4, .inl (cI, 4100, .inl f4)), (h0, .inr (14, fs1_81)), (qr, .inl (cI, 12, .inl gs1_82)), (qf, .inl (cI, 4040, .inl nf1_83)), (ql, .inl (cI, 4100, .inl lt1_84))] H := hP
  have hD : va_D A [(d1, .inl (cI, 4100, .inl f_98)), (d2, .inl (cI, 4100, .inl fd2)), (d3, .inl (cI, 4100, .inl fd3)), (q1, .inl (cI, 4100, .inl f1)), (q2, .inl (cI, 4100, .inl f2)), (q3, .inl (cI, 4100, .inl f3)), (q4, .inl (cI, 4100, .inl f4)), (h0, .inr (14, fs1_81)), (qr, .inl (cI, 12, .inl gs1_82)), (qf, .inl (cI, 4040, .inl nf1_83)), (ql, .inl (cI, 4100, .inl lt1_84))] := hD
  refine lv_iconst (v := 0) hx hb dX14_firstRound_118 (by decide) ?_
  refine lv_istore_n (lv' := [(1, .int 0), (0, .ref h0)]) hx hb dX14_firstRound_119 rfl hl (by decide) rfl (fun ls hl => ?_)
  refine lv_iload_n hx hb dX14_firstRound_120 rfl (lv_at hl 0 rfl) ?_
  refine lv_iconst (v := 3) hx hb dX14_firstRound_121 (by decide) ?_
  refine lv_icmp_ge (tgt := 145) hx hb dX14_firstRound_122 (by decide) (fun c_102 => absurd c_102 (by decide)) (fun _ => ?_)
  refine lv_aload_n hx hb dX14_firstRound_125 rfl (lv_at hl 1 rfl) ?_
  refine va_get (D := (dC, dI)) (ci := 14) (v := .ref d2) (C := RX14) (T := TX14) (N := 136) hx hb hts hin_X14 hown hK hP 7 rfl rfl 43 (by decide) (hts (.fieldLink RX14 161 "NeedHouseModel" "dNode" "[I") (List.mem_of_getElem? (i := 60) rfl)) (fun _ h9 => h9) (hF_91.at 18 rfl) dX14_firstRound_126 ?_
  refine lv_iload_n hx hb dX14_firstRound_129 rfl (lv_at hl 0 rfl) ?_
  refine lv_iconst (v := (-1)) hx hb dX14_firstRound_130 (by decide) ?_
  refine va_iast hx hb hK hP hD hS 1 0 rfl rfl (show vp_in (nI 0) 4100 from vp_in_nI (by decide) (by decide)) dX14_firstRound_131 (fun H locs hP hD hS => ?_)
  have hP : va_P (dC, dI) vwCl [(d1, .inl (cI, 4100, .inl f_98)), (d2, .inl (cI, 4100, .inl (upd fd2 (0 : Int32).toNatClampNeg (-1)))), (d3, .inl (cI, 4100, .inl fd3)), (q1, .inl (cI, 4100, .inl f1)), (q2, .inl (cI, 4100, .inl f2)), (q3, .inl (cI, 4100, .inl f3)), (q4, .inl (cI, 4100, .inl f4)), (h0, .inr (14, fs1_81)), (qr, .inl (cI, 12, .inl gs1_82)), (qf, .inl (cI, 4040, .inl nf1_83)), (ql, .inl (cI, 4100, .inl lt1_84))] H := hP
  have hD : va_D A [(d1, .inl (cI, 4100, .inl f_98)), (d2, .inl (cI, 4100, .inl (upd fd2 (0 : Int32).toNatClampNeg (-1)))), (d3, .inl (cI, 4100, .inl fd3)), (q1, .inl (cI, 4100, .inl f1)), (q2, .inl (cI, 4100, .inl f2)), (q3, .inl (cI, 4100, .inl f3)), (q4, .inl (cI, 4100, .inl f4)), (h0, .inr (14, fs1_81)), (qr, .inl (cI, 12, .inl gs1_82)), (qf, .inl (cI, 4040, .inl nf1_83)), (ql, .inl (cI, 4100, .inl lt1_84))] := hD
  have hk_104 : (upd fd2 (0 : Int32).toNatClampNeg (-1)) 0 = (-1) := by rw [show (0 : Int32).toNatClampNeg = 0 from by decide]; exact pk_us
  generalize upd fd2 (0 : Int32).toNatClampNeg (-1) = f_103 at hP hD hk_104
  have hP : va_P (dC, dI) vwCl [(d1, .inl (cI, 4100, .inl f_98)), (d2, .inl (cI, 4100, .inl f_103)), (d3, .inl (cI, 4100, .inl fd3)), (q1, .inl (cI, 4100, .inl f1)), (q2, .inl (cI, 4100, .inl f2)), (q3, .inl (cI, 4100, .inl f3)), (q4, .inl (cI, 4100, .inl f4)), (h0, .inr (14, fs1_81)), (qr, .inl (cI, 12, .inl gs1_82)), (qf, .inl (cI, 4040, .inl nf1_83)), (ql, .inl (cI, 4100, .inl lt1_84))] H := hP
  have hD : va_D A [(d1, .inl (cI, 4100, .inl f_98)), (d2, .inl (cI, 4100, .inl f_103)), (d3, .inl (cI, 4100, .inl fd3)), (q1, .inl (cI, 4100, .inl f1)), (q2, .inl (cI, 4100, .inl f2)), (q3, .inl (cI, 4100, .inl f3)), (q4, .inl (cI, 4100, .inl f4)), (h0, .inr (14, fs1_81)), (qr, .inl (cI, 12, .inl gs1_82)), (qf, .inl (cI, 4040, .inl nf1_83)), (ql, .inl (cI, 4100, .inl lt1_84))] := hD
  refine lv_aload_n hx hb dX14_firstRound_132 rfl (lv_at hl 1 rfl) ?_
  refine va_get (D := (dC, dI)) (ci := 14) (v := .ref d3) (C := RX14) (T := TX14) (N := 136) hx hb hts hin_X14 hown hK hP 7 rfl rfl 44 (by decide) (hts (.fieldLink RX14 164 "NeedHouseModel" "dMany" "[I") (List.mem_of_getElem? (i := 61) rfl)) (fun _ h9 => h9) (hF_91.at 19 rfl) dX14_firstRound_133 ?_
  refine lv_iload_n hx hb dX14_firstRound_136 rfl (lv_at hl 0 rfl) ?_
  refine lv_iload_n hx hb dX14_firstRound_137 rfl (lv_at hl 0 rfl) ?_
  refine va_iast hx hb hK hP hD hS 2 0 rfl rfl (show vp_in (nI 0) 4100 from vp_in_nI (by decide) (by decide)) dX14_firstRound_138 (fun H locs hP hD hS => ?_)
  have hP : va_P (dC, dI) vwCl [(d1, .inl (cI, 4100, .inl f_98)), (d2, .inl (cI, 4100, .inl f_103)), (d3, .inl (cI, 4100, .inl (upd fd3 (0 : Int32).toNatClampNeg 0))), (q1, .inl (cI, 4100, .inl f1)), (q2, .inl (cI, 4100, .inl f2)), (q3, .inl (cI, 4100, .inl f3)), (q4, .inl (cI, 4100, .inl f4)), (h0, .inr (14, fs1_81)), (qr, .inl (cI, 12, .inl gs1_82)), (qf, .inl (cI, 4040, .inl nf1_83)), (ql, .inl (cI, 4100, .inl lt1_84))] H := hP
  have hD : va_D A [(d1, .inl (cI, 4100, .inl f_98)), (d2, .inl (cI, 4100, .inl f_103)), (d3, .inl (cI, 4100, .inl (upd fd3 (0 : Int32).toNatClampNeg 0))), (q1, .inl (cI, 4100, .inl f1)), (q2, .inl (cI, 4100, .inl f2)), (q3, .inl (cI, 4100, .inl f3)), (q4, .inl (cI, 4100, .inl f4)), (h0, .inr (14, fs1_81)), (qr, .inl (cI, 12, .inl gs1_82)), (qf, .inl (cI, 4040, .inl nf1_83)), (ql, .inl (cI, 4100, .inl lt1_84))] := hD
  have hk_106 : (upd fd3 (0 : Int32).toNatClampNeg 0) 0 = 0 := by rw [show (0 : Int32).toNatClampNeg = 0 from by decide]; exact pk_us
  generalize upd fd3 (0 : Int32).toNatClampNeg 0 = f_105 at hP hD hk_106
  have hP : va_P (dC, dI) vwCl [(d1, .inl (cI, 4100, .inl f_98)), (d2, .inl (cI, 4100, .inl f_103)), (d3, .inl (cI, 4100, .inl f_105)), (q1, .inl (cI, 4100, .inl f1)), (q2, .inl (cI, 4100, .inl f2)), (q3, .inl (cI, 4100, .inl f3)), (q4, .inl (cI, 4100, .inl f4)), (h0, .inr (14, fs1_81)), (qr, .inl (cI, 12, .inl gs1_82)), (qf, .inl (cI, 4040, .inl nf1_83)), (ql, .inl (cI, 4100, .inl lt1_84))] H := hP
  have hD : va_D A [(d1, .inl (cI, 4100, .inl f_98)), (d2, .inl (cI, 4100, .inl f_103)), (d3, .inl (cI, 4100, .inl f_105)), (q1, .inl (cI, 4100, .inl f1)), (q2, .inl (cI, 4100, .inl f2)), (q3, .inl (cI, 4100, .inl f3)), (q4, .inl (cI, 4100, .inl f4)), (h0, .inr (14, fs1_81)), (qr, .inl (cI, 12, .inl gs1_82)), (qf, .inl (cI, 4040, .inl nf1_83)), (ql, .inl (cI, 4100, .inl lt1_84))] := hD
  refine lv_iinc (v := 1) (lv' := [(1, .int 1), (0, .ref h0)]) hx hb dX14_firstRound_139 hl (k := 0) rfl (by decide +kernel) (by decide) rfl (fun ls hl => ?_)
  refine lv_goto (tgt := 120) hx hb dX14_firstRound_142 (by decide) ?_
  refine lv_iload_n hx hb dX14_firstRound_120 rfl (lv_at hl 0 rfl) ?_
  refine lv_iconst (v := 3) hx hb dX14_firstRound_121 (by decide) ?_
  refine lv_icmp_ge (tgt := 145) hx hb dX14_firstRound_122 (by decide) (fun c_107 => absurd c_107 (by decide)) (fun _ => ?_)
  refine lv_aload_n hx hb dX14_firstRound_125 rfl (lv_at hl 1 rfl) ?_
  refine va_get (D := (dC, dI)) (ci := 14) (v := .ref d2) (C := RX14) (T := TX14) (N := 136) hx hb hts hin_X14 hown hK hP 7 rfl rfl 43 (by decide) (hts (.fieldLink RX14 161 "NeedHouseModel" "dNode" "[I") (List.mem_of_getElem? (i := 60) rfl)) (fun _ h9 => h9) (hF_91.at 18 rfl) dX14_firstRound_126 ?_
  refine lv_iload_n hx hb dX14_firstRound_129 rfl (lv_at hl 0 rfl) ?_
  refine lv_iconst (v := (-1)) hx hb dX14_firstRound_130 (by decide) ?_
  refine va_iast hx hb hK hP hD hS 1 0 rfl rfl (show vp_in (nI 1) 4100 from vp_in_nI (by decide) (by decide)) dX14_firstRound_131 (fun H locs hP hD hS => ?_)
  have hP : va_P (dC, dI) vwCl [(d1, .inl (cI, 4100, .inl f_98)), (d2, .inl (cI, 4100, .inl (upd f_103 (1 : Int32).toNatClampNeg (-1)))), (d3, .inl (cI, 4100, .inl f_105)), (q1, .inl (cI, 4100, .inl f1)), (q2, .inl (cI, 4100, .inl f2)), (q3, .inl (cI, 4100, .inl f3)), (q4, .inl (cI, 4100, .inl f4)), (h0, .inr (14, fs1_81)), (qr, .inl (cI, 12, .inl gs1_82)), (qf, .inl (cI, 4040, .inl nf1_83)), (ql, .inl (cI, 4100, .inl lt1_84))] H := hP
  have hD : va_D A [(d1, .inl (cI, 4100, .inl f_98)), (d2, .inl (cI, 4100, .inl (upd f_103 (1 : Int32).toNatClampNeg (-1)))), (d3, .inl (cI, 4100, .inl f_105)), (q1, .inl (cI, 4100, .inl f1)), (q2, .inl (cI, 4100, .inl f2)), (q3, .inl (cI, 4100, .inl f3)), (q4, .inl (cI, 4100, .inl f4)), (h0, .inr (14, fs1_81)), (qr, .inl (cI, 12, .inl gs1_82)), (qf, .inl (cI, 4040, .inl nf1_83)), (ql, .inl (cI, 4100, .inl lt1_84))] := hD
  have hk_109 : (upd f_103 (1 : Int32).toNatClampNeg (-1)) 1 = (-1) := by rw [show (1 : Int32).toNatClampNeg = 1 from by decide]; exact pk_us
  have hk_110 : (upd f_103 (1 : Int32).toNatClampNeg (-1)) 0 = (-1) := by rw [show (1 : Int32).toNatClampNeg = 1 from by decide, pk_un (by decide)]; exact hk_104
  generalize upd f_103 (1 : Int32).toNatClampNeg (-1) = f_108 at hP hD hk_109 hk_110
  have hP : va_P (dC, dI) vwCl [(d1, .inl (cI, 4100, .inl f_98)), (d2, .inl (cI, 4100, .inl f_108)), (d3, .inl (cI, 4100, .inl f_105)), (q1, .inl (cI, 4100, .inl f1)), (q2, .inl (cI, 4100, .inl f2)), (q3, .inl (cI, 4100, .inl f3)), (q4, .inl (cI, 4100, .inl f4)), (h0, .inr (14, fs1_81)), (qr, .inl (cI, 12, .inl gs1_82)), (qf, .inl (cI, 4040, .inl nf1_83)), (ql, .inl (cI, 4100, .inl lt1_84))] H := hP
  have hD : va_D A [(d1, .inl (cI, 4100, .inl f_98)), (d2, .inl (cI, 4100, .inl f_108)), (d3, .inl (cI, 4100, .inl f_105)), (q1, .inl (cI, 4100, .inl f1)), (q2, .inl (cI, 4100, .inl f2)), (q3, .inl (cI, 4100, .inl f3)), (q4, .inl (cI, 4100, .inl f4)), (h0, .inr (14, fs1_81)), (qr, .inl (cI, 12, .inl gs1_82)), (qf, .inl (cI, 4040, .inl nf1_83)), (ql, .inl (cI, 4100, .inl lt1_84))] := hD
  refine lv_aload_n hx hb dX14_firstRound_132 rfl (lv_at hl 1 rfl) ?_
  refine va_get (D := (dC, dI)) (ci := 14) (v := .ref d3) (C := RX14) (T := TX14) (N := 136) hx hb hts hin_X14 hown hK hP 7 rfl rfl 44 (by decide) (hts (.fieldLink RX14 164 "NeedHouseModel" "dMany" "[I") (List.mem_of_getElem? (i := 61) rfl)) (fun _ h9 => h9) (hF_91.at 19 rfl) dX14_firstRound_133 ?_
  refine lv_iload_n hx hb dX14_firstRound_136 rfl (lv_at hl 0 rfl) ?_
  refine lv_iload_n hx hb dX14_firstRound_137 rfl (lv_at hl 0 rfl) ?_
  refine va_iast hx hb hK hP hD hS 2 0 rfl rfl (show vp_in (nI 1) 4100 from vp_in_nI (by decide) (by decide)) dX14_firstRound_138 (fun H locs hP hD hS => ?_)
  have hP : va_P (dC, dI) vwCl [(d1, .inl (cI, 4100, .inl f_98)), (d2, .inl (cI, 4100, .inl f_108)), (d3, .inl (cI, 4100, .inl (upd f_105 (1 : Int32).toNatClampNeg 1))), (q1, .inl (cI, 4100, .inl f1)), (q2, .inl (cI, 4100, .inl f2)), (q3, .inl (cI, 4100, .inl f3)), (q4, .inl (cI, 4100, .inl f4)), (h0, .inr (14, fs1_81)), (qr, .inl (cI, 12, .inl gs1_82)), (qf, .inl (cI, 4040, .inl nf1_83)), (ql, .inl (cI, 4100, .inl lt1_84))] H := hP
  have hD : va_D A [(d1, .inl (cI, 4100, .inl f_98)), (d2, .inl (cI, 4100, .inl f_108)), (d3, .inl (cI, 4100, .inl (upd f_105 (1 : Int32).toNatClampNeg 1))), (q1, .inl (cI, 4100, .inl f1)), (q2, .inl (cI, 4100, .inl f2)), (q3, .inl (cI, 4100, .inl f3)), (q4, .inl (cI, 4100, .inl f4)), (h0, .inr (14, fs1_81)), (qr, .inl (cI, 12, .inl gs1_82)), (qf, .inl (cI, 4040, .inl nf1_83)), (ql, .inl (cI, 4100, .inl lt1_84))] := hD
  have hk_112 : (upd f_105 (1 : Int32).toNatClampNeg 1) 1 = 1 := by rw [show (1 : Int32).toNatClampNeg = 1 from by decide]; exact pk_us
  have hk_113 : (upd f_105 (1 : Int32).toNatClampNeg 1) 0 = 0 := by rw [show (1 : Int32).toNatClampNeg = 1 from by decide, pk_un (by decide)]; exact hk_106
  generalize upd f_105 (1 : Int32).toNatClampNeg 1 = f_111 at hP hD hk_112 hk_113
  have hP : va_P (dC, dI) vwCl [(d1, .inl (cI, 4100, .inl f_98)), (d2, .inl (cI, 4100, .inl f_108)), (d3, .inl (cI, 4100, .inl f_111)), (q1, .inl (cI, 4100, .inl f1)), (q2, .inl (cI, 4100, .inl f2)), (q3, .inl (cI, 4100, .inl f3)), (q4, .inl (cI, 4100, .inl f4)), (h0, .inr (14, fs1_81)), (qr, .inl (cI, 12, .inl gs1_82)), (qf, .inl (cI, 4040, .inl nf1_83)), (ql, .inl (cI, 4100, .inl lt1_84))] H := hP
  have hD : va_D A [(d1, .inl (cI, 4100, .inl f_98)), (d2, .inl (cI, 4100, .inl f_108)), (d3, .inl (cI, 4100, .inl f_111)), (q1, .inl (cI, 4100, .inl f1)), (q2, .inl (cI, 4100, .inl f2)), (q3, .inl (cI, 4100, .inl f3)), (q4, .inl (cI, 4100, .inl f4)), (h0, .inr (14, fs1_81)), (qr, .inl (cI, 12, .inl gs1_82)), (qf, .inl (cI, 4040, .inl nf1_83)), (ql, .inl (cI, 4100, .inl lt1_84))] := hD
  refine lv_iinc (v := 2) (lv' := [(1, .int 2), (0, .ref h0)]) hx hb dX14_firstRound_139 hl (k := 0) rfl (by decide +kernel) (by decide) rfl (fun ls hl => ?_)
  refine lv_goto (tgt := 120) hx hb dX14_firstRound_142 (by decide) ?_
  refine lv_iload_n hx hb dX14_firstRound_120 rfl (lv_at hl 0 rfl) ?_
  refine lv_iconst (v := 3) hx hb dX14_firstRound_121 (by decide) ?_
  refine lv_icmp_ge (tgt := 145) hx hb dX14_firstRound_122 (by decide) (fun c_114 => absurd c_114 (by decide)) (fun _ => ?_)
  refine lv_aload_n hx hb dX14_firstRound_125 rfl (lv_at hl 1 rfl) ?_
  refine va_get (D := (dC, dI)) (ci := 14) (v := .ref d2) (C := RX14) (T := TX14) (N := 136) hx hb hts hin_X14 hown hK hP 7 rfl rfl 43 (by decide) (hts (.fieldLink RX14 161 "NeedHouseModel" "dNode" "[I") (List.mem_of_getElem? (i := 60) rfl)) (fun _ h9 => h9) (hF_91.at 18 rfl) dX14_firstRound_126 ?_
  refine lv_iload_n hx hb dX14_firstRound_129 rfl (lv_at hl 0 rfl) ?_
  refine lv_iconst (v := (-1)) hx hb dX14_firstRound_130 (by decide) ?_
  refine va_iast hx hb hK hP hD hS 1 0 rfl rfl (show vp_in (nI 2) 4100 from vp_in_nI (by decide) (by decide)) dX14_firstRound_131 (fun H locs hP hD hS => ?_)
  have hP : va_P (dC, dI) vwCl [(d1, .inl (cI, 4100, .inl f_98)), (d2, .inl (cI, 4100, .inl (upd f_108 (2 : Int32).toNatClampNeg (-1)))), (d3, .inl (cI, 4100, .inl f_111)), (q1, .inl (cI, 4100, .inl f1)), (q2, .inl (cI, 4100, .inl f2)), (q3, .inl (cI, 4100, .inl f3)), (q4, .inl (cI, 4100, .inl f4)), (h0, .inr (14, fs1_81)), (qr, .inl (cI, 12, .inl gs1_82)), (qf, .inl (cI, 4040, .inl nf1_83)), (ql, .inl (cI, 4100, .inl lt1_84))] H := hP
  have hD : va_D A [(d1, .inl (cI, 4100, .inl f_98)), (d2, .inl (cI, 4100, .inl (upd f_108 (2 : Int32).toNatClampNeg (-1)))), (d3, .inl (cI, 4100, .inl f_111)), (q1, .inl (cI, 4100, .inl f1)), (q2, .inl (cI, 4100, .inl f2)), (q3, .inl (cI, 4100, .inl f3)), (q4, .inl (cI, 4100, .inl f4)), (h0, .inr (14, fs1_81)), (qr, .inl (cI, 12, .inl gs1_82)), (qf, .inl (cI, 4040, .inl nf1_83)), (ql, .inl (cI, 4100, .inl lt1_84))] := hD
  have hk_116 : (upd f_108 (2 : Int32).toNatClampNeg (-1)) 2 = (-1) := by rw [show (2 : Int32).toNatClampNeg = 2 from by decide]; exact pk_us
  have hk_117 : (upd f_108 (2 : Int32).toNatClampNeg (-1)) 1 = (-1) := by rw [show (2 : Int32).toNatClampNeg = 2 from by decide, pk_un (by decide)]; exact hk_109
  have hk_118 : (upd f_108 (2 : Int32).toNatClampNeg (-1)) 0 = (-1) := by rw [show (2 : Int32).toNatClampNeg = 2 from by decide, pk_un (by decide)]; exact hk_110
  generalize upd f_108 (2 : Int32).toNatClampNeg (-1) = f_115 at hP hD hk_116 hk_117 hk_118
  have hP : va_P (dC, dI) vwCl [(d1, .inl (cI, 4100, .inl f_98)), (d2, .inl (cI, 4100, .inl f_115)), (d3, .inl (cI, 4100, .inl f_111)), (q1, .inl (cI, 4100, .inl f1)), (q2, .inl (cI, 4100, .inl f2)), (q3, .inl (cI, 4100, .inl f3)), (q4, .inl (cI, 4100, .inl f4)), (h0, .inr (14, fs1_81)), (qr, .inl (cI, 12, .inl gs1_82)), (qf, .inl (cI, 4040, .inl nf1_83)), (ql, .inl (cI, 4100, .inl lt1_84))] H := hP
  have hD : va_D A [(d1, .inl (cI, 4100, .inl f_98)), (d2, .inl (cI, 4100, .inl f_115)), (d3, .inl (cI, 4100, .inl f_111)), (q1, .inl (cI, 4100, .inl f1)), (q2, .inl (cI, 4100, .inl f2)), (q3, .inl (cI, 4100, .inl f3)), (q4, .inl (cI, 4100, .inl f4)), (h0, .inr (14, fs1_81)), (qr, .inl (cI, 12, .inl gs1_82)), (qf, .inl (cI, 4040, .inl nf1_83)), (ql, .inl (cI, 4100, .inl lt1_84))] := hD
  refine lv_aload_n hx hb dX14_firstRound_132 rfl (lv_at hl 1 rfl) ?_
  refine va_get (D := (dC, dI)) (ci := 14) (v := .ref d3) (C := RX14) (T := TX14) (N := 136) hx hb hts hin_X14 hown hK hP 7 rfl rfl 44 (by decide) (hts (.fieldLink RX14 164 "NeedHouseModel" "dMany" "[I") (List.mem_of_getElem? (i := 61) rfl)) (fun _ h9 => h9) (hF_91.at 19 rfl) dX14_firstRound_133 ?_
  refine lv_iload_n hx hb dX14_firstRound_136 rfl (lv_at hl 0 rfl) ?_
  refine lv_iload_n hx hb dX14_firstRound_137 rfl (lv_at hl 0 rfl) ?_
  refine va_iast hx hb hK hP hD hS 2 0 rfl rfl (show vp_in (nI 2) 4100 from vp_in_nI (by decide) (by decide)) dX14_firstRound_138 (fun H locs hP hD hS => ?_)
  have hP : va_P (dC, dI) vwCl [(d1, .inl (cI, 4100, .inl f_98)), (d2, .inl (cI, 4100, .inl f_115)), (d3, .inl (cI, 4100, .inl (upd f_111 (2 : Int32).toNatClampNeg 2))), (q1, .inl (cI, 4100, .inl f1)), (q2, .inl (cI, 4100, .inl f2)), (q3, .inl (cI, 4100, .inl f3)), (q4, .inl (cI, 4100, .inl f4)), (h0, .inr (14, fs1_81)), (qr, .inl (cI, 12, .inl gs1_82)), (qf, .inl (cI, 4040, .inl nf1_83)), (ql, .inl (cI, 4100, .inl lt1_84))] H := hP
  have hD : va_D A [(d1, .inl (cI, 4100, .inl f_98)), (d2, .inl (cI, 4100, .inl f_115)), (d3, .inl (cI, 4100, .inl (upd f_111 (2 : Int32).toNatClampNeg 2))), (q1, .inl (cI, 4100, .inl f1)), (q2, .inl (cI, 4100, .inl f2)), (q3, .inl (cI, 4100, .inl f3)), (q4, .inl (cI, 4100, .inl f4)), (h0, .inr (14, fs1_81)), (qr, .inl (cI, 12, .inl gs1_82)), (qf, .inl (cI, 4040, .inl nf1_83)), (ql, .inl (cI, 4100, .inl lt1_84))] := hD
  have hk_120 : (upd f_111 (2 : Int32).toNatClampNeg 2) 2 = 2 := by rw [show (2 : Int32).toNatClampNeg = 2 from by decide]; exact pk_us
  have hk_121 : (upd f_111 (2 : Int32).toNatClampNeg 2) 1 = 1 := by rw [show (2 : Int32).toNatClampNeg = 2 from by decide, pk_un (by decide)]; exact hk_112
  have hk_122 : (upd f_111 (2 : Int32).toNatClampNeg 2) 0 = 0 := by rw [show (2 : Int32).toNatClampNeg = 2 from by decide, pk_un (by decide)]; exact hk_113
  generalize upd f_111 (2 : Int32).toNatClampNeg 2 = f_119 at hP hD hk_120 hk_121 hk_122
  have hP : va_P (dC, dI) vwCl [(d1, .inl (cI, 4100, .inl f_98)), (d2, .inl (cI, 4100, .inl f_115)), (d3, .inl (cI, 4100, .inl f_119)), (q1, .inl (cI, 4100, .inl f1)), (q2, .inl (cI, 4100, .inl f2)), (q3, .inl (cI, 4100, .inl f3)), (q4, .inl (cI, 4100, .inl f4)), (h0, .inr (14, fs1_81)), (qr, .inl (cI, 12, .inl gs1_82)), (qf, .inl (cI, 4040, .inl nf1_83)), (ql, .inl (cI, 4100, .inl lt1_84))] H := hP
  have hD : va_D A [(d1, .inl (cI, 4100, .inl f_98)), (d2, .inl (cI, 4100, .inl f_115)), (d3, .inl (cI, 4100, .inl f_119)), (q1, .inl (cI, 4100, .inl f1)), (q2, .inl (cI, 4100, .inl f2)), (q3, .inl (cI, 4100, .inl f3)), (q4, .inl (cI, 4100, .inl f4)), (h0, .inr (14, fs1_81)), (qr, .inl (cI, 12, .inl gs1_82)), (qf, .inl (cI, 4040, .inl nf1_83)), (ql, .inl (cI, 4100, .inl lt1_84))] := hD
  refine lv_iinc (v := 3) (lv' := [(1, .int 3), (0, .ref h0)]) hx hb dX14_firstRound_139 hl (k := 0) rfl (by decide +kernel) (by decide) rfl (fun ls hl => ?_)
  refine lv_goto (tgt := 120) hx hb dX14_firstRound_142 (by decide) ?_
  refine lv_iload_n hx hb dX14_firstRound_120 rfl (lv_at hl 0 rfl) ?_
  refine lv_iconst (v := 3) hx hb dX14_firstRound_121 (by decide) ?_
  refine lv_icmp_ge (tgt := 145) hx hb dX14_firstRound_122 (by decide) (fun _ => ?_) (fun c_123 => absurd (by decide) c_123)
  refine lv_aload_n hx hb dX14_firstRound_145 rfl (lv_at hl 1 rfl) ?_
  refine lv_iconst (v := 3) hx hb dX14_firstRound_146 (by decide) ?_
  refine va_put (D := (dC, dI)) (ci := 14) (v := .int 3) (ty := .int) (C := RX14) (T := TX14) (N := 136) hx hb hts hin_X14 tyX14 tyX14_ok nmX14 hown hK hP hD hS 7 rfl rfl 45 (by decide) (hts (.fieldLink RX14 558 "NeedHouseModel" "datas" "I") (List.mem_of_getElem? (i := 3) rfl)) (fun _ h9 => h9) rfl (by decide +kernel) rfl rfl (by rw [hF_91.1]; decide) dX14_firstRound_147 (fun H locs hP hD hS => ?_)
  have hP : va_P (dC, dI) vwCl [(d1, .inl (cI, 4100, .inl f_98)), (d2, .inl (cI, 4100, .inl f_115)), (d3, .inl (cI, 4100, .inl f_119)), (q1, .inl (cI, 4100, .inl f1)), (q2, .inl (cI, 4100, .inl f2)), (q3, .inl (cI, 4100, .inl f3)), (q4, .inl (cI, 4100, .inl f4)), (h0, .inr (14, (fs1_81.set 45 (.int 3)))), (qr, .inl (cI, 12, .inl gs1_82)), (qf, .inl (cI, 4040, .inl nf1_83)), (ql, .inl (cI, 4100, .inl lt1_84))] H := hP
  have hD : va_D A [(d1, .inl (cI, 4100, .inl f_98)), (d2, .inl (cI, 4100, .inl f_115)), (d3, .inl (cI, 4100, .inl f_119)), (q1, .inl (cI, 4100, .inl f1)), (q2, .inl (cI, 4100, .inl f2)), (q3, .inl (cI, 4100, .inl f3)), (q4, .inl (cI, 4100, .inl f4)), (h0, .inr (14, (fs1_81.set 45 (.int 3)))), (qr, .inl (cI, 12, .inl gs1_82)), (qf, .inl (cI, 4040, .inl nf1_83)), (ql, .inl (cI, 4100, .inl lt1_84))] := hD
  have hF_124 := hF_91.set 45 (.int 3) (l' := [(45, .int 3), (13, .int (nI N1_85)), (58, .int r_62), (57, .int r_45), (56, .int r_28), (55, .int 0), (54, .int 0), (53, .int 1000000), (51, .int 0), (50, .int 0), (41, .int 0), (39, .int 0), (10, .int 1), (34, .int (-1)), (12, .ref qf), (11, .ref ql), (14, .ref qr), (42, .ref d1), (43, .ref d2), (44, .ref d3), (46, .ref q1), (47, .ref q2), (48, .ref q3), (49, .ref q4)]) (by decide) rfl
  have hE_125 := hE_92.set 45 (.int 3)
  generalize fs1_81.set 45 (.int 3) = fs_126 at hP hD hF_124 hE_125
  have hP : va_P (dC, dI) vwCl [(d1, .inl (cI, 4100, .inl f_98)), (d2, .inl (cI, 4100, .inl f_115)), (d3, .inl (cI, 4100, .inl f_119)), (q1, .inl (cI, 4100, .inl f1)), (q2, .inl (cI, 4100, .inl f2)), (q3, .inl (cI, 4100, .inl f3)), (q4, .inl (cI, 4100, .inl f4)), (h0, .inr (14, fs_126)), (qr, .inl (cI, 12, .inl gs1_82)), (qf, .inl (cI, 4040, .inl nf1_83)), (ql, .inl (cI, 4100, .inl lt1_84))] H := hP
  have hD : va_D A [(d1, .inl (cI, 4100, .inl f_98)), (d2, .inl (cI, 4100, .inl f_115)), (d3, .inl (cI, 4100, .inl f_119)), (q1, .inl (cI, 4100, .inl f1)), (q2, .inl (cI, 4100, .inl f2)), (q3, .inl (cI, 4100, .inl f3)), (q4, .inl (cI, 4100, .inl f4)), (h0, .inr (14, fs_126)), (qr, .inl (cI, 12, .inl gs1_82)), (qf, .inl (cI, 4040, .inl nf1_83)), (ql, .inl (cI, 4100, .inl lt1_84))] := hD
  have hF_127 : hasF fs_126 136 [(45, .int 3), (13, .int (nI N1_85)), (58, .int r_62), (57, .int r_45), (56, .int r_28), (55, .int 0), (54, .int 0), (53, .int 1000000), (51, .int 0), (50, .int (nI 0)), (41, .int 0), (39, .int 0), (10, .int 1), (34, .int (-1)), (12, .ref qf), (11, .ref ql), (14, .ref qr), (42, .ref d1), (43, .ref d2), (44, .ref d3), (46, .ref q1), (47, .ref q2), (48, .ref q3), (49, .ref q4)] := hF_124
  refine lv_aload_n hx hb dX14_firstRound_150 rfl (lv_at hl 1 rfl) ?_
  refine lv_aload_n hx hb dX14_firstRound_151 rfl (lv_at hl 1 rfl) ?_
  refine ax_ldcwS hx hb hown hR4 dX14_firstRound_152 ?_
  have hPc := hP.sub (ws' := [(h0, .inr (14, fs_126)), (qr, .inl (cI, 12, .inl gs1_82)), (qf, .inl (cI, 4040, .inl nf1_83)), (ql, .inl (cI, 4100, .inl lt1_84))]) [7, 8, 9, 10] rfl
  have hDc := hD.sub (ws' := [(h0, .inr (14, fs_126)), (qr, .inl (cI, 12, .inl gs1_82)), (qf, .inl (cI, 4040, .inl nf1_83)), (ql, .inl (cI, 4100, .inl lt1_84))]) [7, 8, 9, 10] (by decide) rfl
  have hKc := hK.sub (tys' := [(cI, .int)]) [0] rfl
  have hFc := va_free (wc := [(h0, .inr (14, fs_126)), (qr, .inl (cI, 12, .inl gs1_82)), (qf, .inl (cI, 4040, .inl nf1_83)), (ql, .inl (cI, 4100, .inl lt1_84))]) hD hS hA [7, 8, 9, 10] rfl
  refine va_calli (va_runV (As := [.ref s4]) (rest := [.ref h0]) ⟨hx, hb, hml, hown, hts⟩ (c_X14_nameOf_ l dC dI H.size h0 qr qf ql cI fs_126 gs1_82 nf1_83 lt1_84 N1_85 s4 v4 5 b4 (hF_127.sub [1, 14, 15, 16] rfl) (by omega) (by decide) (hX_89)) (cwV 1 hts g_c_X14_firstRound_c_X14_nameOf__155 rfl rfl rfl (by decide +kernel) ⟨Nat.le_of_ble_eq_true rfl, Nat.le_of_ble_eq_true rfl⟩) ⟨fun a U g mk q => by obtain ⟨q0, q1, qP, qK, qD, hStr, hJ⟩ := q; exact ⟨q0, q1, qP, va_K.moved (u := U) (U := U.calling g mk a) (Vm.Alike.refl U.vm) qK, qD, hStr.moved (Vm.Alike.refl U.vm), hJ.moved (Vm.Alike.refl U.vm)⟩, va_recv hKc hPc (ci := 14) (q0 := 0) rfl rfl, fun U hU hW => ⟨rfl, by rw [hU], by rw [hU]; exact hPc, va_K.moved hW.alike hKc, hDc.weaken (fun _ _ _ _ => trivial), by rw [hU]; exact ((hT4.kept hS.2.1).narrow hFc).moved hW.alike, by rw [hU]; exact ((hJ.kept hS.2.1).narrow hFc).moved hW.alike⟩⟩ rfl rfl hl.1 rfl (lv_room (Nat.le_of_ble_eq_true rfl)) dX14_firstRound_155 ⟨show 0 + 0 ≤ 0 by decide, show 0 + 0 ≤ 0 by decide⟩) hS (fun q _ h => hFc q h) hFc (fun r_128 u t H1 locs ht hvm hw hB hz1 hk1 hS => ?_)
  obtain ⟨fs1_130, gs1_131, nf1_132, lt1_133, N1_134⟩ := u
  obtain ⟨hP1, hK1, hD1⟩ := hB
  rw [ht] at hP1
  have hK1 := va_K.moved hvm.symm hK1
  try dsimp only at hw hP1 hK1 hD1
  obtain ⟨hF_135, hE_136, hX_137, hX_138⟩ := hw
  obtain ⟨hP, hD⟩ := va_join (wr := [(d1, .inl (cI, 4100, .inl f_98)), (d2, .inl (cI, 4100, .inl f_115)), (d3, .inl (cI, 4100, .inl f_119)), (q1, .inl (cI, 4100, .inl f1)), (q2, .inl (cI, 4100, .inl f2)), (q3, .inl (cI, 4100, .inl f3)), (q4, .inl (cI, 4100, .inl f4))]) (w1 := [(h0, .inr (14, fs1_130)), (qr, .inl (cI, 12, .inl gs1_131)), (qf, .inl (cI, 4040, .inl nf1_132)), (ql, .inl (cI, 4100, .inl lt1_133))]) hP hD [7, 8, 9, 10] [0, 1, 2, 3, 4, 5, 6] rfl rfl (by decide) (by decide) hk1 hFc hP1 hD1
  generalize H1 = H at hP hS ⊢
  have hK := (hK.sub (tys' := []) [] rfl).app hK1
  have hK : va_K (dC, dI) vwCl [(cI, .int)] s := hK
  have hP : va_P (dC, dI) vwCl [(d1, .inl (cI, 4100, .inl f_98)), (d2, .inl (cI, 4100, .inl f_115)), (d3, .inl (cI, 4100, .inl f_119)), (q1, .inl (cI, 4100, .inl f1)), (q2, .inl (cI, 4100, .inl f2)), (q3, .inl (cI, 4100, .inl f3)), (q4, .inl (cI, 4100, .inl f4)), (h0, .inr (14, fs1_130)), (qr, .inl (cI, 12, .inl gs1_131)), (qf, .inl (cI, 4040, .inl nf1_132)), (ql, .inl (cI, 4100, .inl lt1_133))] H := hP
  have hD : va_D A [(d1, .inl (cI, 4100, .inl f_98)), (d2, .inl (cI, 4100, .inl f_115)), (d3, .inl (cI, 4100, .inl f_119)), (q1, .inl (cI, 4100, .inl f1)), (q2, .inl (cI, 4100, .inl f2)), (q3, .inl (cI, 4100, .inl f3)), (q4, .inl (cI, 4100, .inl f4)), (h0, .inr (14, fs1_130)), (qr, .inl (cI, 12, .inl gs1_131)), (qf, .inl (cI, 4040, .inl nf1_132)), (ql, .inl (cI, 4100, .inl lt1_133))] := hD
  have hF_139 := hF_127.same hE_136 (l' := [(45, .int 3), (58, .int r_62), (57, .int r_45), (56, .int r_28), (55, .int 0), (54, .int 0), (53, .int 1000000), (51, .int 0), (50, .int (nI 0)), (41, .int 0), (39, .int 0), (10, .int 1), (34, .int (-1)), (12, .ref qf), (11, .ref ql), (14, .ref qr), (42, .ref d1), (43, .ref d2), (44, .ref d3), (46, .ref q1), (47, .ref q2), (48, .ref q3), (49, .ref q4)]) rfl
  have hF_140 := hF_135.app hF_139
  have hE_141 := hE_125.trans hE_136
  refine lv_iconst (v := (-1)) hx hb dX14_firstRound_158 (by decide) ?_
  refine lv_iconst (v := 0) hx hb dX14_firstRound_159 (by decide) ?_
  refine lv_iconst (v := 0) hx hb dX14_firstRound_160 (by decide) ?_
  have hPc := hP.sub (ws' := [(h0, .inr (14, fs1_130)), (q1, .inl (cI, 4100, .inl f1)), (q2, .inl (cI, 4100, .inl f2)), (q3, .inl (cI, 4100, .inl f3)), (q4, .inl (cI, 4100, .inl f4))]) [7, 3, 4, 5, 6] rfl
  have hDc := hD.sub (ws' := [(h0, .inr (14, fs1_130)), (q1, .inl (cI, 4100, .inl f1)), (q2, .inl (cI, 4100, .inl f2)), (q3, .inl (cI, 4100, .inl f3)), (q4, .inl (cI, 4100, .inl f4))]) [7, 3, 4, 5, 6] (by decide) rfl
  have hKc := hK.sub (tys' := [(cI, .int)]) [0] rfl
  have hFc := va_free (wc := [(h0, .inr (14, fs1_130)), (q1, .inl (cI, 4100, .inl f1)), (q2, .inl (cI, 4100, .inl f2)), (q3, .inl (cI, 4100, .inl f3)), (q4, .inl (cI, 4100, .inl f4))]) hD hS hA [7, 3, 4, 5, 6] rfl
  refine va_callv (va_runV (As := [.int r_128, .int (-1), .int 0, .int 0]) (rest := []) ⟨hx, hb, hml, hown, hts⟩ (c_X14_con l dC dI H.size cI h0 fs1_130 q1 f1 q2 f2 q3 f3 q4 f4 0 r_128 (-1) 0 0 (hF_140.sub [20, 21, 22, 23, 9] rfl) (by omega)) (cwV 4 hts g_c_X14_firstRound_c_X14_con_161 rfl rfl rfl (by decide +kernel) ⟨Nat.le_of_ble_eq_true rfl, Nat.le_of_ble_eq_true rfl⟩) ⟨fun a U g mk q => by obtain ⟨q0, q1, qP, qK, qD⟩ := q; exact ⟨q0, q1, qP, va_K.moved (u := U) (U := U.calling g mk a) (Vm.Alike.refl U.vm) qK, qD⟩, va_recv hKc hPc (ci := 14) (q0 := 0) rfl rfl, fun U hU hW => ⟨rfl, by rw [hU], by rw [hU]; exact hPc, va_K.moved hW.alike hKc, hDc.weaken (fun _ _ _ _ => trivial)⟩⟩ rfl rfl hl.1 rfl (lv_room (Nat.le_of_ble_eq_true rfl)) dX14_firstRound_161 ⟨show 0 + 0 ≤ 0 by decide, show 0 + 0 ≤ 0 by decide⟩) hS (fun q _ h => hFc q h) hFc (fun u t H1 locs ht hvm hw hB hz1 hk1 hS => ?_)
  obtain ⟨fs0z_144, f1z_145, f2z_146, f3z_147, f4z_148⟩ := u
  obtain ⟨hP1, hK1, hD1⟩ := hB
  rw [ht] at hP1
  have hK1 := va_K.moved hvm.symm hK1
  try dsimp only at hw hP1 hK1 hD1
  obtain ⟨hF_149, hE_150⟩ := hw
  obtain ⟨hP, hD⟩ := va_join (wr := [(d1, .inl (cI, 4100, .inl f_98)), (d2, .inl (cI, 4100, .inl f_115)), (d3, .inl (cI, 4100, .inl f_119)), (qr, .inl (cI, 12, .inl gs1_131)), (qf, .inl (cI, 4040, .inl nf1_132)), (ql, .inl (cI, 4100, .inl lt1_133))]) (w1 := [(h0, .inr (14, fs0z_144)), (q1, .inl (cI, 4100, .inl f1z_145)), (q2, .inl (cI, 4100, .inl f2z_146)), (q3, .inl (cI, 4100, .inl f3z_147)), (q4, .inl (cI, 4100, .inl f4z_148))]) hP hD [7, 3, 4, 5, 6] [0, 1, 2, 8, 9, 10] rfl rfl (by decide) (by decide) hk1 hFc hP1 hD1
  generalize H1 = H at hP hS ⊢
  have hK := (hK.sub (tys' := []) [] rfl).app hK1
  have hK : va_K (dC, dI) vwCl [(cI, .int)] s := hK
  have hP : va_P (dC, dI) vwCl [(d1, .inl (cI, 4100, .inl f_98)), (d2, .inl (cI, 4100, .inl f_115)), (d3, .inl (cI, 4100, .inl f_119)), (qr, .inl (cI, 12, .inl gs1_131)), (qf, .inl (cI, 4040, .inl nf1_132)), (ql, .inl (cI, 4100, .inl lt1_133)), (h0, .inr (14, fs0z_144)), (q1, .inl (cI, 4100, .inl f1z_145)), (q2, .inl (cI, 4100, .inl f2z_146)), (q3, .inl (cI, 4100, .inl f3z_147)), (q4, .inl (cI, 4100, .inl f4z_148))] H := hP
  have hD : va_D A [(d1, .inl (cI, 4100, .inl f_98)), (d2, .inl (cI, 4100, .inl f_115)), (d3, .inl (cI, 4100, .inl f_119)), (qr, .inl (cI, 12, .inl gs1_131)), (qf, .inl (cI, 4040, .inl nf1_132)), (ql, .inl (cI, 4100, .inl lt1_133)), (h0, .inr (14, fs0z_144)), (q1, .inl (cI, 4100, .inl f1z_145)), (q2, .inl (cI, 4100, .inl f2z_146)), (q3, .inl (cI, 4100, .inl f3z_147)), (q4, .inl (cI, 4100, .inl f4z_148))] := hD
  have hF_151 := hF_140.same hE_150 (l' := [(13, .int (nI N1_134)), (45, .int 3), (58, .int r_62), (57, .int r_45), (56, .int r_28), (55, .int 0), (54, .int 0), (53, .int 1000000), (51, .int 0), (41, .int 0), (39, .int 0), (10, .int 1), (34, .int (-1)), (12, .ref qf), (11, .ref ql), (14, .ref qr), (42, .ref d1), (43, .ref d2), (44, .ref d3), (46, .ref q1), (47, .ref q2), (48, .ref q3), (49, .ref q4)]) rfl
  have hF_152 := hF_149.app hF_151
  have hE_153 := hE_141.trans hE_150
  refine lv_aload_n hx hb dX14_firstRound_164 rfl (lv_at hl 1 rfl) ?_
  refine lv_aload_n hx hb dX14_firstRound_165 rfl (lv_at hl 1 rfl) ?_
  refine ax_ldcwS hx hb hown hR5 dX14_firstRound_166 ?_
  have hPc := hP.sub (ws' := [(h0, .inr (14, fs0z_144)), (qr, .inl (cI, 12, .inl gs1_131)), (qf, .inl (cI, 4040, .inl nf1_132)), (ql, .inl (cI, 4100, .inl lt1_133))]) [6, 3, 4, 5] rfl
  have hDc := hD.sub (ws' := [(h0, .inr (14, fs0z_144)), (qr, .inl (cI, 12, .inl gs1_131)), (qf, .inl (cI, 4040, .inl nf1_132)), (ql, .inl (cI, 4100, .inl lt1_133))]) [6, 3, 4, 5] (by decide) rfl
  have hKc := hK.sub (tys' := [(cI, .int)]) [0] rfl
  have hFc := va_free (wc := [(h0, .inr (14, fs0z_144)), (qr, .inl (cI, 12, .inl gs1_131)), (qf, .inl (cI, 4040, .inl nf1_132)), (ql, .inl (cI, 4100, .inl lt1_133))]) hD hS hA [6, 3, 4, 5] rfl
  refine va_calli (va_runV (As := [.ref s5]) (rest := [.ref h0]) ⟨hx, hb, hml, hown, hts⟩ (c_X14_nameOf_ l dC dI H.size h0 qr qf ql cI fs0z_144 gs1_131 nf1_132 lt1_133 N1_134 s5 v5 4 b5 (hF_152.sub [1, 14, 15, 16] rfl) (by omega) (by decide) (hX_138)) (cwV 1 hts g_c_X14_firstRound_c_X14_nameOf__169 rfl rfl rfl (by decide +kernel) ⟨Nat.le_of_ble_eq_true rfl, Nat.le_of_ble_eq_true rfl⟩) ⟨fun a U g mk q => by obtain ⟨q0, q1, qP, qK, qD, hStr, hJ⟩ := q; exact ⟨q0, q1, qP, va_K.moved (u := U) (U := U.calling g mk a) (Vm.Alike.refl U.vm) qK, qD, hStr.moved (Vm.Alike.refl U.vm), hJ.moved (Vm.Alike.refl U.vm)⟩, va_recv hKc hPc (ci := 14) (q0 := 0) rfl rfl, fun U hU hW => ⟨rfl, by rw [hU], by rw [hU]; exact hPc, va_K.moved hW.alike hKc, hDc.weaken (fun _ _ _ _ => trivial), by rw [hU]; exact ((hT5.kept hS.2.1).narrow hFc).moved hW.alike, by rw [hU]; exact ((hJ.kept hS.2.1).narrow hFc).moved hW.alike⟩⟩ rfl rfl hl.1 rfl (lv_room (Nat.le_of_ble_eq_true rfl)) dX14_firstRound_169 ⟨show 0 + 0 ≤ 0 by decide, show 0 + 0 ≤ 0 by decide⟩) hS (fun q _ h => hFc q h) hFc (fun r_154 u t H1 locs ht hvm hw hB hz1 hk1 hS => ?_)
  obtain ⟨fs1_156, gs1_157, nf1_158, lt1_159, N1_160⟩ := u
  obtain ⟨hP1, hK1, hD1⟩ := hB
  rw [ht] at hP1
  have hK1 := va_K.moved hvm.symm hK1
  try dsimp only at hw hP1 hK1 hD1
  obtain ⟨hF_161, hE_162, hX_163, hX_164⟩ := hw
  obtain ⟨hP, hD⟩ := va_join (wr := [(d1, .inl (cI, 4100, .inl f_98)), (d2, .inl (cI, 4100, .inl f_115)), (d3, .inl (cI, 4100, .inl f_119)), (q1, .inl (cI, 4100, .inl f1z_145)), (q2, .inl (cI, 4100, .inl f2z_146)), (q3, .inl (cI, 4100, .inl f3z_147)), (q4, .inl (cI, 4100, .inl f4z_148))]) (w1 := [(h0, .inr (14, fs1_156)), (qr, .inl (cI, 12, .inl gs1_157)), (qf, .inl (cI, 4040, .inl nf1_158)), (ql, .inl (cI, 4100, .inl lt1_159))]) hP hD [6, 3, 4, 5] [0, 1, 2, 7, 8, 9, 10] rfl rfl (by decide) (by decide) hk1 hFc hP1 hD1
  generalize H1 = H at hP hS ⊢
  have hK := (hK.sub (tys' := []) [] rfl).app hK1
  have hK : va_K (dC, dI) vwCl [(cI, .int)] s := hK
  have hP : va_P (dC, dI) vwCl [(d1, .inl (cI, 4100, .inl f_98)), (d2, .inl (cI, 4100, .inl f_115)), (d3, .inl (cI, 4100, .inl f_119)), (q1, .inl (cI, 4100, .inl f1z_145)), (q2, .inl (cI, 4100, .inl f2z_146)), (q3, .inl (cI, 4100, .inl f3z_147)), (q4, .inl (cI, 4100, .inl f4z_148)), (h0, .inr (14, fs1_156)), (qr, .inl (cI, 12, .inl gs1_157)), (qf, .inl (cI, 4040, .inl nf1_158)), (ql, .inl (cI, 4100, .inl lt1_159))] H := hP
  have hD : va_D A [(d1, .inl (cI, 4100, .inl f_98)), (d2, .inl (cI, 4100, .inl f_115)), (d3, .inl (cI, 4100, .inl f_119)), (q1, .inl (cI, 4100, .inl f1z_145)), (q2, .inl (cI, 4100, .inl f2z_146)), (q3, .inl (cI, 4100, .inl f3z_147)), (q4, .inl (cI, 4100, .inl f4z_148)), (h0, .inr (14, fs1_156)), (qr, .inl (cI, 12, .inl gs1_157)), (qf, .inl (cI, 4040, .inl nf1_158)), (ql, .inl (cI, 4100, .inl lt1_159))] := hD
  have hF_165 := hF_152.same hE_162 (l' := [(50, .int (nI (0 + 1))), (45, .int 3), (58, .int r_62), (57, .int r_45), (56, .int r_28), (55, .int 0), (54, .int 0), (53, .int 1000000), (51, .int 0), (41, .int 0), (39, .int 0), (10, .int 1), (34, .int (-1)), (12, .ref qf), (11, .ref ql), (14, .ref qr), (42, .ref d1), (43, .ref d2), (44, .ref d3), (46, .ref q1), (47, .ref q2), (48, .ref q3), (49, .ref q4)]) rfl
  have hF_166 := hF_161.app hF_165
  have hE_167 := hE_153.trans hE_162
  refine lv_iconst (v := (-1)) hx hb dX14_firstRound_172 (by decide) ?_
  refine lv_iconst (v := 0) hx hb dX14_firstRound_173 (by decide) ?_
  refine lv_iconst (v := 0) hx hb dX14_firstRound_174 (by decide) ?_
  have hPc := hP.sub (ws' := [(h0, .inr (14, fs1_156)), (q1, .inl (cI, 4100, .inl f1z_145)), (q2, .inl (cI, 4100, .inl f2z_146)), (q3, .inl (cI, 4100, .inl f3z_147)), (q4, .inl (cI, 4100, .inl f4z_148))]) [7, 3, 4, 5, 6] rfl
  have hDc := hD.sub (ws' := [(h0, .inr (14, fs1_156)), (q1, .inl (cI, 4100, .inl f1z_145)), (q2, .inl (cI, 4100, .inl f2z_146)), (q3, .inl (cI, 4100, .inl f3z_147)), (q4, .inl (cI, 4100, .inl f4z_148))]) [7, 3, 4, 5, 6] (by decide) rfl
  have hKc := hK.sub (tys' := [(cI, .int)]) [0] rfl
  have hFc := va_free (wc := [(h0, .inr (14, fs1_156)), (q1, .inl (cI, 4100, .inl f1z_145)), (q2, .inl (cI, 4100, .inl f2z_146)), (q3, .inl (cI, 4100, .inl f3z_147)), (q4, .inl (cI, 4100, .inl f4z_148))]) hD hS hA [7, 3, 4, 5, 6] rfl
  refine va_callv (va_runV (As := [.int r_154, .int (-1), .int 0, .int 0]) (rest := []) ⟨hx, hb, hml, hown, hts⟩ (c_X14_con l dC dI H.size cI h0 fs1_156 q1 f1z_145 q2 f2z_146 q3 f3z_147 q4 f4z_148 (0 + 1) r_154 (-1) 0 0 (hF_166.sub [20, 21, 22, 23, 1] rfl) (by omega)) (cwV 4 hts g_c_X14_firstRound_c_X14_con_175 rfl rfl rfl (by decide +kernel) ⟨Nat.le_of_ble_eq_true rfl, Nat.le_of_ble_eq_true rfl⟩) ⟨fun a U g mk q => by obtain ⟨q0, q1, qP, qK, qD⟩ := q; exact ⟨q0, q1, qP, va_K.moved (u := U) (U := U.calling g mk a) (Vm.Alike.refl U.vm) qK, qD⟩, va_recv hKc hPc (ci := 14) (q0 := 0) rfl rfl, fun U hU hW => ⟨rfl, by rw [hU], by rw [hU]; exact hPc, va_K.moved hW.alike hKc, hDc.weaken (fun _ _ _ _ => trivial)⟩⟩ rfl rfl hl.1 rfl (lv_room (Nat.le_of_ble_eq_true rfl)) dX14_firstRound_175 ⟨show 0 + 0 ≤ 0 by decide, show 0 + 0 ≤ 0 by decide⟩) hS (fun q _ h => hFc q h) hFc (fun u t H1 locs ht hvm hw hB hz1 hk1 hS => ?_)
  obtain ⟨fs0z_170, f1z_171, f2z_172, f3z_173, f4z_174⟩ := u
  obtain ⟨hP1, hK1, hD1⟩ := hB
  rw [ht] at hP1
  have hK1 := va_K.moved hvm.symm hK1
  try dsimp only at hw hP1 hK1 hD1
  obtain ⟨hF_175, hE_176⟩ := hw
  obtain ⟨hP, hD⟩ := va_join (wr := [(d1, .inl (cI, 4100, .inl f_98)), (d2, .inl (cI, 4100, .inl f_115)), (d3, .inl (cI, 4100, .inl f_119)), (qr, .inl (cI, 12, .inl gs1_157)), (qf, .inl (cI, 4040, .inl nf1_158)), (ql, .inl (cI, 4100, .inl lt1_159))]) (w1 := [(h0, .inr (14, fs0z_170)), (q1, .inl (cI, 4100, .inl f1z_171)), (q2, .inl (cI, 4100, .inl f2z_172)), (q3, .inl (cI, 4100, .inl f3z_173)), (q4, .inl (cI, 4100, .inl f4z_174))]) hP hD [7, 3, 4, 5, 6] [0, 1, 2, 8, 9, 10] rfl rfl (by decide) (by decide) hk1 hFc hP1 hD1
  generalize H1 = H at hP hS ⊢
  have hK := (hK.sub (tys' := []) [] rfl).app hK1
  have hK : va_K (dC, dI) vwCl [(cI, .int)] s := hK
  have hP : va_P (dC, dI) vwCl [(d1, .inl (cI, 4100, .inl f_98)), (d2, .inl (cI, 4100, .inl f_115)), (d3, .inl (cI, 4100, .inl f_119)), (qr, .inl (cI, 12, .inl gs1_157)), (qf, .inl (cI, 4040, .inl nf1_158)), (ql, .inl (cI, 4100, .inl lt1_159)), (h0, .inr (14, fs0z_170)), (q1, .inl (cI, 4100, .inl f1z_171)), (q2, .inl (cI, 4100, .inl f2z_172)), (q3, .inl (cI, 4100, .inl f3z_173)), (q4, .inl (cI, 4100, .inl f4z_174))] H := hP
  have hD : va_D A [(d1, .inl (cI, 4100, .inl f_98)), (d2, .inl (cI, 4100, .inl f_115)), (d3, .inl (cI, 4100, .inl f_119)), (qr, .inl (cI, 12, .inl gs1_157)), (qf, .inl (cI, 4040, .inl nf1_158)), (ql, .inl (cI, 4100, .inl lt1_159)), (h0, .inr (14, fs0z_170)), (q1, .inl (cI, 4100, .inl f1z_171)), (q2, .inl (cI, 4100, .inl f2z_172)), (q3, .inl (cI, 4100, .inl f3z_173)), (q4, .inl (cI, 4100, .inl f4z_174))] := hD
  have hF_177 := hF_166.same hE_176 (l' := [(13, .int (nI N1_160)), (45, .int 3), (58, .int r_62), (57, .int r_45), (56, .int r_28), (55, .int 0), (54, .int 0), (53, .int 1000000), (51, .int 0), (41, .int 0), (39, .int 0), (10, .int 1), (34, .int (-1)), (12, .ref qf), (11, .ref ql), (14, .ref qr), (42, .ref d1), (43, .ref d2), (44, .ref d3), (46, .ref q1), (47, .ref q2), (48, .ref q3), (49, .ref q4)]) rfl
  have hF_178 := hF_175.app hF_177
  have hE_179 := hE_167.trans hE_176
  refine lv_aload_n hx hb dX14_firstRound_178 rfl (lv_at hl 1 rfl) ?_
  refine lv_iconst (v := (-1)) hx hb dX14_firstRound_179 (by decide) ?_
  refine lv_iconst (v := (-1)) hx hb dX14_firstRound_180 (by decide) ?_
  refine lv_iconst (v := 1) hx hb dX14_firstRound_181 (by decide) ?_
  refine lv_iconst (v := 0) hx hb dX14_firstRound_182 (by decide) ?_
  have hPc := hP.sub (ws' := [(h0, .inr (14, fs0z_170)), (q1, .inl (cI, 4100, .inl f1z_171)), (q2, .inl (cI, 4100, .inl f2z_172)), (q3, .inl (cI, 4100, .inl f3z_173)), (q4, .inl (cI, 4100, .inl f4z_174))]) [6, 7, 8, 9, 10] rfl
  have hDc := hD.sub (ws' := [(h0, .inr (14, fs0z_170)), (q1, .inl (cI, 4100, .inl f1z_171)), (q2, .inl (cI, 4100, .inl f2z_172)), (q3, .inl (cI, 4100, .inl f3z_173)), (q4, .inl (cI, 4100, .inl f4z_174))]) [6, 7, 8, 9, 10] (by decide) rfl
  have hKc := hK.sub (tys' := [(cI, .int)]) [0] rfl
  have hFc := va_free (wc := [(h0, .inr (14, fs0z_170)), (q1, .inl (cI, 4100, .inl f1z_171)), (q2, .inl (cI, 4100, .inl f2z_172)), (q3, .inl (cI, 4100, .inl f3z_173)), (q4, .inl (cI, 4100, .inl f4z_174))]) hD hS hA [6, 7, 8, 9, 10] rfl
  refine va_callv (va_runV (As := [.int (-1), .int (-1), .int 1, .int 0]) (rest := []) ⟨hx, hb, hml, hown, hts⟩ (c_X14_con l dC dI H.size cI h0 fs0z_170 q1 f1z_171 q2 f2z_172 q3 f3z_173 q4 f4z_174 ((0 + 1) + 1) (-1) (-1) 1 0 (hF_178.sub [20, 21, 22, 23, 0] rfl) (by omega)) (cwV 4 hts g_c_X14_firstRound_c_X14_con_183 rfl rfl rfl (by decide +kernel) ⟨Nat.le_of_ble_eq_true rfl, Nat.le_of_ble_eq_true rfl⟩) ⟨fun a U g mk q => by obtain ⟨q0, q1, qP, qK, qD⟩ := q; exact ⟨q0, q1, qP, va_K.moved (u := U) (U := U.calling g mk a) (Vm.Alike.refl U.vm) qK, qD⟩, va_recv hKc hPc (ci := 14) (q0 := 0) rfl rfl, fun U hU hW => ⟨rfl, by rw [hU], by rw [hU]; exact hPc, va_K.moved hW.alike hKc, hDc.weaken (fun _ _ _ _ => trivial)⟩⟩ rfl rfl hl.1 rfl (lv_room (Nat.le_of_ble_eq_true rfl)) dX14_firstRound_183 ⟨show 0 + 0 ≤ 0 by decide, show 0 + 0 ≤ 0 by decide⟩) hS (fun q _ h => hFc q h) hFc (fun u t H1 locs ht hvm hw hB hz1 hk1 hS => ?_)
  obtain ⟨fs0z_182, f1z_183, f2z_184, f3z_185, f4z_186⟩ := u
  obtain ⟨hP1, hK1, hD1⟩ := hB
  rw [ht] at hP1
  have hK1 := va_K.moved hvm.symm hK1
  try dsimp only at hw hP1 hK1 hD1
  obtain ⟨hF_187, hE_188⟩ := hw
  obtain ⟨hP, hD⟩ := va_join (wr := [(d1, .inl (cI, 4100, .inl f_98)), (d2, .inl (cI, 4100, .inl f_115)), (d3, .inl (cI, 4100, .inl f_119)), (qr, .inl (cI, 12, .inl gs1_157)), (qf, .inl (cI, 4040, .inl nf1_158)), (ql, .inl (cI, 4100, .inl lt1_159))]) (w1 := [(h0, .inr (14, fs0z_182)), (q1, .inl (cI, 4100, .inl f1z_183)), (q2, .inl (cI, 4100, .inl f2z_184)), (q3, .inl (cI, 4100, .inl f3z_185)), (q4, .inl (cI, 4100, .inl f4z_186))]) hP hD [6, 7, 8, 9, 10] [0, 1, 2, 3, 4, 5] rfl rfl (by decide) (by decide) hk1 hFc hP1 hD1
  generalize H1 = H at hP hS ⊢
  have hK := (hK.sub (tys' := []) [] rfl).app hK1
  have hK : va_K (dC, dI) vwCl [(cI, .int)] s := hK
  have hP : va_P (dC, dI) vwCl [(d1, .inl (cI, 4100, .inl f_98)), (d2, .inl (cI, 4100, .inl f_115)), (d3, .inl (cI, 4100, .inl f_119)), (qr, .inl (cI, 12, .inl gs1_157)), (qf, .inl (cI, 4040, .inl nf1_158)), (ql, .inl (cI, 4100, .inl lt1_159)), (h0, .inr (14, fs0z_182)), (q1, .inl (cI, 4100, .inl f1z_183)), (q2, .inl (cI, 4100, .inl f2z_184)), (q3, .inl (cI, 4100, .inl f3z_185)), (q4, .inl (cI, 4100, .inl f4z_186))] H := hP
  have hD : va_D A [(d1, .inl (cI, 4100, .inl f_98)), (d2, .inl (cI, 4100, .inl f_115)), (d3, .inl (cI, 4100, .inl f_119)), (qr, .inl (cI, 12, .inl gs1_157)), (qf, .inl (cI, 4040, .inl nf1_158)), (ql, .inl (cI, 4100, .inl lt1_159)), (h0, .inr (14, fs0z_182)), (q1, .inl (cI, 4100, .inl f1z_183)), (q2, .inl (cI, 4100, .inl f2z_184)), (q3, .inl (cI, 4100, .inl f3z_185)), (q4, .inl (cI, 4100, .inl f4z_186))] := hD
  have hF_189 := hF_178.same hE_188 (l' := [(13, .int (nI N1_160)), (45, .int 3), (58, .int r_62), (57, .int r_45), (56, .int r_28), (55, .int 0), (54, .int 0), (53, .int 1000000), (51, .int 0), (41, .int 0), (39, .int 0), (10, .int 1), (34, .int (-1)), (12, .ref qf), (11, .ref ql), (14, .ref qr), (42, .ref d1), (43, .ref d2), (44, .ref d3), (46, .ref q1), (47, .ref q2), (48, .ref q3), (49, .ref q4)]) rfl
  have hF_190 := hF_187.app hF_189
  have hE_191 := hE_179.trans hE_188
  refine lv_aload_n hx hb dX14_firstRound_186 rfl (lv_at hl 1 rfl) ?_
  refine lv_iconst (v := (-1)) hx hb dX14_firstRound_187 (by decide) ?_
  refine lv_iconst (v := (-1)) hx hb dX14_firstRound_188 (by decide) ?_
  refine lv_iconst (v := 1) hx hb dX14_firstRound_189 (by decide) ?_
  refine lv_iconst (v := 2) hx hb dX14_firstRound_190 (by decide) ?_
  have hPc := hP.sub (ws' := [(h0, .inr (14, fs0z_182)), (q1, .inl (cI, 4100, .inl f1z_183)), (q2, .inl (cI, 4100, .inl f2z_184)), (q3, .inl (cI, 4100, .inl f3z_185)), (q4, .inl (cI, 4100, .inl f4z_186))]) [6, 7, 8, 9, 10] rfl
  have hDc := hD.sub (ws' := [(h0, .inr (14, fs0z_182)), (q1, .inl (cI, 4100, .inl f1z_183)), (q2, .inl (cI, 4100, .inl f2z_184)), (q3, .inl (cI, 4100, .inl f3z_185)), (q4, .inl (cI, 4100, .inl f4z_186))]) [6, 7, 8, 9, 10] (by decide) rfl
  have hKc := hK.sub (tys' := [(cI, .int)]) [0] rfl
  have hFc := va_free (wc := [(h0, .inr (14, fs0z_182)), (q1, .inl (cI, 4100, .inl f1z_183)), (q2, .inl (cI, 4100, .inl f2z_184)), (q3, .inl (cI, 4100, .inl f3z_185)), (q4, .inl (cI, 4100, .inl f4z_186))]) hD hS hA [6, 7, 8, 9, 10] rfl
  refine va_callv (va_runV (As := [.int (-1), .int (-1), .int 1, .int 2]) (rest := []) ⟨hx, hb, hml, hown, hts⟩ (c_X14_con l dC dI H.size cI h0 fs0z_182 q1 f1z_183 q2 f2z_184 q3 f3z_185 q4 f4z_186 (((0 + 1) + 1) + 1) (-1) (-1) 1 2 (hF_190.sub [20, 21, 22, 23, 0] rfl) (by omega)) (cwV 4 hts g_c_X14_firstRound_c_X14_con_191 rfl rfl rfl (by decide +kernel) ⟨Nat.le_of_ble_eq_true rfl, Nat.le_of_ble_eq_true rfl⟩) ⟨fun a U g mk q => by obtain ⟨q0, q1, qP, qK, qD⟩ := q; exact ⟨q0, q1, qP, va_K.moved (u := U) (U := U.calling g mk a) (Vm.Alike.refl U.vm) qK, qD⟩, va_recv hKc hPc (ci := 14) (q0 := 0) rfl rfl, fun U hU hW => ⟨rfl, by rw [hU], by rw [hU]; exact hPc, va_K.moved hW.alike hKc, hDc.weaken (fun _ _ _ _ => trivial)⟩⟩ rfl rfl hl.1 rfl (lv_room (Nat.le_of_ble_eq_true rfl)) dX14_firstRound_191 ⟨show 0 + 0 ≤ 0 by decide, show 0 + 0 ≤ 0 by decide⟩) hS (fun q _ h => hFc q h) hFc (fun u t H1 locs ht hvm hw hB hz1 hk1 hS => ?_)
  obtain ⟨fs0z_194, f1z_195, f2z_196, f3z_197, f4z_198⟩ := u
  obtain ⟨hP1, hK1, hD1⟩ := hB
  rw [ht] at hP1
  have hK1 := va_K.moved hvm.symm hK1
  try dsimp only at hw hP1 hK1 hD1
  obtain ⟨hF_199, hE_200⟩ := hw
  obtain ⟨hP, hD⟩ := va_join (wr := [(d1, .inl (cI, 4100, .inl f_98)), (d2, .inl (cI, 4100, .inl f_115)), (d3, .inl (cI, 4100, .inl f_119)), (qr, .inl (cI, 12, .inl gs1_157)), (qf, .inl (cI, 4040, .inl nf1_158)), (ql, .inl (cI, 4100, .inl lt1_159))]) (w1 := [(h0, .inr (14, fs0z_194)), (q1, .inl (cI, 4100, .inl f1z_195)), (q2, .inl (cI, 4100, .inl f2z_196)), (q3, .inl (cI, 4100, .inl f3z_197)), (q4, .inl (cI, 4100, .inl f4z_198))]) hP hD [6, 7, 8, 9, 10] [0, 1, 2, 3, 4, 5] rfl rfl (by decide) (by decide) hk1 hFc hP1 hD1
  generalize H1 = H at hP hS ⊢
  have hK := (hK.sub (tys' := []) [] rfl).app hK1
  have hK : va_K (dC, dI) vwCl [(cI, .int)] s := hK
  have hP : va_P (dC, dI) vwCl [(d1, .inl (cI, 4100, .inl f_98)), (d2, .inl (cI, 4100, .inl f_115)), (d3, .inl (cI, 4100, .inl f_119)), (qr, .inl (cI, 12, .inl gs1_157)), (qf, .inl (cI, 4040, .inl nf1_158)), (ql, .inl (cI, 4100, .inl lt1_159)), (h0, .inr (14, fs0z_194)), (q1, .inl (cI, 4100, .inl f1z_195)), (q2, .inl (cI, 4100, .inl f2z_196)), (q3, .inl (cI, 4100, .inl f3z_197)), (q4, .inl (cI, 4100, .inl f4z_198))] H := hP
  have hD : va_D A [(d1, .inl (cI, 4100, .inl f_98)), (d2, .inl (cI, 4100, .inl f_115)), (d3, .inl (cI, 4100, .inl f_119)), (qr, .inl (cI, 12, .inl gs1_157)), (qf, .inl (cI, 4040, .inl nf1_158)), (ql, .inl (cI, 4100, .inl lt1_159)), (h0, .inr (14, fs0z_194)), (q1, .inl (cI, 4100, .inl f1z_195)), (q2, .inl (cI, 4100, .inl f2z_196)), (q3, .inl (cI, 4100, .inl f3z_197)), (q4, .inl (cI, 4100, .inl f4z_198))] := hD
  have hF_201 := hF_190.same hE_200 (l' := [(13, .int (nI N1_160)), (45, .int 3), (58, .int r_62), (57, .int r_45), (56, .int r_28), (55, .int 0), (54, .int 0), (53, .int 1000000), (51, .int 0), (41, .int 0), (39, .int 0), (10, .int 1), (34, .int (-1)), (12, .ref qf), (11, .ref ql), (14, .ref qr), (42, .ref d1), (43, .ref d2), (44, .ref d3), (46, .ref q1), (47, .ref q2), (48, .ref q3), (49, .ref q4)]) rfl
  have hF_202 := hF_199.app hF_201
  have hE_203 := hE_191.trans hE_200
  refine lv_aload_n hx hb dX14_firstRound_194 rfl (lv_at hl 1 rfl) ?_
  refine lv_iconst (v := (-1)) hx hb dX14_firstRound_195 (by decide) ?_
  refine lv_iconst (v := (-1)) hx hb dX14_firstRound_196 (by decide) ?_
  refine lv_iconst (v := 2) hx hb dX14_firstRound_197 (by decide) ?_
  refine lv_iconst (v := 2) hx hb dX14_firstRound_198 (by decide) ?_
  have hPc := hP.sub (ws' := [(h0, .inr (14, fs0z_194)), (q1, .inl (cI, 4100, .inl f1z_195)), (q2, .inl (cI, 4100, .inl f2z_196)), (q3, .inl (cI, 4100, .inl f3z_197)), (q4, .inl (cI, 4100, .inl f4z_198))]) [6, 7, 8, 9, 10] rfl
  have hDc := hD.sub (ws' := [(h0, .inr (14, fs0z_194)), (q1, .inl (cI, 4100, .inl f1z_195)), (q2, .inl (cI, 4100, .inl f2z_196)), (q3, .inl (cI, 4100, .inl f3z_197)), (q4, .inl (cI, 4100, .inl f4z_198))]) [6, 7, 8, 9, 10] (by decide) rfl
  have hKc := hK.sub (tys' := [(cI, .int)]) [0] rfl
  have hFc := va_free (wc := [(h0, .inr (14, fs0z_194)), (q1, .inl (cI, 4100, .inl f1z_195)), (q2, .inl (cI, 4100, .inl f2z_196)), (q3, .inl (cI, 4100, .inl f3z_197)), (q4, .inl (cI, 4100, .inl f4z_198))]) hD hS hA [6, 7, 8, 9, 10] rfl
  refine va_callv (va_runV (As := [.int (-1), .int (-1), .int 2, .int 2]) (rest := []) ⟨hx, hb, hml, hown, hts⟩ (c_X14_con l dC dI H.size cI h0 fs0z_194 q1 f1z_195 q2 f2z_196 q3 f3z_197 q4 f4z_198 ((((0 + 1) + 1) + 1) + 1) (-1) (-1) 2 2 (hF_202.sub [20, 21, 22, 23, 0] rfl) (by omega)) (cwV 4 hts g_c_X14_firstRound_c_X14_con_199 rfl rfl rfl (by decide +kernel) ⟨Nat.le_of_ble_eq_true rfl, Nat.le_of_ble_eq_true rfl⟩) ⟨fun a U g mk q => by obtain ⟨q0, q1, qP, qK, qD⟩ := q; exact ⟨q0, q1, qP, va_K.moved (u := U) (U := U.calling g mk a) (Vm.Alike.refl U.vm) qK, qD⟩, va_recv hKc hPc (ci := 14) (q0 := 0) rfl rfl, fun U hU hW => ⟨rfl, by rw [hU], by rw [hU]; exact hPc, va_K.moved hW.alike hKc, hDc.weaken (fun _ _ _ _ => trivial)⟩⟩ rfl rfl hl.1 rfl (lv_room (Nat.le_of_ble_eq_true rfl)) dX14_firstRound_199 ⟨show 0 + 0 ≤ 0 by decide, show 0 + 0 ≤ 0 by decide⟩) hS (fun q _ h => hFc q h) hFc (fun u t H1 locs ht hvm hw hB hz1 hk1 hS => ?_)
  obtain ⟨fs0z_206, f1z_207, f2z_208, f3z_209, f4z_210⟩ := u
  obtain ⟨hP1, hK1, hD1⟩ := hB
  rw [ht] at hP1
  have hK1 := va_K.moved hvm.symm hK1
  try dsimp only at hw hP1 hK1 hD1
  obtain ⟨hF_211, hE_212⟩ := hw
  obtain ⟨hP, hD⟩ := va_join (wr := [(d1, .inl (cI, 4100, .inl f_98)), (d2, .inl (cI, 4100, .inl f_115)), (d3, .inl (cI, 4100, .inl f_119)), (qr, .inl (cI, 12, .inl gs1_157)), (qf, .inl (cI, 4040, .inl nf1_158)), (ql, .inl (cI, 4100, .inl lt1_159))]) (w1 := [(h0, .inr (14, fs0z_206)), (q1, .inl (cI, 4100, .inl f1z_207)), (q2, .inl (cI, 4100, .inl f2z_208)), (q3, .inl (cI, 4100, .inl f3z_209)), (q4, .inl (cI, 4100, .inl f4z_210))]) hP hD [6, 7, 8, 9, 10] [0, 1, 2, 3, 4, 5] rfl rfl (by decide) (by decide) hk1 hFc hP1 hD1
  generalize H1 = H at hP hS ⊢
  have hK := (hK.sub (tys' := []) [] rfl).app hK1
  have hK : va_K (dC, dI) vwCl [(cI, .int)] s := hK
  have hP : va_P (dC, dI) vwCl [(d1, .inl (cI, 4100, .inl f_98)), (d2, .inl (cI, 4100, .inl f_115)), (d3, .inl (cI, 4100, .inl f_119)), (qr, .inl (cI, 12, .inl gs1_157)), (qf, .inl (cI, 4040, .inl nf1_158)), (ql, .inl (cI, 4100, .inl lt1_159)), (h0, .inr (14, fs0z_206)), (q1, .inl (cI, 4100, .inl f1z_207)), (q2, .inl (cI, 4100, .inl f2z_208)), (q3, .inl (cI, 4100, .inl f3z_209)), (q4, .inl (cI, 4100, .inl f4z_210))] H := hP
  have hD : va_D A [(d1, .inl (cI, 4100, .inl f_98)), (d2, .inl (cI, 4100, .inl f_115)), (d3, .inl (cI, 4100, .inl f_119)), (qr, .inl (cI, 12, .inl gs1_157)), (qf, .inl (cI, 4040, .inl nf1_158)), (ql, .inl (cI, 4100, .inl lt1_159)), (h0, .inr (14, fs0z_206)), (q1, .inl (cI, 4100, .inl f1z_207)), (q2, .inl (cI, 4100, .inl f2z_208)), (q3, .inl (cI, 4100, .inl f3z_209)), (q4, .inl (cI, 4100, .inl f4z_210))] := hD
  have hF_213 := hF_202.same hE_212 (l' := [(13, .int (nI N1_160)), (45, .int 3), (58, .int r_62), (57, .int r_45), (56, .int r_28), (55, .int 0), (54, .int 0), (53, .int 1000000), (51, .int 0), (41, .int 0), (39, .int 0), (10, .int 1), (34, .int (-1)), (12, .ref qf), (11, .ref ql), (14, .ref qr), (42, .ref d1), (43, .ref d2), (44, .ref d3), (46, .ref q1), (47, .ref q2), (48, .ref q3), (49, .ref q4)]) rfl
  have hF_214 := hF_211.app hF_213
  have hE_215 := hE_203.trans hE_212
  refine lv_aload_n hx hb dX14_firstRound_202 rfl (lv_at hl 1 rfl) ?_
  refine va_get (D := (dC, dI)) (ci := 14) (v := .int (-1)) (C := RX14) (T := TX14) (N := 136) hx hb hts hin_X14 hown hK hP 6 rfl rfl 34 (by decide) (hts (.fieldLink RX14 596 "NeedHouseModel" "program" "I") (List.mem_of_getElem? (i := 70) rfl)) (fun _ h9 => h9) (hF_214.at 13 rfl) dX14_firstRound_203 ?_
  refine lv_istore_n (lv' := [(1, .int (-1)), (0, .ref h0)]) hx hb dX14_firstRound_206 rfl hl (by decide) rfl (fun ls hl => ?_)
  refine lv_iload_n hx hb dX14_firstRound_207 rfl (lv_at hl 0 rfl) ?_
  refine lv_if_lt (tgt := 226) hx hb dX14_firstRound_208 (by decide) (fun _ => ?_) (fun c_216 => absurd (by decide) c_216)
  refine lv_aload_n hx hb dX14_firstRound_226 rfl (lv_at hl 1 rfl) ?_
  refine va_get (D := (dC, dI)) (ci := 14) (v := .int (-1)) (C := RX14) (T := TX14) (N := 136) hx hb hts hin_X14 hown hK hP 6 rfl rfl 34 (by decide) (hts (.fieldLink RX14 596 "NeedHouseModel" "program" "I") (List.mem_of_getElem? (i := 70) rfl)) (fun _ h9 => h9) (hF_214.at 13 rfl) dX14_firstRound_227 ?_
  refine lv_istore_n (lv' := [(1, .int (-1)), (0, .ref h0)]) hx hb dX14_firstRound_230 rfl hl (by decide) rfl (fun ls hl => ?_)
  refine lv_iload_n hx hb dX14_firstRound_231 rfl (lv_at hl 0 rfl) ?_
  refine lv_if_lt (tgt := 269) hx hb dX14_firstRound_232 (by decide) (fun _ => ?_) (fun c_217 => absurd (by decide) c_217)
  refine lv_aload_n hx hb dX14_firstRound_269 rfl (lv_at hl 1 rfl) ?_
  refine lv_aload_n hx hb dX14_firstRound_270 rfl (lv_at hl 1 rfl) ?_
  refine va_get (D := (dC, dI)) (ci := 14) (v := .int r_62) (C := RX14) (T := TX14) (N := 136) hx hb hts hin_X14 hown hK hP 6 rfl rfl 58 (by decide) (hts (.fieldLink RX14 584 "NeedHouseModel" "mainName" "I") (List.mem_of_getElem? (i := 58) rfl)) (fun _ h9 => h9) (hF_214.at 3 rfl) dX14_firstRound_271 ?_
  have hPc := hP.sub (ws' := [(h0, .inr (14, fs0z_206))]) [6] rfl
  have hDc := hD.sub (ws' := [(h0, .inr (14, fs0z_206))]) [6] (by decide) rfl
  have hKc := hK.sub (tys' := []) [] rfl
  have hFc := va_free (wc := [(h0, .inr (14, fs0z_206))]) hD hS hA [6] rfl
  refine va_calli (va_runV (As := [.int r_62]) (rest := []) ⟨hx, hb, hml, hown, hts⟩ (c_X14_meaning l dC dI H.size h0 fs0z_206 r_45 r_62 (hF_214.sub [10, 4] rfl)) (cwV 1 hts g_c_X14_firstRound_c_X14_meaning_274 rfl rfl rfl (by decide +kernel) ⟨Nat.le_of_ble_eq_true rfl, Nat.le_of_ble_eq_true rfl⟩) ⟨fun a U g mk q => by obtain ⟨q0, q1, qP, qK, qD⟩ := q; exact ⟨q0, q1, qP, va_K.moved (u := U) (U := U.calling g mk a) (Vm.Alike.refl U.vm) qK, qD⟩, va_recv hKc hPc (ci := 14) (q0 := 0) rfl rfl, fun U hU hW => ⟨rfl, by rw [hU], by rw [hU]; exact hPc, va_K.moved hW.alike hKc, hDc.weaken (fun _ _ _ _ => trivial)⟩⟩ rfl rfl hl.1 rfl (lv_room (Nat.le_of_ble_eq_true rfl)) dX14_firstRound_274 ⟨show 0 + 0 ≤ 0 by decide, show 0 + 0 ≤ 0 by decide⟩) hS (fun q _ h => hFc q h) hFc (fun r_218 u t H1 locs ht hvm hw hB hz1 hk1 hS => ?_)
  obtain ⟨hP1, hK1, hD1⟩ := hB
  rw [ht] at hP1
  have hK1 := va_K.moved hvm.symm hK1
  try dsimp only at hw hP1 hK1 hD1
  have hr_220 := hw
  obtain ⟨hP, hD⟩ := va_join (wr := [(d1, .inl (cI, 4100, .inl f_98)), (d2, .inl (cI, 4100, .inl f_115)), (d3, .inl (cI, 4100, .inl f_119)), (qr, .inl (cI, 12, .inl gs1_157)), (qf, .inl (cI, 4040, .inl nf1_158)), (ql, .inl (cI, 4100, .inl lt1_159)), (q1, .inl (cI, 4100, .inl f1z_207)), (q2, .inl (cI, 4100, .inl f2z_208)), (q3, .inl (cI, 4100, .inl f3z_209)), (q4, .inl (cI, 4100, .inl f4z_210))]) (w1 := [(h0, .inr (14, fs0z_206))]) hP hD [6] [0, 1, 2, 3, 4, 5, 7, 8, 9, 10] rfl rfl (by decide) (by decide) hk1 hFc hP1 hD1
  generalize H1 = H at hP hS ⊢
  have hK := (hK.sub (tys' := [(cI, .int)]) [0] rfl).app hK1
  have hK : va_K (dC, dI) vwCl [(cI, .int)] s := hK
  have hP : va_P (dC, dI) vwCl [(d1, .inl (cI, 4100, .inl f_98)), (d2, .inl (cI, 4100, .inl f_115)), (d3, .inl (cI, 4100, .inl f_119)), (qr, .inl (cI, 12, .inl gs1_157)), (qf, .inl (cI, 4040, .inl nf1_158)), (ql, .inl (cI, 4100, .inl lt1_159)), (q1, .inl (cI, 4100, .inl f1z_207)), (q2, .inl (cI, 4100, .inl f2z_208)), (q3, .inl (cI, 4100, .inl f3z_209)), (q4, .inl (cI, 4100, .inl f4z_210)), (h0, .inr (14, fs0z_206))] H := hP
  have hD : va_D A [(d1, .inl (cI, 4100, .inl f_98)), (d2, .inl (cI, 4100, .inl f_115)), (d3, .inl (cI, 4100, .inl f_119)), (qr, .inl (cI, 12, .inl gs1_157)), (qf, .inl (cI, 4040, .inl nf1_158)), (ql, .inl (cI, 4100, .inl lt1_159)), (q1, .inl (cI, 4100, .inl f1z_207)), (q2, .inl (cI, 4100, .inl f2z_208)), (q3, .inl (cI, 4100, .inl f3z_209)), (q4, .inl (cI, 4100, .inl f4z_210)), (h0, .inr (14, fs0z_206))] := hD
  refine lv_istore_n (lv' := [(1, .int r_218), (0, .ref h0)]) hx hb dX14_firstRound_277 rfl hl (by decide) rfl (fun ls hl => ?_)
  refine lv_iload_n hx hb dX14_firstRound_278 rfl (lv_at hl 0 rfl) ?_
  refine lv_if_ge (tgt := 293) hx hb dX14_firstRound_279 (by decide) (fun c_221 => absurd c_221 (Int32.not_le.mpr hr_220)) (fun _ => ?_)
  refine lv_aload_n hx hb dX14_firstRound_282 rfl (lv_at hl 1 rfl) ?_
  refine lv_iconst (v := 5) hx hb dX14_firstRound_283 (by decide) ?_
  refine lv_aload_n hx hb dX14_firstRound_284 rfl (lv_at hl 1 rfl) ?_
  refine va_get (D := (dC, dI)) (ci := 14) (v := .int 1) (C := RX14) (T := TX14) (N := 136) hx hb hts hin_X14 hown hK hP 10 rfl rfl 10 (by decide) (hts (.fieldLink RX14 369 "NeedHouseModel" "tokens" "I") (List.mem_of_getElem? (i := 9) rfl)) (fun _ h9 => h9) (hF_214.at 12 rfl) dX14_firstRound_285 ?_
  refine lv_iconst (v := 1) hx hb dX14_firstRound_288 (by decide) ?_
  refine lv_isub hx hb dX14_firstRound_289 ?_
  refine lv_topi (fun x_222 ex_222 => ?_)
  obtain rfl : x_222 = 0 := ex_222.trans (by decide +kernel)
  have hPc := hP.sub (ws' := [(h0, .inr (14, fs0z_206))]) [10] rfl
  have hDc := hD.sub (ws' := [(h0, .inr (14, fs0z_206))]) [10] (by decide) rfl
  have hKc := hK.sub (tys' := []) [] rfl
  have hFc := va_free (wc := [(h0, .inr (14, fs0z_206))]) hD hS hA [10] rfl
  refine va_callv (va_runV (As := [.int 5, .int 0]) (rest := []) ⟨hx, hb, hml, hown, hts⟩ (c_X14_tells l dC dI H.size h0 fs0z_206 (hF_214.sub [8, 7] rfl)) (cwV 2 hts g_c_X14_firstRound_c_X14_tells_290 rfl rfl rfl (by decide +kernel) ⟨Nat.le_of_ble_eq_true rfl, Nat.le_of_ble_eq_true rfl⟩) ⟨fun a U g mk q => by obtain ⟨q0, q1, qP, qK, qD⟩ := q; exact ⟨q0, q1, qP, va_K.moved (u := U) (U := U.calling g mk a) (Vm.Alike.refl U.vm) qK, qD⟩, va_recv hKc hPc (ci := 14) (q0 := 0) rfl rfl, fun U hU hW => ⟨rfl, by rw [hU], by rw [hU]; exact hPc, va_K.moved hW.alike hKc, hDc.weaken (fun _ _ _ _ => trivial)⟩⟩ rfl rfl hl.1 rfl (lv_room (Nat.le_of_ble_eq_true rfl)) dX14_firstRound_290 ⟨show 0 + 0 ≤ 0 by decide, show 0 + 0 ≤ 0 by decide⟩) hS (fun q _ h => hFc q h) hFc (fun u t H1 locs ht hvm hw hB hz1 hk1 hS => ?_)
  obtain ⟨fs0z_225, rfl⟩ : ∃ z, z = u := ⟨_, rfl⟩
  obtain ⟨hP1, hK1, hD1⟩ := hB
  rw [ht] at hP1
  have hK1 := va_K.moved hvm.symm hK1
  try dsimp only at hw hP1 hK1 hD1
  obtain ⟨hF_226, hE_227⟩ := hw
  obtain ⟨hP, hD⟩ := va_join (wr := [(d1, .inl (cI, 4100, .inl f_98)), (d2, .inl (cI, 4100, .inl f_115)), (d3, .inl (cI, 4100, .inl f_119)), (qr, .inl (cI, 12, .inl gs1_157)), (qf, .inl (cI, 4040, .inl nf1_158)), (ql, .inl (cI, 4100, .inl lt1_159)), (q1, .inl (cI, 4100, .inl f1z_207)), (q2, .inl (cI, 4100, .inl f2z_208)), (q3, .inl (cI, 4100, .inl f3z_209)), (q4, .inl (cI, 4100, .inl f4z_210))]) (w1 := [(h0, .inr (14, fs0z_225))]) hP hD [10] [0, 1, 2, 3, 4, 5, 6, 7, 8, 9] rfl rfl (by decide) (by decide) hk1 hFc hP1 hD1
  generalize H1 = H at hP hS ⊢
  have hK := (hK.sub (tys' := [(cI, .int)]) [0] rfl).app hK1
  have hK : va_K (dC, dI) vwCl [(cI, .int)] s := hK
  have hP : va_P (dC, dI) vwCl [(d1, .inl (cI, 4100, .inl f_98)), (d2, .inl (cI, 4100, .inl f_115)), (d3, .inl (cI, 4100, .inl f_119)), (qr, .inl (cI, 12, .inl gs1_157)), (qf, .inl (cI, 4040, .inl nf1_158)), (ql, .inl (cI, 4100, .inl lt1_159)), (q1, .inl (cI, 4100, .inl f1z_207)), (q2, .inl (cI, 4100, .inl f2z_208)), (q3, .inl (cI, 4100, .inl f3z_209)), (q4, .inl (cI, 4100, .inl f4z_210)), (h0, .inr (14, fs0z_225))] H := hP
  have hD : va_D A [(d1, .inl (cI, 4100, .inl f_98)), (d2, .inl (cI, 4100, .inl f_115)), (d3, .inl (cI, 4100, .inl f_119)), (qr, .inl (cI, 12, .inl gs1_157)), (qf, .inl (cI, 4040, .inl nf1_158)), (ql, .inl (cI, 4100, .inl lt1_159)), (q1, .inl (cI, 4100, .inl f1z_207)), (q2, .inl (cI, 4100, .inl f2z_208)), (q3, .inl (cI, 4100, .inl f3z_209)), (q4, .inl (cI, 4100, .inl f4z_210)), (h0, .inr (14, fs0z_225))] := hD
  have hF_228 := hF_214.same hE_227 (l' := [(50, .int (nI (((((0 + 1) + 1) + 1) + 1) + 1))), (13, .int (nI N1_160)), (45, .int 3), (58, .int r_62), (57, .int r_45), (56, .int r_28), (55, .int 0), (51, .int 0), (41, .int 0), (39, .int 0), (10, .int 1), (34, .int (-1)), (12, .ref qf), (11, .ref ql), (14, .ref qr), (42, .ref d1), (43, .ref d2), (44, .ref d3), (46, .ref q1), (47, .ref q2), (48, .ref q3), (49, .ref q4)]) rfl
  have hF_229 := hF_226.app hF_228
  have hE_230 := hE_215.trans hE_227
  refine lv_aload_n hx hb dX14_firstRound_293 rfl (lv_at hl 1 rfl) ?_
  refine lv_aload_n hx hb dX14_firstRound_294 rfl (lv_at hl 1 rfl) ?_
  refine va_get (D := (dC, dI)) (ci := 14) (v := .int 0) (C := RX14) (T := TX14) (N := 136) hx hb hts hin_X14 hown hK hP 10 rfl rfl 51 (by decide) (hts (.fieldLink RX14 571 "NeedHouseModel" "definitions" "I") (List.mem_of_getElem? (i := 5) rfl)) (fun _ h9 => h9) (hF_229.at 9 rfl) dX14_firstRound_295 ?_
  refine lv_bipush (v := 60) hx hb dX14_firstRound_298 (by decide) ?_
  refine lv_icmp_gt (tgt := 331) hx hb dX14_firstRound_300 (by decide) (fun c_231 => absurd c_231 (by decide)) (fun _ => ?_)
  refine lv_aload_n hx hb dX14_firstRound_303 rfl (lv_at hl 1 rfl) ?_
  refine va_get (D := (dC, dI)) (ci := 14) (v := .int 0) (C := RX14) (T := TX14) (N := 136) hx hb hts hin_X14 hown hK hP 10 rfl rfl 39 (by decide) (hts (.fieldLink RX14 547 "NeedHouseModel" "told" "I") (List.mem_of_getElem? (i := 1) rfl)) (fun _ h9 => h9) (hF_229.at 11 rfl) dX14_firstRound_304 ?_
  refine lv_sipush (v := 300) hx hb dX14_firstRound_307 (by decide) ?_
  refine lv_icmp_gt (tgt := 331) hx hb dX14_firstRound_310 (by decide) (fun c_232 => absurd c_232 (by decide)) (fun _ => ?_)
  refine lv_aload_n hx hb dX14_firstRound_313 rfl (lv_at hl 1 rfl) ?_
  refine va_get (D := (dC, dI)) (ci := 14) (v := .int 3) (C := RX14) (T := TX14) (N := 136) hx hb hts hin_X14 hown hK hP 10 rfl rfl 45 (by decide) (hts (.fieldLink RX14 558 "NeedHouseModel" "datas" "I") (List.mem_of_getElem? (i := 3) rfl)) (fun _ h9 => h9) (hF_229.at 4 rfl) dX14_firstRound_314 ?_
  refine lv_bipush (v := 33) hx hb dX14_firstRound_317 (by decide) ?_
  refine lv_icmp_gt (tgt := 331) hx hb dX14_firstRound_319 (by decide) (fun c_233 => absurd c_233 (by decide)) (fun _ => ?_)
  have hF_234 : hasF fs0z_225 136 [(53, .int 0), (54, .int 5), (50, .int 5), (13, .int (nI N1_160)), (45, .int 3), (58, .int r_62), (57, .int r_45), (56, .int r_28), (55, .int 0), (51, .int 0), (41, .int 0), (39, .int 0), (10, .int 1), (34, .int (-1)), (12, .ref qf), (11, .ref ql), (14, .ref qr), (42, .ref d1), (43, .ref d2), (44, .ref d3), (46, .ref q1), (47, .ref q2), (48, .ref q3), (49, .ref q4)] := hF_229
  refine lv_aload_n hx hb dX14_firstRound_322 rfl (lv_at hl 1 rfl) ?_
  refine va_get (D := (dC, dI)) (ci := 14) (v := .int 5) (C := RX14) (T := TX14) (N := 136) hx hb hts hin_X14 hown hK hP 10 rfl rfl 50 (by decide) (hts (.fieldLink RX14 544 "NeedHouseModel" "cons" "I") (List.mem_of_getElem? (i := 4) rfl)) (fun _ h9 => h9) (hF_234.at 2 rfl) dX14_firstRound_323 ?_
  refine lv_bipush (v := 65) hx hb dX14_firstRound_326 (by decide) ?_
  refine lv_icmp_le (tgt := 335) hx hb dX14_firstRound_328 (by decide) (fun _ => ?_) (fun c_235 => absurd (by decide) c_235)
  refine lv_iconst (v := 0) hx hb dX14_firstRound_335 (by decide) ?_
  have hPc := hP.sub (ws' := [(h0, .inr (14, fs0z_225))]) [10] rfl
  have hDc := hD.sub (ws' := [(h0, .inr (14, fs0z_225))]) [10] (by decide) rfl
  have hKc := hK.sub (tys' := []) [] rfl
  have hFc := va_free (wc := [(h0, .inr (14, fs0z_225))]) hD hS hA [10] rfl
  refine va_callv (va_runV (As := [.int 0]) (rest := []) ⟨hx, hb, hml, hown, hts⟩ (c_X14_limit l dC dI H.size h0 fs0z_225 (hF_234.sub [8] rfl)) (cwV 1 hts g_c_X14_firstRound_c_X14_limit_336 rfl rfl rfl (by decide +kernel) ⟨Nat.le_of_ble_eq_true rfl, Nat.le_of_ble_eq_true rfl⟩) ⟨fun a U g mk q => by obtain ⟨q0, q1, qP, qK, qD⟩ := q; exact ⟨q0, q1, qP, va_K.moved (u := U) (U := U.calling g mk a) (Vm.Alike.refl U.vm) qK, qD⟩, va_recv hKc hPc (ci := 14) (q0 := 0) rfl rfl, fun U hU hW => ⟨rfl, by rw [hU], by rw [hU]; exact hPc, va_K.moved hW.alike hKc, hDc.weaken (fun _ _ _ _ => trivial)⟩⟩ rfl rfl hl.1 rfl (lv_room (Nat.le_of_ble_eq_true rfl)) dX14_firstRound_336 ⟨show 0 + 0 ≤ 0 by decide, show 0 + 0 ≤ 0 by decide⟩) hS (fun q _ h => hFc q h) hFc (fun u t H1 locs ht hvm hw hB hz1 hk1 hS => ?_)
  obtain ⟨fs0z_238, rfl⟩ : ∃ z, z = u := ⟨_, rfl⟩
  obtain ⟨hP1, hK1, hD1⟩ := hB
  rw [ht] at hP1
  have hK1 := va_K.moved hvm.symm hK1
  try dsimp only at hw hP1 hK1 hD1
  obtain ⟨hF_239, hE_240⟩ := hw
  obtain ⟨hP, hD⟩ := va_join (wr := [(d1, .inl (cI, 4100, .inl f_98)), (d2, .inl (cI, 4100, .inl f_115)), (d3, .inl (cI, 4100, .inl f_119)), (qr, .inl (cI, 12, .inl gs1_157)), (qf, .inl (cI, 4040, .inl nf1_158)), (ql, .inl (cI, 4100, .inl lt1_159)), (q1, .inl (cI, 4100, .inl f1z_207)), (q2, .inl (cI, 4100, .inl f2z_208)), (q3, .inl (cI, 4100, .inl f3z_209)), (q4, .inl (cI, 4100, .inl f4z_210))]) (w1 := [(h0, .inr (14, fs0z_238))]) hP hD [10] [0, 1, 2, 3, 4, 5, 6, 7, 8, 9] rfl rfl (by decide) (by decide) hk1 hFc hP1 hD1
  generalize H1 = H at hP hS ⊢
  have hK := (hK.sub (tys' := [(cI, .int)]) [0] rfl).app hK1
  have hK : va_K (dC, dI) vwCl [(cI, .int)] s := hK
  have hP : va_P (dC, dI) vwCl [(d1, .inl (cI, 4100, .inl f_98)), (d2, .inl (cI, 4100, .inl f_115)), (d3, .inl (cI, 4100, .inl f_119)), (qr, .inl (cI, 12, .inl gs1_157)), (qf, .inl (cI, 4040, .inl nf1_158)), (ql, .inl (cI, 4100, .inl lt1_159)), (q1, .inl (cI, 4100, .inl f1z_207)), (q2, .inl (cI, 4100, .inl f2z_208)), (q3, .inl (cI, 4100, .inl f3z_209)), (q4, .inl (cI, 4100, .inl f4z_210)), (h0, .inr (14, fs0z_238))] H := hP
  have hD : va_D A [(d1, .inl (cI, 4100, .inl f_98)), (d2, .inl (cI, 4100, .inl f_115)), (d3, .inl (cI, 4100, .inl f_119)), (qr, .inl (cI, 12, .inl gs1_157)), (qf, .inl (cI, 4040, .inl nf1_158)), (ql, .inl (cI, 4100, .inl lt1_159)), (q1, .inl (cI, 4100, .inl f1z_207)), (q2, .inl (cI, 4100, .inl f2z_208)), (q3, .inl (cI, 4100, .inl f3z_209)), (q4, .inl (cI, 4100, .inl f4z_210)), (h0, .inr (14, fs0z_238))] := hD
  have hF_241 := hF_234.same hE_240 (l' := [(53, .int 0), (54, .int 5), (50, .int 5), (13, .int (nI N1_160)), (45, .int 3), (58, .int r_62), (57, .int r_45), (56, .int r_28), (51, .int 0), (41, .int 0), (39, .int 0), (10, .int 1), (34, .int (-1)), (12, .ref qf), (11, .ref ql), (14, .ref qr), (42, .ref d1), (43, .ref d2), (44, .ref d3), (46, .ref q1), (47, .ref q2), (48, .ref q3), (49, .ref q4)]) rfl
  have hF_242 := hF_239.app hF_241
  have hE_243 := hE_230.trans hE_240
  have hP9 := hP.sub (ws' := [(h0, .inr (14, fs0z_238)), (qr, .inl (cI, 12, .inl gs1_157)), (qf, .inl (cI, 4040, .inl nf1_158)), (ql, .inl (cI, 4100, .inl lt1_159)), (d1, .inl (cI, 4100, .inl f_98)), (d2, .inl (cI, 4100, .inl f_115)), (d3, .inl (cI, 4100, .inl f_119)), (q1, .inl (cI, 4100, .inl f1z_207)), (q2, .inl (cI, 4100, .inl f2z_208)), (q3, .inl (cI, 4100, .inl f3z_209)), (q4, .inl (cI, 4100, .inl f4z_210))]) [10, 3, 4, 5, 0, 1, 2, 6, 7, 8, 9] rfl
  have hD9 := hD.sub (ws' := [(h0, .inr (14, fs0z_238)), (qr, .inl (cI, 12, .inl gs1_157)), (qf, .inl (cI, 4040, .inl nf1_158)), (ql, .inl (cI, 4100, .inl lt1_159)), (d1, .inl (cI, 4100, .inl f_98)), (d2, .inl (cI, 4100, .inl f_115)), (d3, .inl (cI, 4100, .inl f_119)), (q1, .inl (cI, 4100, .inl f1z_207)), (q2, .inl (cI, 4100, .inl f2z_208)), (q3, .inl (cI, 4100, .inl f3z_209)), (q4, .inl (cI, 4100, .inl f4z_210))]) [10, 3, 4, 5, 0, 1, 2, 6, 7, 8, 9] (by decide) rfl
  have hK9 := hK.sub (tys' := [(cI, .int)]) [0] rfl
  exact W.vret hx hb hr (fun t ht hW => ⟨⟨((fs0z_238, gs1_157, nf1_158, lt1_159, f_98, f_115, f_119, f1z_207, f2z_208, f3z_209, f4z_210)), rfl, ⟨hF_242.sub [1, 2] rfl, hE_243.mono (by decide)⟩, by rw [ht]; exact hP9, va_K.moved hW.alike hK9, hD9⟩, hS.F ht⟩) hS.2.2 dX14_firstRound_339
