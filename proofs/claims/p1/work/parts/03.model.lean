theorem dX14_put_0 : decode cX14_put 0 = .ok (.bipush 24, 2) := by decide +kernel
theorem dX14_put_2 : decode cX14_put 2 = .ok (.istore_n 2, 1) := by decide +kernel
theorem dX14_put_3 : decode cX14_put 3 = .ok (.iload_n 2, 1) := by decide +kernel
theorem dX14_put_4 : decode cX14_put 4 = .ok (.ifCond .lt 35, 3) := by decide +kernel
theorem dX14_put_7 : decode cX14_put 7 = .ok (.aload_n 0, 1) := by decide +kernel
theorem dX14_put_8 : decode cX14_put 8 = .ok (.getfield 16, 3) := by decide +kernel
theorem dX14_put_11 : decode cX14_put 11 = .ok (.aload_n 0, 1) := by decide +kernel
theorem dX14_put_12 : decode cX14_put 12 = .ok (.getfield 333, 3) := by decide +kernel
theorem dX14_put_15 : decode cX14_put 15 = .ok (.iload_n 1, 1) := by decide +kernel
theorem dX14_put_16 : decode cX14_put 16 = .ok (.iload_n 2, 1) := by decide +kernel
theorem dX14_put_17 : decode cX14_put 17 = .ok (.ishr, 1) := by decide +kernel
theorem dX14_put_18 : decode cX14_put 18 = .ok (.sipush 255, 3) := by decide +kernel
theorem dX14_put_21 : decode cX14_put 21 = .ok (.iand, 1) := by decide +kernel
theorem dX14_put_22 : decode cX14_put 22 = .ok (.iastore, 1) := by decide +kernel
theorem dX14_put_23 : decode cX14_put 23 = .ok (.aload_n 0, 1) := by decide +kernel
theorem dX14_put_24 : decode cX14_put 24 = .ok (.dup, 1) := by decide +kernel
theorem dX14_put_25 : decode cX14_put 25 = .ok (.getfield 333, 3) := by decide +kernel
theorem dX14_put_28 : decode cX14_put 28 = .ok (.iconst 1, 1) := by decide +kernel
theorem dX14_put_29 : decode cX14_put 29 = .ok (.iadd, 1) := by decide +kernel
theorem dX14_put_30 : decode cX14_put 30 = .ok (.putfield 333, 3) := by decide +kernel
theorem dX14_put_33 : decode cX14_put 33 = .ok (.iinc 2 (-8), 3) := by decide +kernel
theorem dX14_put_36 : decode cX14_put 36 = .ok (.goto (-33), 3) := by decide +kernel
theorem dX14_put_39 : decode cX14_put 39 = .ok (.return_, 1) := by decide +kernel
theorem dX14_feed_0 : decode cX14_feed 0 = .ok (.aload_n 0, 1) := by decide +kernel
theorem dX14_feed_1 : decode cX14_feed 1 = .ok (.iconst 0, 1) := by decide +kernel
theorem dX14_feed_2 : decode cX14_feed 2 = .ok (.putfield 329, 3) := by decide +kernel
theorem dX14_feed_5 : decode cX14_feed 5 = .ok (.aload_n 0, 1) := by decide +kernel
theorem dX14_feed_6 : decode cX14_feed 6 = .ok (.getfield 333, 3) := by decide +kernel
theorem dX14_feed_9 : decode cX14_feed 9 = .ok (.bipush 20, 2) := by decide +kernel
theorem dX14_feed_11 : decode cX14_feed 11 = .ok (.iadd, 1) := by decide +kernel
theorem dX14_feed_12 : decode cX14_feed 12 = .ok (.sipush 4000, 3) := by decide +kernel
theorem dX14_feed_15 : decode cX14_feed 15 = .ok (.if_icmp .le 5, 3) := by decide +kernel
theorem dX14_feed_18 : decode cX14_feed 18 = .ok (.iconst (-1), 1) := by decide +kernel
theorem dX14_feed_19 : decode cX14_feed 19 = .ok (.ireturn, 1) := by decide +kernel
theorem dX14_feed_20 : decode cX14_feed 20 = .ok (.aload_n 0, 1) := by decide +kernel
theorem dX14_feed_21 : decode cX14_feed 21 = .ok (.iload_n 1, 1) := by decide +kernel
theorem dX14_feed_22 : decode cX14_feed 22 = .ok (.invokevirtual 336, 3) := by decide +kernel
theorem dX14_feed_25 : decode cX14_feed 25 = .ok (.aload_n 0, 1) := by decide +kernel
theorem dX14_feed_26 : decode cX14_feed 26 = .ok (.iload_n 2, 1) := by decide +kernel
theorem dX14_feed_27 : decode cX14_feed 27 = .ok (.invokevirtual 336, 3) := by decide +kernel
theorem dX14_feed_30 : decode cX14_feed 30 = .ok (.aload_n 0, 1) := by decide +kernel
theorem dX14_feed_31 : decode cX14_feed 31 = .ok (.iload_n 3, 1) := by decide +kernel
theorem dX14_feed_32 : decode cX14_feed 32 = .ok (.invokevirtual 336, 3) := by decide +kernel
theorem dX14_feed_35 : decode cX14_feed 35 = .ok (.aload_n 0, 1) := by decide +kernel
theorem dX14_feed_36 : decode cX14_feed 36 = .ok (.iload 4, 2) := by decide +kernel
theorem dX14_feed_38 : decode cX14_feed 38 = .ok (.invokevirtual 336, 3) := by decide +kernel
theorem dX14_feed_41 : decode cX14_feed 41 = .ok (.aload_n 0, 1) := by decide +kernel
theorem dX14_feed_42 : decode cX14_feed 42 = .ok (.iload 5, 2) := by decide +kernel
theorem dX14_feed_44 : decode cX14_feed 44 = .ok (.invokevirtual 336, 3) := by decide +kernel
theorem dX14_feed_47 : decode cX14_feed 47 = .ok (.aload_n 0, 1) := by decide +kernel
theorem dX14_feed_48 : decode cX14_feed 48 = .ok (.getfield 333, 3) := by decide +kernel
theorem dX14_feed_51 : decode cX14_feed 51 = .ok (.ireturn, 1) := by decide +kernel
theorem dX14_back_0 : decode cX14_back 0 = .ok (.aload_n 0, 1) := by decide +kernel
theorem dX14_back_1 : decode cX14_back 1 = .ok (.iconst 0, 1) := by decide +kernel
theorem dX14_back_2 : decode cX14_back 2 = .ok (.putfield 329, 3) := by decide +kernel
theorem dX14_back_5 : decode cX14_back 5 = .ok (.iload_n 1, 1) := by decide +kernel
theorem dX14_back_6 : decode cX14_back 6 = .ok (.ifCond .lt 11, 3) := by decide +kernel
theorem dX14_back_9 : decode cX14_back 9 = .ok (.iload_n 1, 1) := by decide +kernel
theorem dX14_back_10 : decode cX14_back 10 = .ok (.aload_n 0, 1) := by decide +kernel
theorem dX14_back_11 : decode cX14_back 11 = .ok (.getfield 333, 3) := by decide +kernel
theorem dX14_back_14 : decode cX14_back 14 = .ok (.if_icmp .le 5, 3) := by decide +kernel
theorem dX14_back_17 : decode cX14_back 17 = .ok (.iconst (-1), 1) := by decide +kernel
theorem dX14_back_18 : decode cX14_back 18 = .ok (.ireturn, 1) := by decide +kernel
theorem dX14_back_19 : decode cX14_back 19 = .ok (.aload_n 0, 1) := by decide +kernel
theorem dX14_back_20 : decode cX14_back 20 = .ok (.dup, 1) := by decide +kernel
theorem dX14_back_21 : decode cX14_back 21 = .ok (.getfield 333, 3) := by decide +kernel
theorem dX14_back_24 : decode cX14_back 24 = .ok (.iload_n 1, 1) := by decide +kernel
theorem dX14_back_25 : decode cX14_back 25 = .ok (.isub, 1) := by decide +kernel
theorem dX14_back_26 : decode cX14_back 26 = .ok (.putfield 333, 3) := by decide +kernel
theorem dX14_back_29 : decode cX14_back 29 = .ok (.aload_n 0, 1) := by decide +kernel
theorem dX14_back_30 : decode cX14_back 30 = .ok (.getfield 333, 3) := by decide +kernel
theorem dX14_back_33 : decode cX14_back 33 = .ok (.ireturn, 1) := by decide +kernel
theorem dX14_thrown_0 : decode cX14_thrown 0 = .ok (.aload_n 0, 1) := by decide +kernel
theorem dX14_thrown_1 : decode cX14_thrown 1 = .ok (.getfield 329, 3) := by decide +kernel
theorem dX14_thrown_4 : decode cX14_thrown 4 = .ok (.ireturn, 1) := by decide +kernel
theorem dX14_count_0 : decode cX14_count 0 = .ok (.aload_n 0, 1) := by decide +kernel
theorem dX14_count_1 : decode cX14_count 1 = .ok (.iconst 0, 1) := by decide +kernel
theorem dX14_count_2 : decode cX14_count 2 = .ok (.putfield 329, 3) := by decide +kernel
theorem dX14_count_5 : decode cX14_count 5 = .ok (.iload_n 1, 1) := by decide +kernel
theorem dX14_count_6 : decode cX14_count 6 = .ok (.ifCond .lt 9, 3) := by decide +kernel
theorem dX14_count_9 : decode cX14_count 9 = .ok (.iload_n 1, 1) := by decide +kernel
theorem dX14_count_10 : decode cX14_count 10 = .ok (.bipush 12, 2) := by decide +kernel
theorem dX14_count_12 : decode cX14_count 12 = .ok (.if_icmp .le 5, 3) := by decide +kernel
theorem dX14_count_15 : decode cX14_count 15 = .ok (.iconst (-1), 1) := by decide +kernel
theorem dX14_count_16 : decode cX14_count 16 = .ok (.ireturn, 1) := by decide +kernel
theorem dX14_count_17 : decode cX14_count 17 = .ok (.aload_n 0, 1) := by decide +kernel
theorem dX14_count_18 : decode cX14_count 18 = .ok (.getfield 844, 3) := by decide +kernel
theorem dX14_count_21 : decode cX14_count 21 = .ok (.ifCond .eq 15, 3) := by decide +kernel
theorem dX14_count_24 : decode cX14_count 24 = .ok (.iload_n 1, 1) := by decide +kernel
theorem dX14_count_25 : decode cX14_count 25 = .ok (.iconst 4, 1) := by decide +kernel
theorem dX14_count_26 : decode cX14_count 26 = .ok (.if_icmp .le 12, 3) := by decide +kernel
theorem dX14_count_29 : decode cX14_count 29 = .ok (.aload_n 0, 1) := by decide +kernel
theorem dX14_count_30 : decode cX14_count 30 = .ok (.getfield 847, 3) := by decide +kernel
theorem dX14_count_33 : decode cX14_count 33 = .ok (.ifCond .ne 5, 3) := by decide +kernel
theorem dX14_count_36 : decode cX14_count 36 = .ok (.iconst 0, 1) := by decide +kernel
theorem dX14_count_37 : decode cX14_count 37 = .ok (.ireturn, 1) := by decide +kernel
theorem dX14_count_38 : decode cX14_count 38 = .ok (.iload_n 1, 1) := by decide +kernel
theorem dX14_count_39 : decode cX14_count 39 = .ok (.tableswitch 165 0 11 #[61, 66, 71, 76, 83, 88, 93, 98, 103, 108, 143, 160], 61) := by decide +kernel
theorem dX14_count_100 : decode cX14_count 100 = .ok (.aload_n 0, 1) := by decide +kernel
theorem dX14_count_101 : decode cX14_count 101 = .ok (.getfield 853, 3) := by decide +kernel
theorem dX14_count_104 : decode cX14_count 104 = .ok (.ireturn, 1) := by decide +kernel
theorem dX14_count_105 : decode cX14_count 105 = .ok (.aload_n 0, 1) := by decide +kernel
theorem dX14_count_106 : decode cX14_count 106 = .ok (.getfield 571, 3) := by decide +kernel
theorem dX14_count_109 : decode cX14_count 109 = .ok (.ireturn, 1) := by decide +kernel
theorem dX14_count_110 : decode cX14_count 110 = .ok (.aload_n 0, 1) := by decide +kernel
theorem dX14_count_111 : decode cX14_count 111 = .ok (.getfield 547, 3) := by decide +kernel
theorem dX14_count_114 : decode cX14_count 114 = .ok (.ireturn, 1) := by decide +kernel
theorem dX14_count_115 : decode cX14_count 115 = .ok (.aload_n 0, 1) := by decide +kernel
theorem dX14_count_116 : decode cX14_count 116 = .ok (.getfield 544, 3) := by decide +kernel
theorem dX14_count_119 : decode cX14_count 119 = .ok (.iconst 5, 1) := by decide +kernel
theorem dX14_count_120 : decode cX14_count 120 = .ok (.isub, 1) := by decide +kernel
theorem dX14_count_121 : decode cX14_count 121 = .ok (.ireturn, 1) := by decide +kernel
theorem dX14_count_122 : decode cX14_count 122 = .ok (.aload_n 0, 1) := by decide +kernel
theorem dX14_count_123 : decode cX14_count 123 = .ok (.getfield 783, 3) := by decide +kernel
theorem dX14_count_126 : decode cX14_count 126 = .ok (.ireturn, 1) := by decide +kernel
theorem dX14_count_127 : decode cX14_count 127 = .ok (.aload_n 0, 1) := by decide +kernel
theorem dX14_count_128 : decode cX14_count 128 = .ok (.getfield 847, 3) := by decide +kernel
theorem dX14_count_131 : decode cX14_count 131 = .ok (.ireturn, 1) := by decide +kernel
theorem dX14_count_132 : decode cX14_count 132 = .ok (.aload_n 0, 1) := by decide +kernel
theorem dX14_count_133 : decode cX14_count 133 = .ok (.getfield 966, 3) := by decide +kernel
theorem dX14_count_136 : decode cX14_count 136 = .ok (.ireturn, 1) := by decide +kernel
theorem dX14_count_137 : decode cX14_count 137 = .ok (.aload_n 0, 1) := by decide +kernel
theorem dX14_count_138 : decode cX14_count 138 = .ok (.getfield 934, 3) := by decide +kernel
theorem dX14_count_141 : decode cX14_count 141 = .ok (.ireturn, 1) := by decide +kernel
theorem dX14_count_142 : decode cX14_count 142 = .ok (.aload_n 0, 1) := by decide +kernel
theorem dX14_count_143 : decode cX14_count 143 = .ok (.getfield 969, 3) := by decide +kernel
theorem dX14_count_146 : decode cX14_count 146 = .ok (.ireturn, 1) := by decide +kernel
theorem dX14_count_147 : decode cX14_count 147 = .ok (.aload_n 0, 1) := by decide +kernel
theorem dX14_count_148 : decode cX14_count 148 = .ok (.getfield 847, 3) := by decide +kernel
theorem dX14_count_151 : decode cX14_count 151 = .ok (.iconst 1, 1) := by decide +kernel
theorem dX14_count_152 : decode cX14_count 152 = .ok (.if_icmp .eq 5, 3) := by decide +kernel
theorem dX14_count_155 : decode cX14_count 155 = .ok (.iconst 0, 1) := by decide +kernel
theorem dX14_count_156 : decode cX14_count 156 = .ok (.ireturn, 1) := by decide +kernel
theorem dX14_count_157 : decode cX14_count 157 = .ok (.aload_n 0, 1) := by decide +kernel
theorem dX14_count_158 : decode cX14_count 158 = .ok (.aload_n 0, 1) := by decide +kernel
theorem dX14_count_159 : decode cX14_count 159 = .ok (.getfield 919, 3) := by decide +kernel
theorem dX14_count_162 : decode cX14_count 162 = .ok (.ifCond .eq 7, 3) := by decide +kernel
theorem dX14_count_165 : decode cX14_count 165 = .ok (.iconst (-1), 1) := by decide +kernel
theorem dX14_count_166 : decode cX14_count 166 = .ok (.goto 7, 3) := by decide +kernel
theorem dX14_count_169 : decode cX14_count 169 = .ok (.aload_n 0, 1) := by decide +kernel
theorem dX14_count_170 : decode cX14_count 170 = .ok (.getfield 984, 3) := by decide +kernel
theorem dX14_count_173 : decode cX14_count 173 = .ok (.iconst 0, 1) := by decide +kernel
theorem dX14_count_174 : decode cX14_count 174 = .ok (.invokevirtual 898, 3) := by decide +kernel
theorem dX14_count_177 : decode cX14_count 177 = .ok (.aload_n 0, 1) := by decide +kernel
theorem dX14_count_178 : decode cX14_count 178 = .ok (.getfield 892, 3) := by decide +kernel
theorem dX14_count_181 : decode cX14_count 181 = .ok (.ireturn, 1) := by decide +kernel
theorem dX14_count_182 : decode cX14_count 182 = .ok (.aload_n 0, 1) := by decide +kernel
theorem dX14_count_183 : decode cX14_count 183 = .ok (.getfield 847, 3) := by decide +kernel
theorem dX14_count_186 : decode cX14_count 186 = .ok (.iconst 1, 1) := by decide +kernel
theorem dX14_count_187 : decode cX14_count 187 = .ok (.if_icmp .ne 10, 3) := by decide +kernel
theorem dX14_count_190 : decode cX14_count 190 = .ok (.aload_n 0, 1) := by decide +kernel
theorem dX14_count_191 : decode cX14_count 191 = .ok (.getfield 925, 3) := by decide +kernel
theorem dX14_count_194 : decode cX14_count 194 = .ok (.goto 4, 3) := by decide +kernel
theorem dX14_count_197 : decode cX14_count 197 = .ok (.iconst 0, 1) := by decide +kernel
theorem dX14_count_198 : decode cX14_count 198 = .ok (.ireturn, 1) := by decide +kernel
theorem dX14_count_199 : decode cX14_count 199 = .ok (.aload_n 0, 1) := by decide +kernel
theorem dX14_count_200 : decode cX14_count 200 = .ok (.getfield 972, 3) := by decide +kernel
theorem dX14_count_203 : decode cX14_count 203 = .ok (.ireturn, 1) := by decide +kernel
theorem dX14_count_204 : decode cX14_count 204 = .ok (.aload_n 0, 1) := by decide +kernel
theorem dX14_count_205 : decode cX14_count 205 = .ok (.getfield 975, 3) := by decide +kernel
theorem dX14_count_208 : decode cX14_count 208 = .ok (.ireturn, 1) := by decide +kernel
theorem dX14_isDefinition_0 : decode cX14_isDefinition 0 = .ok (.aload_n 0, 1) := by decide +kernel
theorem dX14_isDefinition_1 : decode cX14_isDefinition 1 = .ok (.getfield 844, 3) := by decide +kernel
theorem dX14_isDefinition_4 : decode cX14_isDefinition 4 = .ok (.ifCond .eq 19, 3) := by decide +kernel
theorem dX14_isDefinition_7 : decode cX14_isDefinition 7 = .ok (.iload_n 1, 1) := by decide +kernel
theorem dX14_isDefinition_8 : decode cX14_isDefinition 8 = .ok (.ifCond .lt 15, 3) := by decide +kernel
theorem dX14_isDefinition_11 : decode cX14_isDefinition 11 = .ok (.iload_n 1, 1) := by decide +kernel
theorem dX14_isDefinition_12 : decode cX14_isDefinition 12 = .ok (.aload_n 0, 1) := by decide +kernel
theorem dX14_isDefinition_13 : decode cX14_isDefinition 13 = .ok (.getfield 571, 3) := by decide +kernel
theorem dX14_isDefinition_16 : decode cX14_isDefinition 16 = .ok (.if_icmp .ge 7, 3) := by decide +kernel
theorem dX14_isDefinition_19 : decode cX14_isDefinition 19 = .ok (.iconst 1, 1) := by decide +kernel
theorem dX14_isDefinition_20 : decode cX14_isDefinition 20 = .ok (.goto 4, 3) := by decide +kernel
theorem dX14_isDefinition_23 : decode cX14_isDefinition 23 = .ok (.iconst 0, 1) := by decide +kernel
theorem dX14_isDefinition_24 : decode cX14_isDefinition 24 = .ok (.ireturn, 1) := by decide +kernel
theorem dX14_sign_0 : decode cX14_sign 0 = .ok (.aload_n 0, 1) := by decide +kernel
theorem dX14_sign_1 : decode cX14_sign 1 = .ok (.iconst 0, 1) := by decide +kernel
theorem dX14_sign_2 : decode cX14_sign 2 = .ok (.putfield 329, 3) := by decide +kernel
theorem dX14_sign_5 : decode cX14_sign 5 = .ok (.aload_n 0, 1) := by decide +kernel
theorem dX14_sign_6 : decode cX14_sign 6 = .ok (.iload_n 1, 1) := by decide +kernel
theorem dX14_sign_7 : decode cX14_sign 7 = .ok (.invokevirtual 1084, 3) := by decide +kernel
theorem dX14_sign_10 : decode cX14_sign 10 = .ok (.ifCond .eq 26, 3) := by decide +kernel
theorem dX14_sign_13 : decode cX14_sign 13 = .ok (.iload_n 2, 1) := by decide +kernel
theorem dX14_sign_14 : decode cX14_sign 14 = .ok (.ifCond .lt 22, 3) := by decide +kernel
theorem dX14_sign_17 : decode cX14_sign 17 = .ok (.iload_n 2, 1) := by decide +kernel
theorem dX14_sign_18 : decode cX14_sign 18 = .ok (.aload_n 0, 1) := by decide +kernel
theorem dX14_sign_19 : decode cX14_sign 19 = .ok (.getfield 251, 3) := by decide +kernel
theorem dX14_sign_22 : decode cX14_sign 22 = .ok (.iload_n 1, 1) := by decide +kernel
theorem dX14_sign_23 : decode cX14_sign 23 = .ok (.iconst 1, 1) := by decide +kernel
theorem dX14_sign_24 : decode cX14_sign 24 = .ok (.iadd, 1) := by decide +kernel
theorem dX14_sign_25 : decode cX14_sign 25 = .ok (.iaload, 1) := by decide +kernel
theorem dX14_sign_26 : decode cX14_sign 26 = .ok (.aload_n 0, 1) := by decide +kernel
theorem dX14_sign_27 : decode cX14_sign 27 = .ok (.getfield 251, 3) := by decide +kernel
theorem dX14_sign_30 : decode cX14_sign 30 = .ok (.iload_n 1, 1) := by decide +kernel
theorem dX14_sign_31 : decode cX14_sign 31 = .ok (.iaload, 1) := by decide +kernel
theorem dX14_sign_32 : decode cX14_sign 32 = .ok (.isub, 1) := by decide +kernel
theorem dX14_sign_33 : decode cX14_sign 33 = .ok (.if_icmp .lt 7, 3) := by decide +kernel
theorem dX14_sign_36 : decode cX14_sign 36 = .ok (.iconst (-1), 1) := by decide +kernel
theorem dX14_sign_37 : decode cX14_sign 37 = .ok (.goto 16, 3) := by decide +kernel
theorem dX14_sign_40 : decode cX14_sign 40 = .ok (.aload_n 0, 1) := by decide +kernel
theorem dX14_sign_41 : decode cX14_sign 41 = .ok (.getfield 247, 3) := by decide +kernel
theorem dX14_sign_44 : decode cX14_sign 44 = .ok (.aload_n 0, 1) := by decide +kernel
theorem dX14_sign_45 : decode cX14_sign 45 = .ok (.getfield 251, 3) := by decide +kernel
theorem dX14_sign_48 : decode cX14_sign 48 = .ok (.iload_n 1, 1) := by decide +kernel
theorem dX14_sign_49 : decode cX14_sign 49 = .ok (.iaload, 1) := by decide +kernel
theorem dX14_sign_50 : decode cX14_sign 50 = .ok (.iload_n 2, 1) := by decide +kernel
theorem dX14_sign_51 : decode cX14_sign 51 = .ok (.iadd, 1) := by decide +kernel
theorem dX14_sign_52 : decode cX14_sign 52 = .ok (.baload, 1) := by decide +kernel
theorem dX14_sign_53 : decode cX14_sign 53 = .ok (.ireturn, 1) := by decide +kernel
theorem dX14_strict_0 : decode cX14_strict 0 = .ok (.aload_n 0, 1) := by decide +kernel
theorem dX14_strict_1 : decode cX14_strict 1 = .ok (.iconst 0, 1) := by decide +kernel
theorem dX14_strict_2 : decode cX14_strict 2 = .ok (.putfield 329, 3) := by decide +kernel
theorem dX14_strict_5 : decode cX14_strict 5 = .ok (.aload_n 0, 1) := by decide +kernel
theorem dX14_strict_6 : decode cX14_strict 6 = .ok (.iload_n 1, 1) := by decide +kernel
theorem dX14_strict_7 : decode cX14_strict 7 = .ok (.invokevirtual 1084, 3) := by decide +kernel
theorem dX14_strict_10 : decode cX14_strict 10 = .ok (.ifCond .eq 7, 3) := by decide +kernel
theorem dX14_strict_13 : decode cX14_strict 13 = .ok (.iload_n 2, 1) := by decide +kernel
theorem dX14_strict_14 : decode cX14_strict 14 = .ok (.ifCond .ge 5, 3) := by decide +kernel
theorem dX14_strict_17 : decode cX14_strict 17 = .ok (.iconst (-1), 1) := by decide +kernel
theorem dX14_strict_18 : decode cX14_strict 18 = .ok (.ireturn, 1) := by decide +kernel
theorem dX14_strict_19 : decode cX14_strict 19 = .ok (.aload_n 0, 1) := by decide +kernel
theorem dX14_strict_20 : decode cX14_strict 20 = .ok (.getfield 131, 3) := by decide +kernel
theorem dX14_strict_23 : decode cX14_strict 23 = .ok (.aload_n 0, 1) := by decide +kernel
theorem dX14_strict_24 : decode cX14_strict 24 = .ok (.getfield 149, 3) := by decide +kernel
theorem dX14_strict_27 : decode cX14_strict 27 = .ok (.aload_n 0, 1) := by decide +kernel
theorem dX14_strict_28 : decode cX14_strict 28 = .ok (.getfield 179, 3) := by decide +kernel
theorem dX14_strict_31 : decode cX14_strict 31 = .ok (.iload_n 1, 1) := by decide +kernel
theorem dX14_strict_32 : decode cX14_strict 32 = .ok (.iaload, 1) := by decide +kernel
theorem dX14_strict_33 : decode cX14_strict 33 = .ok (.iaload, 1) := by decide +kernel
theorem dX14_strict_34 : decode cX14_strict 34 = .ok (.iaload, 1) := by decide +kernel
theorem dX14_strict_35 : decode cX14_strict 35 = .ok (.istore_n 3, 1) := by decide +kernel
theorem dX14_strict_36 : decode cX14_strict 36 = .ok (.iconst 0, 1) := by decide +kernel
theorem dX14_strict_37 : decode cX14_strict 37 = .ok (.istore 4, 2) := by decide +kernel
theorem dX14_strict_39 : decode cX14_strict 39 = .ok (.iload 4, 2) := by decide +kernel
theorem dX14_strict_41 : decode cX14_strict 41 = .ok (.iload_n 2, 1) := by decide +kernel
theorem dX14_strict_42 : decode cX14_strict 42 = .ok (.if_icmp .ge 20, 3) := by decide +kernel
theorem dX14_strict_45 : decode cX14_strict 45 = .ok (.iload_n 3, 1) := by decide +kernel
theorem dX14_strict_46 : decode cX14_strict 46 = .ok (.ifCond .lt 16, 3) := by decide +kernel
theorem dX14_strict_49 : decode cX14_strict 49 = .ok (.aload_n 0, 1) := by decide +kernel
theorem dX14_strict_50 : decode cX14_strict 50 = .ok (.getfield 140, 3) := by decide +kernel
theorem dX14_strict_53 : decode cX14_strict 53 = .ok (.iload_n 3, 1) := by decide +kernel
theorem dX14_strict_54 : decode cX14_strict 54 = .ok (.iaload, 1) := by decide +kernel
theorem dX14_strict_55 : decode cX14_strict 55 = .ok (.istore_n 3, 1) := by decide +kernel
theorem dX14_strict_56 : decode cX14_strict 56 = .ok (.iinc 4 1, 3) := by decide +kernel
theorem dX14_strict_59 : decode cX14_strict 59 = .ok (.goto (-20), 3) := by decide +kernel
theorem dX14_strict_62 : decode cX14_strict 62 = .ok (.iload_n 3, 1) := by decide +kernel
theorem dX14_strict_63 : decode cX14_strict 63 = .ok (.ifCond .ge 7, 3) := by decide +kernel
theorem dX14_strict_66 : decode cX14_strict 66 = .ok (.iconst (-1), 1) := by decide +kernel
theorem dX14_strict_67 : decode cX14_strict 67 = .ok (.goto 22, 3) := by decide +kernel
theorem dX14_strict_70 : decode cX14_strict 70 = .ok (.aload_n 0, 1) := by decide +kernel
theorem dX14_strict_71 : decode cX14_strict 71 = .ok (.getfield 257, 3) := by decide +kernel
theorem dX14_strict_74 : decode cX14_strict 74 = .ok (.aload_n 0, 1) := by decide +kernel
theorem dX14_strict_75 : decode cX14_strict 75 = .ok (.getfield 143, 3) := by decide +kernel
theorem dX14_strict_78 : decode cX14_strict 78 = .ok (.iload_n 3, 1) := by decide +kernel
theorem dX14_strict_79 : decode cX14_strict 79 = .ok (.iaload, 1) := by decide +kernel
theorem dX14_strict_80 : decode cX14_strict 80 = .ok (.baload, 1) := by decide +kernel
theorem dX14_strict_81 : decode cX14_strict 81 = .ok (.ifCond .eq 7, 3) := by decide +kernel
theorem dX14_strict_84 : decode cX14_strict 84 = .ok (.iconst 1, 1) := by decide +kernel
theorem dX14_strict_85 : decode cX14_strict 85 = .ok (.goto 4, 3) := by decide +kernel
theorem dX14_strict_88 : decode cX14_strict 88 = .ok (.iconst 0, 1) := by decide +kernel
theorem dX14_strict_89 : decode cX14_strict 89 = .ok (.ireturn, 1) := by decide +kernel
theorem dX14_group_0 : decode cX14_group 0 = .ok (.aload_n 0, 1) := by decide +kernel
theorem dX14_group_1 : decode cX14_group 1 = .ok (.iconst 0, 1) := by decide +kernel
theorem dX14_group_2 : decode cX14_group 2 = .ok (.putfield 329, 3) := by decide +kernel
theorem dX14_group_5 : decode cX14_group 5 = .ok (.aload_n 0, 1) := by decide +kernel
theorem dX14_group_6 : decode cX14_group 6 = .ok (.iload_n 1, 1) := by decide +kernel
theorem dX14_group_7 : decode cX14_group 7 = .ok (.invokevirtual 1084, 3) := by decide +kernel
theorem dX14_group_10 : decode cX14_group 10 = .ok (.ifCond .eq 17, 3) := by decide +kernel
theorem dX14_group_13 : decode cX14_group 13 = .ok (.aload_n 0, 1) := by decide +kernel
theorem dX14_group_14 : decode cX14_group 14 = .ok (.getfield 228, 3) := by decide +kernel
theorem dX14_group_17 : decode cX14_group 17 = .ok (.aload_n 0, 1) := by decide +kernel
theorem dX14_group_18 : decode cX14_group 18 = .ok (.getfield 179, 3) := by decide +kernel
theorem dX14_group_21 : decode cX14_group 21 = .ok (.iload_n 1, 1) := by decide +kernel
theorem dX14_group_22 : decode cX14_group 22 = .ok (.iaload, 1) := by decide +kernel
theorem dX14_group_23 : decode cX14_group 23 = .ok (.iaload, 1) := by decide +kernel
theorem dX14_group_24 : decode cX14_group 24 = .ok (.goto 4, 3) := by decide +kernel
theorem dX14_group_27 : decode cX14_group 27 = .ok (.iconst (-1), 1) := by decide +kernel
theorem dX14_group_28 : decode cX14_group 28 = .ok (.ireturn, 1) := by decide +kernel
theorem dX14_global_0 : decode cX14_global 0 = .ok (.aload_n 0, 1) := by decide +kernel
theorem dX14_global_1 : decode cX14_global 1 = .ok (.iconst 0, 1) := by decide +kernel
theorem dX14_global_2 : decode cX14_global 2 = .ok (.putfield 329, 3) := by decide +kernel
theorem dX14_global_5 : decode cX14_global 5 = .ok (.aload_n 0, 1) := by decide +kernel
theorem dX14_global_6 : decode cX14_global 6 = .ok (.iload_n 1, 1) := by decide +kernel
theorem dX14_global_7 : decode cX14_global 7 = .ok (.invokevirtual 1084, 3) := by decide +kernel
theorem dX14_global_10 : decode cX14_global 10 = .ok (.ifCond .eq 19, 3) := by decide +kernel
theorem dX14_global_13 : decode cX14_global 13 = .ok (.aload_n 0, 1) := by decide +kernel
theorem dX14_global_14 : decode cX14_global 14 = .ok (.getfield 847, 3) := by decide +kernel
theorem dX14_global_17 : decode cX14_global 17 = .ok (.ifCond .eq 12, 3) := by decide +kernel
theorem dX14_global_20 : decode cX14_global 20 = .ok (.iload_n 2, 1) := by decide +kernel
theorem dX14_global_21 : decode cX14_global 21 = .ok (.ifCond .lt 8, 3) := by decide +kernel
theorem dX14_global_24 : decode cX14_global 24 = .ok (.iload_n 2, 1) := by decide +kernel
theorem dX14_global_25 : decode cX14_global 25 = .ok (.iconst 2, 1) := by decide +kernel
theorem dX14_global_26 : decode cX14_global 26 = .ok (.if_icmp .le 5, 3) := by decide +kernel
theorem dX14_global_29 : decode cX14_global 29 = .ok (.iconst (-1), 1) := by decide +kernel
theorem dX14_global_30 : decode cX14_global 30 = .ok (.ireturn, 1) := by decide +kernel
theorem dX14_global_31 : decode cX14_global 31 = .ok (.iload_n 2, 1) := by decide +kernel
theorem dX14_global_32 : decode cX14_global 32 = .ok (.ifCond .ne 10, 3) := by decide +kernel
theorem dX14_global_35 : decode cX14_global 35 = .ok (.aload_n 0, 1) := by decide +kernel
theorem dX14_global_36 : decode cX14_global 36 = .ok (.getfield 296, 3) := by decide +kernel
theorem dX14_global_39 : decode cX14_global 39 = .ok (.iload_n 1, 1) := by decide +kernel
theorem dX14_global_40 : decode cX14_global 40 = .ok (.iaload, 1) := by decide +kernel
theorem dX14_global_41 : decode cX14_global 41 = .ok (.ireturn, 1) := by decide +kernel
theorem dX14_global_42 : decode cX14_global 42 = .ok (.aload_n 0, 1) := by decide +kernel
theorem dX14_global_43 : decode cX14_global 43 = .ok (.getfield 296, 3) := by decide +kernel
theorem dX14_global_46 : decode cX14_global 46 = .ok (.iload_n 1, 1) := by decide +kernel
theorem dX14_global_47 : decode cX14_global 47 = .ok (.iaload, 1) := by decide +kernel
theorem dX14_global_48 : decode cX14_global 48 = .ok (.iconst 2, 1) := by decide +kernel
theorem dX14_global_49 : decode cX14_global 49 = .ok (.if_icmp .eq 5, 3) := by decide +kernel
theorem dX14_global_52 : decode cX14_global 52 = .ok (.iconst (-1), 1) := by decide +kernel
theorem dX14_global_53 : decode cX14_global 53 = .ok (.ireturn, 1) := by decide +kernel
theorem dX14_global_54 : decode cX14_global 54 = .ok (.aload_n 0, 1) := by decide +kernel
theorem dX14_global_55 : decode cX14_global 55 = .ok (.getfield 299, 3) := by decide +kernel
theorem dX14_global_58 : decode cX14_global 58 = .ok (.iload_n 1, 1) := by decide +kernel
theorem dX14_global_59 : decode cX14_global 59 = .ok (.laload, 1) := by decide +kernel
theorem dX14_global_60 : decode cX14_global 60 = .ok (.lstore_n 3, 1) := by decide +kernel
theorem dX14_global_61 : decode cX14_global 61 = .ok (.lload_n 3, 1) := by decide +kernel
theorem dX14_global_62 : decode cX14_global 62 = .ok (.invokestatic 873, 3) := by decide +kernel
theorem dX14_global_65 : decode cX14_global 65 = .ok (.ifCond .ne 7, 3) := by decide +kernel
theorem dX14_global_68 : decode cX14_global 68 = .ok (.iconst 1, 1) := by decide +kernel
theorem dX14_global_69 : decode cX14_global 69 = .ok (.goto 4, 3) := by decide +kernel
theorem dX14_global_72 : decode cX14_global 72 = .ok (.iconst 0, 1) := by decide +kernel
theorem dX14_global_73 : decode cX14_global 73 = .ok (.istore 5, 2) := by decide +kernel
theorem dX14_global_75 : decode cX14_global 75 = .ok (.lload_n 3, 1) := by decide +kernel
theorem dX14_global_76 : decode cX14_global 76 = .ok (.invokestatic 873, 3) := by decide +kernel
theorem dX14_global_79 : decode cX14_global 79 = .ok (.iconst 1, 1) := by decide +kernel
theorem dX14_global_80 : decode cX14_global 80 = .ok (.if_icmp .ne 13, 3) := by decide +kernel
theorem dX14_global_83 : decode cX14_global 83 = .ok (.aload_n 0, 1) := by decide +kernel
theorem dX14_global_84 : decode cX14_global 84 = .ok (.getfield 176, 3) := by decide +kernel
theorem dX14_global_87 : decode cX14_global 87 = .ok (.lload_n 3, 1) := by decide +kernel
theorem dX14_global_88 : decode cX14_global 88 = .ok (.l2i, 1) := by decide +kernel
theorem dX14_global_89 : decode cX14_global 89 = .ok (.iaload, 1) := by decide +kernel
theorem dX14_global_90 : decode cX14_global 90 = .ok (.ifCond .eq 22, 3) := by decide +kernel
theorem dX14_global_93 : decode cX14_global 93 = .ok (.lload_n 3, 1) := by decide +kernel
theorem dX14_global_94 : decode cX14_global 94 = .ok (.invokestatic 873, 3) := by decide +kernel
theorem dX14_global_97 : decode cX14_global 97 = .ok (.iconst 4, 1) := by decide +kernel
theorem dX14_global_98 : decode cX14_global 98 = .ok (.if_icmp .ne 18, 3) := by decide +kernel
theorem dX14_global_101 : decode cX14_global 101 = .ok (.aload_n 0, 1) := by decide +kernel
theorem dX14_global_102 : decode cX14_global 102 = .ok (.getfield 263, 3) := by decide +kernel
theorem dX14_global_105 : decode cX14_global 105 = .ok (.lload_n 3, 1) := by decide +kernel
theorem dX14_global_106 : decode cX14_global 106 = .ok (.l2i, 1) := by decide +kernel
theorem dX14_global_107 : decode cX14_global 107 = .ok (.iaload, 1) := by decide +kernel
theorem dX14_global_108 : decode cX14_global 108 = .ok (.iconst 1, 1) := by decide +kernel
theorem dX14_global_109 : decode cX14_global 109 = .ok (.if_icmp .ne 7, 3) := by decide +kernel
theorem dX14_global_112 : decode cX14_global 112 = .ok (.iconst 1, 1) := by decide +kernel
theorem dX14_global_113 : decode cX14_global 113 = .ok (.goto 4, 3) := by decide +kernel
theorem dX14_global_116 : decode cX14_global 116 = .ok (.iconst 0, 1) := by decide +kernel
theorem dX14_global_117 : decode cX14_global 117 = .ok (.istore 6, 2) := by decide +kernel
theorem dX14_global_119 : decode cX14_global 119 = .ok (.iload_n 2, 1) := by decide +kernel
theorem dX14_global_120 : decode cX14_global 120 = .ok (.iconst 1, 1) := by decide +kernel
theorem dX14_global_121 : decode cX14_global 121 = .ok (.if_icmp .ne 23, 3) := by decide +kernel
theorem dX14_global_124 : decode cX14_global 124 = .ok (.iload 5, 2) := by decide +kernel
theorem dX14_global_126 : decode cX14_global 126 = .ok (.ifCond .eq 7, 3) := by decide +kernel
theorem dX14_global_129 : decode cX14_global 129 = .ok (.iconst 0, 1) := by decide +kernel
theorem dX14_global_130 : decode cX14_global 130 = .ok (.goto 13, 3) := by decide +kernel
theorem dX14_global_133 : decode cX14_global 133 = .ok (.iload 6, 2) := by decide +kernel
theorem dX14_global_135 : decode cX14_global 135 = .ok (.ifCond .eq 7, 3) := by decide +kernel
theorem dX14_global_138 : decode cX14_global 138 = .ok (.iconst 1, 1) := by decide +kernel
theorem dX14_global_139 : decode cX14_global 139 = .ok (.goto 4, 3) := by decide +kernel
theorem dX14_global_142 : decode cX14_global 142 = .ok (.iconst 2, 1) := by decide +kernel
theorem dX14_global_143 : decode cX14_global 143 = .ok (.ireturn, 1) := by decide +kernel
theorem dX14_global_144 : decode cX14_global 144 = .ok (.iload 5, 2) := by decide +kernel
theorem dX14_global_146 : decode cX14_global 146 = .ok (.ifCond .eq 8, 3) := by decide +kernel
theorem dX14_global_149 : decode cX14_global 149 = .ok (.lload_n 3, 1) := by decide +kernel
theorem dX14_global_150 : decode cX14_global 150 = .ok (.l2i, 1) := by decide +kernel
theorem dX14_global_151 : decode cX14_global 151 = .ok (.goto 21, 3) := by decide +kernel
theorem dX14_global_154 : decode cX14_global 154 = .ok (.iload 6, 2) := by decide +kernel
theorem dX14_global_156 : decode cX14_global 156 = .ok (.ifCond .eq 11, 3) := by decide +kernel
theorem dX14_global_159 : decode cX14_global 159 = .ok (.aload_n 0, 1) := by decide +kernel
theorem dX14_global_160 : decode cX14_global 160 = .ok (.lload_n 3, 1) := by decide +kernel
theorem dX14_global_161 : decode cX14_global 161 = .ok (.invokevirtual 1055, 3) := by decide +kernel
theorem dX14_global_164 : decode cX14_global 164 = .ok (.goto 8, 3) := by decide +kernel
theorem dX14_global_167 : decode cX14_global 167 = .ok (.aload_n 0, 1) := by decide +kernel
theorem dX14_global_168 : decode cX14_global 168 = .ok (.lload_n 3, 1) := by decide +kernel
theorem dX14_global_169 : decode cX14_global 169 = .ok (.invokevirtual 1058, 3) := by decide +kernel
theorem dX14_global_172 : decode cX14_global 172 = .ok (.ireturn, 1) := by decide +kernel
theorem dX14_shown_0 : decode cX14_shown 0 = .ok (.aload_n 0, 1) := by decide +kernel
theorem dX14_shown_1 : decode cX14_shown 1 = .ok (.iconst 0, 1) := by decide +kernel
theorem dX14_shown_2 : decode cX14_shown 2 = .ok (.putfield 329, 3) := by decide +kernel
theorem dX14_shown_5 : decode cX14_shown 5 = .ok (.aload_n 0, 1) := by decide +kernel
theorem dX14_shown_6 : decode cX14_shown 6 = .ok (.getfield 847, 3) := by decide +kernel
theorem dX14_shown_9 : decode cX14_shown 9 = .ok (.ifCond .eq 15, 3) := by decide +kernel
theorem dX14_shown_12 : decode cX14_shown 12 = .ok (.iload_n 1, 1) := by decide +kernel
theorem dX14_shown_13 : decode cX14_shown 13 = .ok (.ifCond .lt 11, 3) := by decide +kernel
theorem dX14_shown_16 : decode cX14_shown 16 = .ok (.iload_n 1, 1) := by decide +kernel
theorem dX14_shown_17 : decode cX14_shown 17 = .ok (.aload_n 0, 1) := by decide +kernel
theorem dX14_shown_18 : decode cX14_shown 18 = .ok (.getfield 972, 3) := by decide +kernel
theorem dX14_shown_21 : decode cX14_shown 21 = .ok (.if_icmp .lt 7, 3) := by decide +kernel
theorem dX14_shown_24 : decode cX14_shown 24 = .ok (.iconst (-1), 1) := by decide +kernel
theorem dX14_shown_25 : decode cX14_shown 25 = .ok (.goto 9, 3) := by decide +kernel
theorem dX14_shown_28 : decode cX14_shown 28 = .ok (.aload_n 0, 1) := by decide +kernel
theorem dX14_shown_29 : decode cX14_shown 29 = .ok (.getfield 323, 3) := by decide +kernel
theorem dX14_shown_32 : decode cX14_shown 32 = .ok (.iload_n 1, 1) := by decide +kernel
theorem dX14_shown_33 : decode cX14_shown 33 = .ok (.baload, 1) := by decide +kernel
theorem dX14_shown_34 : decode cX14_shown 34 = .ok (.ireturn, 1) := by decide +kernel
theorem dX14_said_0 : decode cX14_said 0 = .ok (.aload_n 0, 1) := by decide +kernel
theorem dX14_said_1 : decode cX14_said 1 = .ok (.iconst 0, 1) := by decide +kernel
theorem dX14_said_2 : decode cX14_said 2 = .ok (.putfield 329, 3) := by decide +kernel
theorem dX14_said_5 : decode cX14_said 5 = .ok (.aload_n 0, 1) := by decide +kernel
theorem dX14_said_6 : decode cX14_said 6 = .ok (.getfield 847, 3) := by decide +kernel
theorem dX14_said_9 : decode cX14_said 9 = .ok (.ifCond .eq 15, 3) := by decide +kernel
theorem dX14_said_12 : decode cX14_said 12 = .ok (.iload_n 1, 1) := by decide +kernel
theorem dX14_said_13 : decode cX14_said 13 = .ok (.ifCond .lt 11, 3) := by decide +kernel
theorem dX14_said_16 : decode cX14_said 16 = .ok (.iload_n 1, 1) := by decide +kernel
theorem dX14_said_17 : decode cX14_said 17 = .ok (.aload_n 0, 1) := by decide +kernel
theorem dX14_said_18 : decode cX14_said 18 = .ok (.getfield 975, 3) := by decide +kernel
theorem dX14_said_21 : decode cX14_said 21 = .ok (.if_icmp .lt 7, 3) := by decide +kernel
theorem dX14_said_24 : decode cX14_said 24 = .ok (.iconst 0, 1) := by decide +kernel
theorem dX14_said_25 : decode cX14_said 25 = .ok (.goto 9, 3) := by decide +kernel
theorem dX14_said_28 : decode cX14_said 28 = .ok (.aload_n 0, 1) := by decide +kernel
theorem dX14_said_29 : decode cX14_said 29 = .ok (.getfield 326, 3) := by decide +kernel
theorem dX14_said_32 : decode cX14_said 32 = .ok (.iload_n 1, 1) := by decide +kernel
theorem dX14_said_33 : decode cX14_said 33 = .ok (.iaload, 1) := by decide +kernel
theorem dX14_said_34 : decode cX14_said 34 = .ok (.ireturn, 1) := by decide +kernel
theorem dX14_begin_0 : decode cX14_begin 0 = .ok (.aload_n 0, 1) := by decide +kernel
theorem dX14_begin_1 : decode cX14_begin 1 = .ok (.aload_n 0, 1) := by decide +kernel
theorem dX14_begin_2 : decode cX14_begin 2 = .ok (.getfield 844, 3) := by decide +kernel
theorem dX14_begin_5 : decode cX14_begin 5 = .ok (.ifCond .eq 7, 3) := by decide +kernel
theorem dX14_begin_8 : decode cX14_begin 8 = .ok (.iconst 0, 1) := by decide +kernel
theorem dX14_begin_9 : decode cX14_begin 9 = .ok (.goto 4, 3) := by decide +kernel
theorem dX14_begin_12 : decode cX14_begin 12 = .ok (.iconst 1, 1) := by decide +kernel
theorem dX14_begin_13 : decode cX14_begin 13 = .ok (.putfield 329, 3) := by decide +kernel
theorem dX14_begin_16 : decode cX14_begin 16 = .ok (.aload_n 0, 1) := by decide +kernel
theorem dX14_begin_17 : decode cX14_begin 17 = .ok (.getfield 329, 3) := by decide +kernel
theorem dX14_begin_20 : decode cX14_begin 20 = .ok (.iconst 1, 1) := by decide +kernel
theorem dX14_begin_21 : decode cX14_begin 21 = .ok (.if_icmp .ne 4, 3) := by decide +kernel
theorem dX14_begin_24 : decode cX14_begin 24 = .ok (.return_, 1) := by decide +kernel
theorem dX14_begin_25 : decode cX14_begin 25 = .ok (.aload_n 0, 1) := by decide +kernel
theorem dX14_begin_26 : decode cX14_begin 26 = .ok (.iconst 1, 1) := by decide +kernel
theorem dX14_begin_27 : decode cX14_begin 27 = .ok (.putfield 847, 3) := by decide +kernel
theorem dX14_begin_30 : decode cX14_begin 30 = .ok (.aload_n 0, 1) := by decide +kernel
theorem dX14_begin_31 : decode cX14_begin 31 = .ok (.iconst 0, 1) := by decide +kernel
theorem dX14_begin_32 : decode cX14_begin 32 = .ok (.putfield 966, 3) := by decide +kernel
theorem dX14_begin_35 : decode cX14_begin 35 = .ok (.aload_n 0, 1) := by decide +kernel
theorem dX14_begin_36 : decode cX14_begin 36 = .ok (.iconst 0, 1) := by decide +kernel
theorem dX14_begin_37 : decode cX14_begin 37 = .ok (.putfield 934, 3) := by decide +kernel
theorem dX14_begin_40 : decode cX14_begin 40 = .ok (.aload_n 0, 1) := by decide +kernel
theorem dX14_begin_41 : decode cX14_begin 41 = .ok (.iconst 0, 1) := by decide +kernel
theorem dX14_begin_42 : decode cX14_begin 42 = .ok (.putfield 969, 3) := by decide +kernel
theorem dX14_begin_45 : decode cX14_begin 45 = .ok (.aload_n 0, 1) := by decide +kernel
theorem dX14_begin_46 : decode cX14_begin 46 = .ok (.iconst 0, 1) := by decide +kernel
theorem dX14_begin_47 : decode cX14_begin 47 = .ok (.putfield 908, 3) := by decide +kernel
theorem dX14_begin_50 : decode cX14_begin 50 = .ok (.aload_n 0, 1) := by decide +kernel
theorem dX14_begin_51 : decode cX14_begin 51 = .ok (.iconst 0, 1) := by decide +kernel
theorem dX14_begin_52 : decode cX14_begin 52 = .ok (.putfield 931, 3) := by decide +kernel
theorem dX14_begin_55 : decode cX14_begin 55 = .ok (.aload_n 0, 1) := by decide +kernel
theorem dX14_begin_56 : decode cX14_begin 56 = .ok (.iconst 0, 1) := by decide +kernel
theorem dX14_begin_57 : decode cX14_begin 57 = .ok (.putfield 928, 3) := by decide +kernel
theorem dX14_begin_60 : decode cX14_begin 60 = .ok (.aload_n 0, 1) := by decide +kernel
theorem dX14_begin_61 : decode cX14_begin 61 = .ok (.iconst 0, 1) := by decide +kernel
theorem dX14_begin_62 : decode cX14_begin 62 = .ok (.putfield 892, 3) := by decide +kernel
theorem dX14_begin_65 : decode cX14_begin 65 = .ok (.aload_n 0, 1) := by decide +kernel
theorem dX14_begin_66 : decode cX14_begin 66 = .ok (.iconst 0, 1) := by decide +kernel
theorem dX14_begin_67 : decode cX14_begin 67 = .ok (.putfield 925, 3) := by decide +kernel
theorem dX14_begin_70 : decode cX14_begin 70 = .ok (.aload_n 0, 1) := by decide +kernel
theorem dX14_begin_71 : decode cX14_begin 71 = .ok (.getfield 311, 3) := by decide +kernel
theorem dX14_begin_74 : decode cX14_begin 74 = .ok (.iconst 0, 1) := by decide +kernel
theorem dX14_begin_75 : decode cX14_begin 75 = .ok (.iconst 0, 1) := by decide +kernel
theorem dX14_begin_76 : decode cX14_begin 76 = .ok (.iastore, 1) := by decide +kernel
theorem dX14_begin_77 : decode cX14_begin 77 = .ok (.aload_n 0, 1) := by decide +kernel
theorem dX14_begin_78 : decode cX14_begin 78 = .ok (.iconst 0, 1) := by decide +kernel
theorem dX14_begin_79 : decode cX14_begin 79 = .ok (.putfield 972, 3) := by decide +kernel
theorem dX14_begin_82 : decode cX14_begin 82 = .ok (.aload_n 0, 1) := by decide +kernel
theorem dX14_begin_83 : decode cX14_begin 83 = .ok (.iconst 0, 1) := by decide +kernel
theorem dX14_begin_84 : decode cX14_begin 84 = .ok (.putfield 975, 3) := by decide +kernel
theorem dX14_begin_87 : decode cX14_begin 87 = .ok (.aload_n 0, 1) := by decide +kernel
theorem dX14_begin_88 : decode cX14_begin 88 = .ok (.iconst 1, 1) := by decide +kernel
theorem dX14_begin_89 : decode cX14_begin 89 = .ok (.putfield 919, 3) := by decide +kernel
theorem dX14_begin_92 : decode cX14_begin 92 = .ok (.aload_n 0, 1) := by decide +kernel
theorem dX14_begin_93 : decode cX14_begin 93 = .ok (.iconst 0, 1) := by decide +kernel
theorem dX14_begin_94 : decode cX14_begin 94 = .ok (.putfield 895, 3) := by decide +kernel
theorem dX14_begin_97 : decode cX14_begin 97 = .ok (.iconst 0, 1) := by decide +kernel
theorem dX14_begin_98 : decode cX14_begin 98 = .ok (.istore_n 1, 1) := by decide +kernel
theorem dX14_begin_99 : decode cX14_begin 99 = .ok (.iconst 0, 1) := by decide +kernel
theorem dX14_begin_100 : decode cX14_begin 100 = .ok (.istore_n 2, 1) := by decide +kernel
theorem dX14_begin_101 : decode cX14_begin 101 = .ok (.iload_n 2, 1) := by decide +kernel
theorem dX14_begin_102 : decode cX14_begin 102 = .ok (.aload_n 0, 1) := by decide +kernel
theorem dX14_begin_103 : decode cX14_begin 103 = .ok (.getfield 571, 3) := by decide +kernel
theorem dX14_begin_106 : decode cX14_begin 106 = .ok (.if_icmp .ge 87, 3) := by decide +kernel
theorem dX14_begin_109 : decode cX14_begin 109 = .ok (.aload_n 0, 1) := by decide +kernel
theorem dX14_begin_110 : decode cX14_begin 110 = .ok (.getfield 149, 3) := by decide +kernel
theorem dX14_begin_113 : decode cX14_begin 113 = .ok (.aload_n 0, 1) := by decide +kernel
theorem dX14_begin_114 : decode cX14_begin 114 = .ok (.getfield 179, 3) := by decide +kernel
theorem dX14_begin_117 : decode cX14_begin 117 = .ok (.iload_n 2, 1) := by decide +kernel
theorem dX14_begin_118 : decode cX14_begin 118 = .ok (.iaload, 1) := by decide +kernel
theorem dX14_begin_119 : decode cX14_begin 119 = .ok (.iaload, 1) := by decide +kernel
theorem dX14_begin_120 : decode cX14_begin 120 = .ok (.istore_n 3, 1) := by decide +kernel
theorem dX14_begin_121 : decode cX14_begin 121 = .ok (.aload_n 0, 1) := by decide +kernel
theorem dX14_begin_122 : decode cX14_begin 122 = .ok (.getfield 296, 3) := by decide +kernel
theorem dX14_begin_125 : decode cX14_begin 125 = .ok (.iload_n 2, 1) := by decide +kernel
theorem dX14_begin_126 : decode cX14_begin 126 = .ok (.aload_n 0, 1) := by decide +kernel
theorem dX14_begin_127 : decode cX14_begin 127 = .ok (.getfield 131, 3) := by decide +kernel
theorem dX14_begin_130 : decode cX14_begin 130 = .ok (.iload_n 3, 1) := by decide +kernel
theorem dX14_begin_131 : decode cX14_begin 131 = .ok (.iaload, 1) := by decide +kernel
theorem dX14_begin_132 : decode cX14_begin 132 = .ok (.ifCond .lt 7, 3) := by decide +kernel
theorem dX14_begin_135 : decode cX14_begin 135 = .ok (.iconst 2, 1) := by decide +kernel
theorem dX14_begin_136 : decode cX14_begin 136 = .ok (.goto 4, 3) := by decide +kernel
theorem dX14_begin_139 : decode cX14_begin 139 = .ok (.iconst 0, 1) := by decide +kernel
theorem dX14_begin_140 : decode cX14_begin 140 = .ok (.iastore, 1) := by decide +kernel
theorem dX14_begin_141 : decode cX14_begin 141 = .ok (.aload_n 0, 1) := by decide +kernel
theorem dX14_begin_142 : decode cX14_begin 142 = .ok (.getfield 299, 3) := by decide +kernel
theorem dX14_begin_145 : decode cX14_begin 145 = .ok (.iload_n 2, 1) := by decide +kernel
theorem dX14_begin_146 : decode cX14_begin 146 = .ok (.iconst 2, 1) := by decide +kernel
theorem dX14_begin_147 : decode cX14_begin 147 = .ok (.iload_n 2, 1) := by decide +kernel
theorem dX14_begin_148 : decode cX14_begin 148 = .ok (.invokestatic 937, 3) := by decide +kernel
theorem dX14_begin_151 : decode cX14_begin 151 = .ok (.lastore, 1) := by decide +kernel
theorem dX14_begin_152 : decode cX14_begin 152 = .ok (.aload_n 0, 1) := by decide +kernel
theorem dX14_begin_153 : decode cX14_begin 153 = .ok (.getfield 131, 3) := by decide +kernel
theorem dX14_begin_156 : decode cX14_begin 156 = .ok (.iload_n 3, 1) := by decide +kernel
theorem dX14_begin_157 : decode cX14_begin 157 = .ok (.iaload, 1) := by decide +kernel
theorem dX14_begin_158 : decode cX14_begin 158 = .ok (.ifCond .ge 29, 3) := by decide +kernel
theorem dX14_begin_161 : decode cX14_begin 161 = .ok (.aload_n 0, 1) := by decide +kernel
theorem dX14_begin_162 : decode cX14_begin 162 = .ok (.aload_n 0, 1) := by decide +kernel
theorem dX14_begin_163 : decode cX14_begin 163 = .ok (.getfield 134, 3) := by decide +kernel
theorem dX14_begin_166 : decode cX14_begin 166 = .ok (.iload_n 3, 1) := by decide +kernel
theorem dX14_begin_167 : decode cX14_begin 167 = .ok (.iaload, 1) := by decide +kernel
theorem dX14_begin_168 : decode cX14_begin 168 = .ok (.invokevirtual 978, 3) := by decide +kernel
theorem dX14_begin_171 : decode cX14_begin 171 = .ok (.ifCond .eq 16, 3) := by decide +kernel
theorem dX14_begin_174 : decode cX14_begin 174 = .ok (.iload_n 1, 1) := by decide +kernel
theorem dX14_begin_175 : decode cX14_begin 175 = .ok (.aload_n 0, 1) := by decide +kernel
theorem dX14_begin_176 : decode cX14_begin 176 = .ok (.aload_n 0, 1) := by decide +kernel
theorem dX14_begin_177 : decode cX14_begin 177 = .ok (.getfield 134, 3) := by decide +kernel
theorem dX14_begin_180 : decode cX14_begin 180 = .ok (.iload_n 3, 1) := by decide +kernel
theorem dX14_begin_181 : decode cX14_begin 181 = .ok (.iaload, 1) := by decide +kernel
theorem dX14_begin_182 : decode cX14_begin 182 = .ok (.invokevirtual 886, 3) := by decide +kernel
theorem dX14_begin_185 : decode cX14_begin 185 = .ok (.iadd, 1) := by decide +kernel
theorem dX14_begin_186 : decode cX14_begin 186 = .ok (.istore_n 1, 1) := by decide +kernel
theorem dX14_begin_187 : decode cX14_begin 187 = .ok (.iinc 2 1, 3) := by decide +kernel
theorem dX14_begin_190 : decode cX14_begin 190 = .ok (.goto (-89), 3) := by decide +kernel
theorem dX14_begin_193 : decode cX14_begin 193 = .ok (.aload_n 0, 1) := by decide +kernel
theorem dX14_begin_194 : decode cX14_begin 194 = .ok (.iconst 5, 1) := by decide +kernel
theorem dX14_begin_195 : decode cX14_begin 195 = .ok (.aload_n 0, 1) := by decide +kernel
theorem dX14_begin_196 : decode cX14_begin 196 = .ok (.getfield 152, 3) := by decide +kernel
theorem dX14_begin_199 : decode cX14_begin 199 = .ok (.aload_n 0, 1) := by decide +kernel
theorem dX14_begin_200 : decode cX14_begin 200 = .ok (.aload_n 0, 1) := by decide +kernel
theorem dX14_begin_201 : decode cX14_begin 201 = .ok (.getfield 584, 3) := by decide +kernel
theorem dX14_begin_204 : decode cX14_begin 204 = .ok (.invokevirtual 786, 3) := by decide +kernel
theorem dX14_begin_207 : decode cX14_begin 207 = .ok (.iaload, 1) := by decide +kernel
theorem dX14_begin_208 : decode cX14_begin 208 = .ok (.invokestatic 937, 3) := by decide +kernel
theorem dX14_begin_211 : decode cX14_begin 211 = .ok (.putfield 922, 3) := by decide +kernel
theorem dX14_begin_214 : decode cX14_begin 214 = .ok (.iload_n 1, 1) := by decide +kernel
theorem dX14_begin_215 : decode cX14_begin 215 = .ok (.sipush 4000, 3) := by decide +kernel
theorem dX14_begin_218 : decode cX14_begin 218 = .ok (.if_icmp .le 10, 3) := by decide +kernel
theorem dX14_begin_221 : decode cX14_begin 221 = .ok (.aload_n 0, 1) := by decide +kernel
theorem dX14_begin_222 : decode cX14_begin 222 = .ok (.bipush 6, 2) := by decide +kernel
theorem dX14_begin_224 : decode cX14_begin 224 = .ok (.putfield 847, 3) := by decide +kernel
theorem dX14_begin_227 : decode cX14_begin 227 = .ok (.return_, 1) := by decide +kernel
theorem dX14_begin_228 : decode cX14_begin 228 = .ok (.aload_n 0, 1) := by decide +kernel
theorem dX14_begin_229 : decode cX14_begin 229 = .ok (.iload_n 1, 1) := by decide +kernel
theorem dX14_begin_230 : decode cX14_begin 230 = .ok (.putfield 892, 3) := by decide +kernel
theorem dX14_begin_233 : decode cX14_begin 233 = .ok (.iconst 0, 1) := by decide +kernel
theorem dX14_begin_234 : decode cX14_begin 234 = .ok (.istore_n 2, 1) := by decide +kernel
theorem dX14_begin_235 : decode cX14_begin 235 = .ok (.iload_n 2, 1) := by decide +kernel
theorem dX14_begin_236 : decode cX14_begin 236 = .ok (.aload_n 0, 1) := by decide +kernel
theorem dX14_begin_237 : decode cX14_begin 237 = .ok (.getfield 571, 3) := by decide +kernel
theorem dX14_begin_240 : decode cX14_begin 240 = .ok (.if_icmp .ge 69, 3) := by decide +kernel
theorem dX14_begin_243 : decode cX14_begin 243 = .ok (.aload_n 0, 1) := by decide +kernel
theorem dX14_begin_244 : decode cX14_begin 244 = .ok (.getfield 149, 3) := by decide +kernel
theorem dX14_begin_247 : decode cX14_begin 247 = .ok (.aload_n 0, 1) := by decide +kernel
theorem dX14_begin_248 : decode cX14_begin 248 = .ok (.getfield 179, 3) := by decide +kernel
theorem dX14_begin_251 : decode cX14_begin 251 = .ok (.iload_n 2, 1) := by decide +kernel
theorem dX14_begin_252 : decode cX14_begin 252 = .ok (.iaload, 1) := by decide +kernel
theorem dX14_begin_253 : decode cX14_begin 253 = .ok (.iaload, 1) := by decide +kernel
theorem dX14_begin_254 : decode cX14_begin 254 = .ok (.istore_n 3, 1) := by decide +kernel
theorem dX14_begin_255 : decode cX14_begin 255 = .ok (.aload_n 0, 1) := by decide +kernel
theorem dX14_begin_256 : decode cX14_begin 256 = .ok (.getfield 131, 3) := by decide +kernel
theorem dX14_begin_259 : decode cX14_begin 259 = .ok (.iload_n 3, 1) := by decide +kernel
theorem dX14_begin_260 : decode cX14_begin 260 = .ok (.iaload, 1) := by decide +kernel
theorem dX14_begin_261 : decode cX14_begin 261 = .ok (.ifCond .ge 42, 3) := by decide +kernel
theorem dX14_begin_264 : decode cX14_begin 264 = .ok (.aload_n 0, 1) := by decide +kernel
theorem dX14_begin_265 : decode cX14_begin 265 = .ok (.aload_n 0, 1) := by decide +kernel
theorem dX14_begin_266 : decode cX14_begin 266 = .ok (.getfield 134, 3) := by decide +kernel
theorem dX14_begin_269 : decode cX14_begin 269 = .ok (.iload_n 3, 1) := by decide +kernel
theorem dX14_begin_270 : decode cX14_begin 270 = .ok (.iaload, 1) := by decide +kernel
theorem dX14_begin_271 : decode cX14_begin 271 = .ok (.invokevirtual 978, 3) := by decide +kernel
theorem dX14_begin_274 : decode cX14_begin 274 = .ok (.ifCond .ne 6, 3) := by decide +kernel
theorem dX14_begin_277 : decode cX14_begin 277 = .ok (.goto 26, 3) := by decide +kernel
theorem dX14_begin_280 : decode cX14_begin 280 = .ok (.aload_n 0, 1) := by decide +kernel
theorem dX14_begin_281 : decode cX14_begin 281 = .ok (.getfield 299, 3) := by decide +kernel
theorem dX14_begin_284 : decode cX14_begin 284 = .ok (.iload_n 2, 1) := by decide +kernel
theorem dX14_begin_285 : decode cX14_begin 285 = .ok (.aload_n 0, 1) := by decide +kernel
theorem dX14_begin_286 : decode cX14_begin 286 = .ok (.aload_n 0, 1) := by decide +kernel
theorem dX14_begin_287 : decode cX14_begin 287 = .ok (.getfield 134, 3) := by decide +kernel
theorem dX14_begin_290 : decode cX14_begin 290 = .ok (.iload_n 3, 1) := by decide +kernel
theorem dX14_begin_291 : decode cX14_begin 291 = .ok (.iaload, 1) := by decide +kernel
theorem dX14_begin_292 : decode cX14_begin 292 = .ok (.invokevirtual 956, 3) := by decide +kernel
theorem dX14_begin_295 : decode cX14_begin 295 = .ok (.lastore, 1) := by decide +kernel
theorem dX14_begin_296 : decode cX14_begin 296 = .ok (.aload_n 0, 1) := by decide +kernel
theorem dX14_begin_297 : decode cX14_begin 297 = .ok (.getfield 296, 3) := by decide +kernel
theorem dX14_begin_300 : decode cX14_begin 300 = .ok (.iload_n 2, 1) := by decide +kernel
theorem dX14_begin_301 : decode cX14_begin 301 = .ok (.iconst 2, 1) := by decide +kernel
theorem dX14_begin_302 : decode cX14_begin 302 = .ok (.iastore, 1) := by decide +kernel
theorem dX14_begin_303 : decode cX14_begin 303 = .ok (.iinc 2 1, 3) := by decide +kernel
theorem dX14_begin_306 : decode cX14_begin 306 = .ok (.goto (-71), 3) := by decide +kernel
theorem dX14_begin_309 : decode cX14_begin 309 = .ok (.iconst 0, 1) := by decide +kernel
theorem dX14_begin_310 : decode cX14_begin 310 = .ok (.istore_n 2, 1) := by decide +kernel
theorem dX14_begin_311 : decode cX14_begin 311 = .ok (.iload_n 2, 1) := by decide +kernel
theorem dX14_begin_312 : decode cX14_begin 312 = .ok (.aload_n 0, 1) := by decide +kernel
theorem dX14_begin_313 : decode cX14_begin 313 = .ok (.getfield 571, 3) := by decide +kernel
theorem dX14_begin_316 : decode cX14_begin 316 = .ok (.if_icmp .ge 59, 3) := by decide +kernel
theorem dX14_begin_319 : decode cX14_begin 319 = .ok (.aload_n 0, 1) := by decide +kernel
theorem dX14_begin_320 : decode cX14_begin 320 = .ok (.getfield 149, 3) := by decide +kernel
theorem dX14_begin_323 : decode cX14_begin 323 = .ok (.aload_n 0, 1) := by decide +kernel
theorem dX14_begin_324 : decode cX14_begin 324 = .ok (.getfield 179, 3) := by decide +kernel
theorem dX14_begin_327 : decode cX14_begin 327 = .ok (.iload_n 2, 1) := by decide +kernel
theorem dX14_begin_328 : decode cX14_begin 328 = .ok (.iaload, 1) := by decide +kernel
theorem dX14_begin_329 : decode cX14_begin 329 = .ok (.iaload, 1) := by decide +kernel
theorem dX14_begin_330 : decode cX14_begin 330 = .ok (.istore_n 3, 1) := by decide +kernel
theorem dX14_begin_331 : decode cX14_begin 331 = .ok (.aload_n 0, 1) := by decide +kernel
theorem dX14_begin_332 : decode cX14_begin 332 = .ok (.getfield 131, 3) := by decide +kernel
theorem dX14_begin_335 : decode cX14_begin 335 = .ok (.iload_n 3, 1) := by decide +kernel
theorem dX14_begin_336 : decode cX14_begin 336 = .ok (.iaload, 1) := by decide +kernel
theorem dX14_begin_337 : decode cX14_begin 337 = .ok (.ifCond .ge 32, 3) := by decide +kernel
theorem dX14_begin_340 : decode cX14_begin 340 = .ok (.aload_n 0, 1) := by decide +kernel
theorem dX14_begin_341 : decode cX14_begin 341 = .ok (.aload_n 0, 1) := by decide +kernel
theorem dX14_begin_342 : decode cX14_begin 342 = .ok (.getfield 134, 3) := by decide +kernel
theorem dX14_begin_345 : decode cX14_begin 345 = .ok (.iload_n 3, 1) := by decide +kernel
theorem dX14_begin_346 : decode cX14_begin 346 = .ok (.iaload, 1) := by decide +kernel
theorem dX14_begin_347 : decode cX14_begin 347 = .ok (.invokevirtual 978, 3) := by decide +kernel
theorem dX14_begin_350 : decode cX14_begin 350 = .ok (.ifCond .eq 19, 3) := by decide +kernel
theorem dX14_begin_353 : decode cX14_begin 353 = .ok (.aload_n 0, 1) := by decide +kernel
theorem dX14_begin_354 : decode cX14_begin 354 = .ok (.aload_n 0, 1) := by decide +kernel
theorem dX14_begin_355 : decode cX14_begin 355 = .ok (.getfield 299, 3) := by decide +kernel
theorem dX14_begin_358 : decode cX14_begin 358 = .ok (.iload_n 2, 1) := by decide +kernel
theorem dX14_begin_359 : decode cX14_begin 359 = .ok (.laload, 1) := by decide +kernel
theorem dX14_begin_360 : decode cX14_begin 360 = .ok (.aload_n 0, 1) := by decide +kernel
theorem dX14_begin_361 : decode cX14_begin 361 = .ok (.getfield 134, 3) := by decide +kernel
theorem dX14_begin_364 : decode cX14_begin 364 = .ok (.iload_n 3, 1) := by decide +kernel
theorem dX14_begin_365 : decode cX14_begin 365 = .ok (.iaload, 1) := by decide +kernel
theorem dX14_begin_366 : decode cX14_begin 366 = .ok (.invokevirtual 959, 3) := by decide +kernel
theorem dX14_begin_369 : decode cX14_begin 369 = .ok (.iinc 2 1, 3) := by decide +kernel
theorem dX14_begin_372 : decode cX14_begin 372 = .ok (.goto (-61), 3) := by decide +kernel
theorem dX14_begin_375 : decode cX14_begin 375 = .ok (.return_, 1) := by decide +kernel
def pw_c_X14_put : List Cond := .code yX14_put cX14_put 3 none :: ([.fieldLink RX14 16 "NeedHouseModel" "tape" "[I", .fieldLink RX14 333 "NeedHouseModel" "taped" "I"] ++ (wsX140 ++ []))
set_option maxHeartbeats 4000000 in
set_option maxRecDepth 100000 in
theorem c_X14_put (l : Launch) (dC : Nat → ClassId) (dI : Nat → Nat → Nat) (sz : Nat) (h0 : Nat) (qt : Nat) (cI : ClassId) (fs : List Value) (f : Nat → Int32) (n : Nat) (p0 : Int32) (hF : hasF fs 136 [(2, .ref qt), (3, .int (nI n))]) (hn : n + 4 ≤ 4000) : Met l yX14_put pw_c_X14_put ({ frames := 0, cells := 0, slots := 0, locals := 0 }) (va_Pc [.ref h0, .int p0] (fun U => U.heap.size = sz ∧ va_P (dC, dI) vwCl [(h0, .inr (14, fs)), (qt, .inl (cI, 4000, .inl f))] U.heap ∧ va_K (dC, dI) vwCl [(cI, .int)] U ∧ va_D (fun _ => True) [(h0, .inr (14, fs)), (qt, .inl (cI, 4000, .inl f))])) (va_Qv (fun (u : (List Value) × (Nat → Int32)) => hasF u.1 136 [(3, .int (nI (n + 4)))] ∧ sameF fs u.1 [3]) (fun (u : (List Value) × (Nat → Int32)) (t : State) => va_P (dC, dI) vwCl [(h0, .inr (14, u.1)), (qt, .inl (cI, 4000, .inl u.2))] t.heap ∧ va_K (dC, dI) vwCl [(cI, .int)] t ∧ va_D (va_A [(h0, .inr (14, fs)), (qt, .inl (cI, 4000, .inl f))] sz) [(h0, .inr (14, u.1)), (qt, .inl (cI, 4000, .inl u.2))]) (va_A [(h0, .inr (14, fs)), (qt, .inl (cI, 4000, .inl f))] sz)) 0 0 (va_A [(h0, .inr (14, fs)), (qt, .inl (cI, 4000, .inl f))] sz) := by
  refine Met.ofW (cc := cX14_put) (maxL := 3) (ret := none) (by decide) rfl ?_
  intro p e s m args below meth c s₁ B hml hv
  obtain ⟨rfl, hsz, hP, hK, hD0⟩ := hv
  have hx := B.exec
  have hb := B.bytes
  have hr := B.returns
  have hts := atoms_spec (ws := pw_c_X14_put) B.pre
  have hown : s.vm.findClass RX14 = some m.cls := findClass_of_methodNamed B.named
  have hlocks := B.notSynchronized
  have hin_X14 : ∀ w ∈ u_ws RX14 TX14 136, w ∈ pw_c_X14_put := fun w h => List.mem_cons_of_mem _ (List.mem_append_right _ (List.mem_append_left _ h))
  subst hsz
  have hD := hD0.self (sz := s.heap.size)
  generalize hAe : va_A [(h0, .inr (14, fs)), (qt, .inl (cI, 4000, .inl f))] s.heap.size = A at hD ⊢
  have hA : ∀ q : Nat, s.heap.size ≤ q → A q := fun q h => by rw [← hAe]; exact Or.inr h
  have hS : va_S A s.heap s.heap [] := va_S.rf
  have hP : va_P (dC, dI) vwCl [(h0, .inr (14, fs)), (qt, .inl (cI, 4000, .inl f))] s.heap := hP
  have hl := lv_entry ([.ref h0, .int p0]) (n := 3) (Nat.le_of_ble_eq_true rfl)
  rw [lg_entry_eq]
  generalize (lg_sl ([.ref h0, .int p0]) ++ List.replicate (3 - (lg_sl ([.ref h0, .int p0])).length) Slot.unset).toArray = ls at hl ⊢
  have hl : lv_has ls 3 [(0, .ref h0), (1, .int p0)] := hl
  refine lv_bipush (v := 24) hx hb dX14_put_0 (by decide) ?_
  refine lv_istore_n (lv' := [(2, .int 24), (0, .ref h0), (1, .int p0)]) hx hb dX14_put_2 rfl hl (by decide) rfl (fun ls hl => ?_)
  refine lv_iload_n hx hb dX14_put_3 rfl (lv_at hl 0 rfl) ?_
  refine lv_if_lt (tgt := 39) hx hb dX14_put_4 (by decide) (fun c_1 => absurd c_1 (by decide)) (fun _ => ?_)
  refine lv_aload_n hx hb dX14_put_7 rfl (lv_at hl 1 rfl) ?_
  refine va_get (D := (dC, dI)) (ci := 14) (v := .ref qt) (C := RX14) (T := TX14) (N := 136) hx hb hts hin_X14 hown hK hP 0 rfl rfl 2 (by decide) (hts (.fieldLink RX14 16 "NeedHouseModel" "tape" "[I") (List.mem_of_getElem? (i := 1) rfl)) (fun _ h9 => h9) (hF.at 0 rfl) dX14_put_8 ?_
  refine lv_aload_n hx hb dX14_put_11 rfl (lv_at hl 1 rfl) ?_
  refine va_get (D := (dC, dI)) (ci := 14) (v := .int (nI n)) (C := RX14) (T := TX14) (N := 136) hx hb hts hin_X14 hown hK hP 0 rfl rfl 3 (by decide) (hts (.fieldLink RX14 333 "NeedHouseModel" "taped" "I") (List.mem_of_getElem? (i := 2) rfl)) (fun _ h9 => h9) (hF.at 1 rfl) dX14_put_12 ?_
  refine lv_iload_n hx hb dX14_put_15 rfl (lv_at hl 2 rfl) ?_
  refine lv_iload_n hx hb dX14_put_16 rfl (lv_at hl 0 rfl) ?_
  refine lv_ishr hx hb dX14_put_17 ?_
  refine lv_topi (fun x_2 ex_2 => ?_)
  refine lv_sipush (v := 255) hx hb dX14_put_18 (by decide) ?_
  refine lv_iand hx hb dX14_put_21 ?_
  refine lv_topi (fun x_3 ex_3 => ?_)
  refine va_iast hx hb hK hP hD hS 1 0 rfl rfl (vp_in_nI (by omega) (by decide)) dX14_put_22 (fun H locs hP hD hS => ?_)
  have hP : va_P (dC, dI) vwCl [(h0, .inr (14, fs)), (qt, .inl (cI, 4000, .inl (upd f (nI n : Int32).toNatClampNeg x_3)))] H := hP
  have hD : va_D A [(h0, .inr (14, fs)), (qt, .inl (cI, 4000, .inl (upd f (nI n : Int32).toNatClampNeg x_3)))] := hD
  generalize upd f (nI n : Int32).toNatClampNeg x_3 = f_4 at hP hD
  have hP : va_P (dC, dI) vwCl [(h0, .inr (14, fs)), (qt, .inl (cI, 4000, .inl f_4))] H := hP
  have hD : va_D A [(h0, .inr (14, fs)), (qt, .inl (cI, 4000, .inl f_4))] := hD
  refine lv_aload_n hx hb dX14_put_23 rfl (lv_at hl 1 rfl) ?_
  refine lv_dup hx hb dX14_put_24 rfl ?_
  refine va_get (D := (dC, dI)) (ci := 14) (v := .int (nI n)) (C := RX14) (T := TX14) (N := 136) hx hb hts hin_X14 hown hK hP 0 rfl rfl 3 (by decide) (hts (.fieldLink RX14 333 "NeedHouseModel" "taped" "I") (List.mem_of_getElem? (i := 2) rfl)) (fun _ h9 => h9) (hF.at 1 rfl) dX14_put_25 ?_
  refine lv_iconst (v := 1) hx hb dX14_put_28 (by decide) ?_
  refine lv_iadd hx hb dX14_put_29 ?_
  refine lv_topi (fun x_5 ex_5 => ?_)
  obtain rfl : x_5 = (nI (n + 1)) := ex_5.trans (by first | exact nI_1 _ | exact nI_add _ _)
  refine va_put (D := (dC, dI)) (ci := 14) (v := .int (nI (n + 1))) (ty := .int) (C := RX14) (T := TX14) (N := 136) hx hb hts hin_X14 tyX14 tyX14_ok nmX14 hown hK hP hD hS 0 rfl rfl 3 (by decide) (hts (.fieldLink RX14 333 "NeedHouseModel" "taped" "I") (List.mem_of_getElem? (i := 2) rfl)) (fun _ h9 => h9) rfl (by decide +kernel) rfl rfl (by rw [hF.1]; decide) dX14_put_30 (fun H locs hP hD hS => ?_)
  have hP : va_P (dC, dI) vwCl [(h0, .inr (14, (fs.set 3 (.int (nI (n + 1)))))), (qt, .inl (cI, 4000, .inl f_4))] H := hP
  have hD : va_D A [(h0, .inr (14, (fs.set 3 (.int (nI (n + 1)))))), (qt, .inl (cI, 4000, .inl f_4))] := hD
  have hF_6 := hF.set 3 (.int (nI (n + 1))) (l' := [(3, .int (nI (n + 1))), (2, .ref qt)]) (by decide) rfl
  have hE_7 := (sameF.rf (f := fs)).set 3 (.int (nI (n + 1)))
  generalize fs.set 3 (.int (nI (n + 1))) = fs_8 at hP hD hF_6 hE_7
  have hP : va_P (dC, dI) vwCl [(h0, .inr (14, fs_8)), (qt, .inl (cI, 4000, .inl f_4))] H := hP
  have hD : va_D A [(h0, .inr (14, fs_8)), (qt, .inl (cI, 4000, .inl f_4))] := hD
  refine lv_iinc (v := 16) (lv' := [(2, .int 16), (0, .ref h0), (1, .int p0)]) hx hb dX14_put_33 hl (k := 0) rfl (by decide +kernel) (by decide) rfl (fun ls hl => ?_)
  refine lv_goto (tgt := 3) hx hb dX14_put_36 (by decide) ?_
  refine lv_iload_n hx hb dX14_put_3 rfl (lv_at hl 0 rfl) ?_
  refine lv_if_lt (tgt := 39) hx hb dX14_put_4 (by decide) (fun c_9 => absurd c_9 (by decide)) (fun _ => ?_)
  refine lv_aload_n hx hb dX14_put_7 rfl (lv_at hl 1 rfl) ?_
  refine va_get (D := (dC, dI)) (ci := 14) (v := .ref qt) (C := RX14) (T := TX14) (N := 136) hx hb hts hin_X14 hown hK hP 0 rfl rfl 2 (by decide) (hts (.fieldLink RX14 16 "NeedHouseModel" "tape" "[I") (List.mem_of_getElem? (i := 1) rfl)) (fun _ h9 => h9) (hF_6.at 1 rfl) dX14_put_8 ?_
  refine lv_aload_n hx hb dX14_put_11 rfl (lv_at hl 1 rfl) ?_
  refine va_get (D := (dC, dI)) (ci := 14) (v := .int (nI (n + 1))) (C := RX14) (T := TX14) (N := 136) hx hb hts hin_X14 hown hK hP 0 rfl rfl 3 (by decide) (hts (.fieldLink RX14 333 "NeedHouseModel" "taped" "I") (List.mem_of_getElem? (i := 2) rfl)) (fun _ h9 => h9) (hF_6.at 0 rfl) dX14_put_12 ?_
  refine lv_iload_n hx hb dX14_put_15 rfl (lv_at hl 2 rfl) ?_
  refine lv_iload_n hx hb dX14_put_16 rfl (lv_at hl 0 rfl) ?_
  refine lv_ishr hx hb dX14_put_17 ?_
  refine lv_topi (fun x_10 ex_10 => ?_)
  refine lv_sipush (v := 255) hx hb dX14_put_18 (by decide) ?_
  refine lv_iand hx hb dX14_put_21 ?_
  refine lv_topi (fun x_11 ex_11 => ?_)
  refine va_iast hx hb hK hP hD hS 1 0 rfl rfl (vp_in_nI (by omega) (by decide)) dX14_put_22 (fun H locs hP hD hS => ?_)
  have hP : va_P (dC, dI) vwCl [(h0, .inr (14, fs_8)), (qt, .inl (cI, 4000, .inl (upd f_4 ((nI (n + 1)) : Int32).toNatClampNeg x_11)))] H := hP
  have hD : va_D A [(h0, .inr (14, fs_8)), (qt, .inl (cI, 4000, .inl (upd f_4 ((nI (n + 1)) : Int32).toNatClampNeg x_11)))] := hD
  generalize upd f_4 ((nI (n + 1)) : Int32).toNatClampNeg x_11 = f_12 at hP hD
  have hP : va_P (dC, dI) vwCl [(h0, .inr (14, fs_8)), (qt, .inl (cI, 4000, .inl f_12))] H := hP
  have hD : va_D A [(h0, .inr (14, fs_8)), (qt, .inl (cI, 4000, .inl f_12))] := hD
  refine lv_aload_n hx hb dX14_put_23 rfl (lv_at hl 1 rfl) ?_
  refine lv_dup hx hb dX14_put_24 rfl ?_
  refine va_get (D := (dC, dI)) (ci := 14) (v := .int (nI (n + 1))) (C := RX14) (T := TX14) (N := 136) hx hb hts hin_X14 hown hK hP 0 rfl rfl 3 (by decide) (hts (.fieldLink RX14 333 "NeedHouseModel" "taped" "I") (List.mem_of_getElem? (i := 2) rfl)) (fun _ h9 => h9) (hF_6.at 0 rfl) dX14_put_25 ?_
  refine lv_iconst (v := 1) hx hb dX14_put_28 (by decide) ?_
  refine lv_iadd hx hb dX14_put_29 ?_
  refine lv_topi (fun x_13 ex_13 => ?_)
  obtain rfl : x_13 = (nI (n + 2)) := ex_13.trans (by first | exact nI_1 _ | exact nI_add _ _)
  refine va_put (D := (dC, dI)) (ci := 14) (v := .int (nI (n + 2))) (ty := .int) (C := RX14) (T := TX14) (N := 136) hx hb hts hin_X14 tyX14 tyX14_ok nmX14 hown hK hP hD hS 0 rfl rfl 3 (by decide) (hts (.fieldLink RX14 333 "NeedHouseModel" "taped" "I") (List.mem_of_getElem? (i := 2) rfl)) (fun _ h9 => h9) rfl (by decide +kernel) rfl rfl (by rw [hF_6.1]; decide) dX14_put_30 (fun H locs hP hD hS => ?_)
  have hP : va_P (dC, dI) vwCl [(h0, .inr (14, (fs_8.set 3 (.int (nI (n + 2)))))), (qt, .inl (cI, 4000, .inl f_12))] H := hP
  have hD : va_D A [(h0, .inr (14, (fs_8.set 3 (.int (nI (n + 2)))))), (qt, .inl (cI, 4000, .inl f_12))] := hD
  have hF_14 := hF_6.set 3 (.int (nI (n + 2))) (l' := [(3, .int (nI (n + 2))), (2, .ref qt)]) (by decide) rfl
  have hE_15 := hE_7.set 3 (.int (nI (n + 2)))
  generalize fs_8.set 3 (.int (nI (n + 2))) = fs_16 at hP hD hF_14 hE_15
  have hP : va_P (dC, dI) vwCl [(h0, .inr (14, fs_16)), (qt, .inl (cI, 4000, .inl f_12))] H := hP
  have hD : va_D A [(h0, .inr (14, fs_16)), (qt, .inl (cI, 4000, .inl f_12))] := hD
  refine lv_iinc (v := 8) (lv' := [(2, .int 8), (0, .ref h0), (1, .int p0)]) hx hb dX14_put_33 hl (k := 0) rfl (by decide +kernel) (by decide) rfl (fun ls hl => ?_)
  refine lv_goto (tgt := 3) hx hb dX14_put_36 (by decide) ?_
  refine lv_iload_n hx hb dX14_put_3 rfl (lv_at hl 0 rfl) ?_
  refine lv_if_lt (tgt := 39) hx hb dX14_put_4 (by decide) (fun c_17 => absurd c_17 (by decide)) (fun _ => ?_)
  refine lv_aload_n hx hb dX14_put_7 rfl (lv_at hl 1 rfl) ?_
  refine va_get (D := (dC, dI)) (ci := 14) (v := .ref qt) (C := RX14) (T := TX14) (N := 136) hx hb hts hin_X14 hown hK hP 0 rfl rfl 2 (by decide) (hts (.fieldLink RX14 16 "NeedHouseModel" "tape" "[I") (List.mem_of_getElem? (i := 1) rfl)) (fun _ h9 => h9) (hF_14.at 1 rfl) dX14_put_8 ?_
  refine lv_aload_n hx hb dX14_put_11 rfl (lv_at hl 1 rfl) ?_
  refine va_get (D := (dC, dI)) (ci := 14) (v := .int (nI (n + 2))) (C := RX14) (T := TX14) (N := 136) hx hb hts hin_X14 hown hK hP 0 rfl rfl 3 (by decide) (hts (.fieldLink RX14 333 "NeedHouseModel" "taped" "I") (List.mem_of_getElem? (i := 2) rfl)) (fun _ h9 => h9) (hF_14.at 0 rfl) dX14_put_12 ?_
  refine lv_iload_n hx hb dX14_put_15 rfl (lv_at hl 2 rfl) ?_
  refine lv_iload_n hx hb dX14_put_16 rfl (lv_at hl 0 rfl) ?_
  refine lv_ishr hx hb dX14_put_17 ?_
  refine lv_topi (fun x_18 ex_18 => ?_)
  refine lv_sipush (v := 255) hx hb dX14_put_18 (by decide) ?_
  refine lv_iand hx hb dX14_put_21 ?_
  refine lv_topi (fun x_19 ex_19 => ?_)
  refine va_iast hx hb hK hP hD hS 1 0 rfl rfl (vp_in_nI (by omega) (by decide)) dX14_put_22 (fun H locs hP hD hS => ?_)
  have hP : va_P (dC, dI) vwCl [(h0, .inr (14, fs_16)), (qt, .inl (cI, 4000, .inl (upd f_12 ((nI (n + 2)) : Int32).toNatClampNeg x_19)))] H := hP
  have hD : va_D A [(h0, .inr (14, fs_16)), (qt, .inl (cI, 4000, .inl (upd f_12 ((nI (n + 2)) : Int32).toNatClampNeg x_19)))] := hD
  generalize upd f_12 ((nI (n + 2)) : Int32).toNatClampNeg x_19 = f_20 at hP hD
  have hP : va_P (dC, dI) vwCl [(h0, .inr (14, fs_16)), (qt, .inl (cI, 4000, .inl f_20))] H := hP
  have hD : va_D A [(h0, .inr (14, fs_16)), (qt, .inl (cI, 4000, .inl f_20))] := hD
  refine lv_aload_n hx hb dX14_put_23 rfl (lv_at hl 1 rfl) ?_
  refine lv_dup hx hb dX14_put_24 rfl ?_
  refine va_get (D := (dC, dI)) (ci := 14) (v := .int (nI (n + 2))) (C := RX14) (T := TX14) (N := 136) hx hb hts hin_X14 hown hK hP 0 rfl rfl 3 (by decide) (hts (.fieldLink RX14 333 "NeedHouseModel" "taped" "I") (List.mem_of_getElem? (i := 2) rfl)) (fun _ h9 => h9) (hF_14.at 0 rfl) dX14_put_25 ?_
  refine lv_iconst (v := 1) hx hb dX14_put_28 (by decide) ?_
  refine lv_iadd hx hb dX14_put_29 ?_
  refine lv_topi (fun x_21 ex_21 => ?_)
  obtain rfl : x_21 = (nI (n + 3)) := ex_21.trans (by first | exact nI_1 _ | exact nI_add _ _)
  refine va_put (D := (dC, dI)) (ci := 14) (v := .int (nI (n + 3))) (ty := .int) (C := RX14) (T := TX14) (N := 136) hx hb hts hin_X14 tyX14 tyX14_ok nmX14 hown hK hP hD hS 0 rfl rfl 3 (by decide) (hts (.fieldLink RX14 333 "NeedHouseModel" "taped" "I") (List.mem_of_getElem? (i := 2) rfl)) (fun _ h9 => h9) rfl (by decide +kernel) rfl rfl (by rw [hF_14.1]; decide) dX14_put_30 (fun H locs hP hD hS => ?_)
  have hP : va_P (dC, dI) vwCl [(h0, .inr (14, (fs_16.set 3 (.int (nI (n + 3)))))), (qt, .inl (cI, 4000, .inl f_20))] H := hP
  have hD : va_D A [(h0, .inr (14, (fs_16.set 3 (.int (nI (n + 3)))))), (qt, .inl (cI, 4000, .inl f_20))] := hD
  have hF_22 := hF_14.set 3 (.int (nI (n + 3))) (l' := [(3, .int (nI (n + 3))), (2, .ref qt)]) (by decide) rfl
  have hE_23 := hE_15.set 3 (.int (nI (n + 3)))
  generalize fs_16.set 3 (.int (nI (n + 3))) = fs_24 at hP hD hF_22 hE_23
  have hP : va_P (dC, dI) vwCl [(h0, .inr (14, fs_24)), (qt, .inl (cI, 4000, .inl f_20))] H := hP
  have hD : va_D A [(h0, .inr (14, fs_24)), (qt, .inl (cI, 4000, .inl f_20))] := hD
  refine lv_iinc (v := 0) (lv' := [(2, .int 0), (0, .ref h0), (1, .int p0)]) hx hb dX14_put_33 hl (k := 0) rfl (by decide +kernel) (by decide) rfl (fun ls hl => ?_)
  refine lv_goto (tgt := 3) hx hb dX14_put_36 (by decide) ?_
  refine lv_iload_n hx hb dX14_put_3 rfl (lv_at hl 0 rfl) ?_
  refine lv_if_lt (tgt := 39) hx hb dX14_put_4 (by decide) (fun c_25 => absurd c_25 (by decide)) (fun _ => ?_)
  refine lv_aload_n hx hb dX14_put_7 rfl (lv_at hl 1 rfl) ?_
  refine va_get (D := (dC, dI)) (ci := 14) (v := .ref qt) (C := RX14) (T := TX14) (N := 136) hx hb hts hin_X14 hown hK hP 0 rfl rfl 2 (by decide) (hts (.fieldLink RX14 16 "NeedHouseModel" "tape" "[I") (List.mem_of_getElem? (i := 1) rfl)) (fun _ h9 => h9) (hF_22.at 1 rfl) dX14_put_8 ?_
  refine lv_aload_n hx hb dX14_put_11 rfl (lv_at hl 1 rfl) ?_
  refine va_get (D := (dC, dI)) (ci := 14) (v := .int (nI (n + 3))) (C := RX14) (T := TX14) (N := 136) hx hb hts hin_X14 hown hK hP 0 rfl rfl 3 (by decide) (hts (.fieldLink RX14 333 "NeedHouseModel" "taped" "I") (List.mem_of_getElem? (i := 2) rfl)) (fun _ h9 => h9) (hF_22.at 0 rfl) dX14_put_12 ?_
  refine lv_iload_n hx hb dX14_put_15 rfl (lv_at hl 2 rfl) ?_
  refine lv_iload_n hx hb dX14_put_16 rfl (lv_at hl 0 rfl) ?_
  refine lv_ishr hx hb dX14_put_17 ?_
  refine lv_topi (fun x_26 ex_26 => ?_)
  refine lv_sipush (v := 255) hx hb dX14_put_18 (by decide) ?_
  refine lv_iand hx hb dX14_put_21 ?_
  refine lv_topi (fun x_27 ex_27 => ?_)
  refine va_iast hx hb hK hP hD hS 1 0 rfl rfl (vp_in_nI (by omega) (by decide)) dX14_put_22 (fun H locs hP hD hS => ?_)
  have hP : va_P (dC, dI) vwCl [(h0, .inr (14, fs_24)), (qt, .inl (cI, 4000, .inl (upd f_20 ((nI (n + 3)) : Int32).toNatClampNeg x_27)))] H := hP
  have hD : va_D A [(h0, .inr (14, fs_24)), (qt, .inl (cI, 4000, .inl (upd f_20 ((nI (n + 3)) : Int32).toNatClampNeg x_27)))] := hD
  generalize upd f_20 ((nI (n + 3)) : Int32).toNatClampNeg x_27 = f_28 at hP hD
  have hP : va_P (dC, dI) vwCl [(h0, .inr (14, fs_24)), (qt, .inl (cI, 4000, .inl f_28))] H := hP
  have hD : va_D A [(h0, .inr (14, fs_24)), (qt, .inl (cI, 4000, .inl f_28))] := hD
  refine lv_aload_n hx hb dX14_put_23 rfl (lv_at hl 1 rfl) ?_
  refine lv_dup hx hb dX14_put_24 rfl ?_
  refine va_get (D := (dC, dI)) (ci := 14) (v := .int (nI (n + 3))) (C := RX14) (T := TX14) (N := 136) hx hb hts hin_X14 hown hK hP 0 rfl rfl 3 (by decide) (hts (.fieldLink RX14 333 "NeedHouseModel" "taped" "I") (List.mem_of_getElem? (i := 2) rfl)) (fun _ h9 => h9) (hF_22.at 0 rfl) dX14_put_25 ?_
  refine lv_iconst (v := 1) hx hb dX14_put_28 (by decide) ?_
  refine lv_iadd hx hb dX14_put_29 ?_
  refine lv_topi (fun x_29 ex_29 => ?_)
  obtain rfl : x_29 = (nI (n + 4)) := ex_29.trans (by first | exact nI_1 _ | exact nI_add _ _)
  refine va_put (D := (dC, dI)) (ci := 14) (v := .int (nI (n + 4))) (ty := .int) (C := RX14) (T := TX14) (N := 136) hx hb hts hin_X14 tyX14 tyX14_ok nmX14 hown hK hP hD hS 0 rfl rfl 3 (by decide) (hts (.fieldLink RX14 333 "NeedHouseModel" "taped" "I") (List.mem_of_getElem? (i := 2) rfl)) (fun _ h9 => h9) rfl (by decide +kernel) rfl rfl (by rw [hF_22.1]; decide) dX14_put_30 (fun H locs hP hD hS => ?_)
  have hP : va_P (dC, dI) vwCl [(h0, .inr (14, (fs_24.set 3 (.int (nI (n + 4)))))), (qt, .inl (cI, 4000, .inl f_28))] H := hP
  have hD : va_D A [(h0, .inr (14, (fs_24.set 3 (.int (nI (n + 4)))))), (qt, .inl (cI, 4000, .inl f_28))] := hD
  have hF_30 := hF_22.set 3 (.int (nI (n + 4))) (l' := [(3, .int (nI (n + 4))), (2, .ref qt)]) (by decide) rfl
  have hE_31 := hE_23.set 3 (.int (nI (n + 4)))
  generalize fs_24.set 3 (.int (nI (n + 4))) = fs_32 at hP hD hF_30 hE_31
  have hP : va_P (dC, dI) vwCl [(h0, .inr (14, fs_32)), (qt, .inl (cI, 4000, .inl f_28))] H := hP
  have hD : va_D A [(h0, .inr (14, fs_32)), (qt, .inl (cI, 4000, .inl f_28))] := hD
  refine lv_iinc (v := (-8)) (lv' := [(2, .int (-8)), (0, .ref h0), (1, .int p0)]) hx hb dX14_put_33 hl (k := 0) rfl (by decide +kernel) (by decide) rfl (fun ls hl => ?_)
  refine lv_goto (tgt := 3) hx hb dX14_put_36 (by decide) ?_
  refine lv_iload_n hx hb dX14_put_3 rfl (lv_at hl 0 rfl) ?_
  refine lv_if_lt (tgt := 39) hx hb dX14_put_4 (by decide) (fun _ => ?_) (fun c_33 => absurd (by decide) c_33)
  have hP9 := hP.sub (ws' := [(h0, .inr (14, fs_32)), (qt, .inl (cI, 4000, .inl f_28))]) [0, 1] rfl
  have hD9 := hD.sub (ws' := [(h0, .inr (14, fs_32)), (qt, .inl (cI, 4000, .inl f_28))]) [0, 1] (by decide) rfl
  have hK9 := hK.sub (tys' := [(cI, .int)]) [0] rfl
  exact W.vret hx hb hr (fun t ht hW => ⟨⟨((fs_32, f_28)), rfl, ⟨hF_30.sub [0] rfl, hE_31.mono (by decide)⟩, by rw [ht]; exact hP9, va_K.moved hW.alike hK9, hD9⟩, hS.F ht⟩) hS.2.2 dX14_put_39
def pw_c_X14_feed : List Cond := .code yX14_feed cX14_feed 6 (some .int) :: ([.fieldLink RX14 329 "NeedHouseModel" "thrown" "I", .fieldLink RX14 333 "NeedHouseModel" "taped" "I", .methodLink RX14 336 yX14_put, .instanceMethod yX14_put, .selects RX14 yX14_put yX14_put, .initialized RX14, .code yX14_put cX14_put 3 none, .fieldLink RX14 16 "NeedHouseModel" "tape" "[I"] ++ (wsX140 ++ []))
set_option maxRecDepth 20000 in
theorem g_c_X14_feed_c_X14_put_22 : GoodIn pw_c_X14_feed (wsV RX14 336 RX14 yX14_put pw_c_X14_put) := goodIn_r _ [3, 4, 5, 6, 7, 8, 2, 9, 10, 11, 12, 13, 14, 15, 16, 17, 18, 19, 20, 21, 22, 23, 24, 25, 26, 27, 28, 29, 30, 31, 32, 33, 34, 35, 36, 37, 38, 39, 40, 41, 42, 43, 44, 45, 46, 47, 48, 49, 50, 51, 52, 53, 54, 55, 56, 57, 58, 59, 60, 61, 62, 63, 64, 65, 66, 67, 68, 69, 70, 71, 72, 73, 74, 75, 76, 77, 78, 79, 80, 81, 82, 83, 84, 85, 86, 87, 88, 89, 90, 91, 92, 93, 94, 95, 96, 97, 98, 99, 100, 101, 102, 103, 104, 105, 106, 107, 108, 109, 110, 111, 112, 113, 114, 115, 116, 117, 118, 119, 120, 121, 122, 123, 124, 125, 126, 127, 128, 129, 130, 131, 132, 133, 134, 135, 136, 137, 138, 139, 140, 141, 142, 143, 144] rfl (by decide +kernel)
set_option maxRecDepth 20000 in
theorem g_c_X14_feed_c_X14_put_27 : GoodIn pw_c_X14_feed (wsV RX14 336 RX14 yX14_put pw_c_X14_put) := goodIn_r _ [3, 4, 5, 6, 7, 8, 2, 9, 10, 11, 12, 13, 14, 15, 16, 17, 18, 19, 20, 21, 22, 23, 24, 25, 26, 27, 28, 29, 30, 31, 32, 33, 34, 35, 36, 37, 38, 39, 40, 41, 42, 43, 44, 45, 46, 47, 48, 49, 50, 51, 52, 53, 54, 55, 56, 57, 58, 59, 60, 61, 62, 63, 64, 65, 66, 67, 68, 69, 70, 71, 72, 73, 74, 75, 76, 77, 78, 79, 80, 81, 82, 83, 84, 85, 86, 87, 88, 89, 90, 91, 92, 93, 94, 95, 96, 97, 98, 99, 100, 101, 102, 103, 104, 105, 106, 107, 108, 109, 110, 111, 112, 113, 114, 115, 116, 117, 118, 119, 120, 121, 122, 123, 124, 125, 126, 127, 128, 129, 130, 131, 132, 133, 134, 135, 136, 137, 138, 139, 140, 141, 142, 143, 144] rfl (by decide +kernel)
set_option maxRecDepth 20000 in
theorem g_c_X14_feed_c_X14_put_32 : GoodIn pw_c_X14_feed (wsV RX14 336 RX14 yX14_put pw_c_X14_put) := goodIn_r _ [3, 4, 5, 6, 7, 8, 2, 9, 10, 11, 12, 13, 14, 15, 16, 17, 18, 19, 20, 21, 22, 23, 24, 25, 26, 27, 28, 29, 30, 31, 32, 33, 34, 35, 36, 37, 38, 39, 40, 41, 42, 43, 44, 45, 46, 47, 48, 49, 50, 51, 52, 53, 54, 55, 56, 57, 58, 59, 60, 61, 62, 63, 64, 65, 66, 67, 68, 69, 70, 71, 72, 73, 74, 75, 76, 77, 78, 79, 80, 81, 82, 83, 84, 85, 86, 87, 88, 89, 90, 91, 92, 93, 94, 95, 96, 97, 98, 99, 100, 101, 102, 103, 104, 105, 106, 107, 108, 109, 110, 111, 112, 113, 114, 115, 116, 117, 118, 119, 120, 121, 122, 123, 124, 125, 126, 127, 128, 129, 130, 131, 132, 133, 134, 135, 136, 137, 138, 139, 140, 141, 142, 143, 144] rfl (by decide +kernel)
set_option maxRecDepth 20000 in
theorem g_c_X14_feed_c_X14_put_38 : GoodIn pw_c_X14_feed (wsV RX14 336 RX14 yX14_put pw_c_X14_put) := goodIn_r _ [3, 4, 5, 6, 7, 8, 2, 9, 10, 11, 12, 13, 14, 15, 16, 17, 18, 19, 20, 21, 22, 23, 24, 25, 26, 27, 28, 29, 30, 31, 32, 33, 34, 35, 36, 37, 38, 39, 40, 41, 42, 43, 44, 45, 46, 47, 48, 49, 50, 51, 52, 53, 54, 55, 56, 57, 58, 59, 60, 61, 62, 63, 64, 65, 66, 67, 68, 69, 70, 71, 72, 73, 74, 75, 76, 77, 78, 79, 80, 81, 82, 83, 84, 85, 86, 87, 88, 89, 90, 91, 92, 93, 94, 95, 96, 97, 98, 99, 100, 101, 102, 103, 104, 105, 106, 107, 108, 109, 110, 111, 112, 113, 114, 115, 116, 117, 118, 119, 120, 121, 122, 123, 124, 125, 126, 127, 128, 129, 130, 131, 132, 133, 134, 135, 136, 137, 138, 139, 140, 141, 142, 143, 144] rfl (by decide +kernel)
set_option maxRecDepth 20000 in
theorem g_c_X14_feed_c_X14_put_44 : GoodIn pw_c_X14_feed (wsV RX14 336 RX14 yX14_put pw_c_X14_put) := goodIn_r _ [3, 4, 5, 6, 7, 8, 2, 9, 10, 11, 12, 13, 14, 15, 16, 17, 18, 19, 20, 21, 22, 23, 24, 25, 26, 27, 28, 29, 30, 31, 32, 33, 34, 35, 36, 37, 38, 39, 40, 41, 42, 43, 44, 45, 46, 47, 48, 49, 50, 51, 52, 53, 54, 55, 56, 57, 58, 59, 60, 61, 62, 63, 64, 65, 66, 67, 68, 69, 70, 71, 72, 73, 74, 75, 76, 77, 78, 79, 80, 81, 82, 83, 84, 85, 86, 87, 88, 89, 90, 91, 92, 93, 94, 95, 96, 97, 98, 99, 100, 101, 102, 103, 104, 105, 106, 107, 108, 109, 110, 111, 112, 113, 114, 115, 116, 117, 118, 119, 120, 121, 122, 123, 124, 125, 126, 127, 128, 129, 130, 131, 132, 133, 134, 135, 136, 137, 138, 139, 140, 141, 142, 143, 144] rfl (by decide +kernel)
set_option maxHeartbeats 4000000 in
set_option maxRecDepth 100000 in
theorem c_X14_feed (l : Launch) (dC : Nat → ClassId) (dI : Nat → Nat → Nat) (sz : Nat) (h0 : Nat) (qt : Nat) (cI : ClassId) (fs : List Value) (f : Nat → Int32) (th : Int32) (p0 : Int32) (p1 : Int32) (p2 : Int32) (p3 : Int32) (p4 : Int32) (hF : hasF fs 136 [(1, .int th), (2, .ref qt), (3, .int 0)]) : Met l yX14_feed pw_c_X14_feed ({ frames := 1, cells := 0, slots := 0, locals := 22 }) (va_Pc [.ref h0, .int p0, .int p1, .int p2, .int p3, .int p4] (fun U => U.heap.size = sz ∧ va_P (dC, dI) vwCl [(h0, .inr (14, fs)), (qt, .inl (cI, 4000, .inl f))] U.heap ∧ va_K (dC, dI) vwCl [(cI, .int)] U ∧ va_D (fun _ => True) [(h0, .inr (14, fs)), (qt, .inl (cI, 4000, .inl f))])) (va_Qi (fun (r : Int32) (u : (List Value) × (Nat → Int32)) => r = nI 20 ∧ hasF u.1 136 [(3, .int (nI 20)), (1, .int 0)] ∧ sameF fs u.1 [3, 1]) (fun (u : (List Value) × (Nat → Int32)) (t : State) => va_P (dC, dI) vwCl [(h0, .inr (14, u.1)), (qt, .inl (cI, 4000, .inl u.2))] t.heap ∧ va_K (dC, dI) vwCl [(cI, .int)] t ∧ va_D (va_A [(h0, .inr (14, fs)), (qt, .inl (cI, 4000, .inl f))] sz) [(h0, .inr (14, u.1)), (qt, .inl (cI, 4000, .inl u.2))]) (va_A [(h0, .inr (14, fs)), (qt, .inl (cI, 4000, .inl f))] sz)) 0 0 (va_A [(h0, .inr (14, fs)), (qt, .inl (cI, 4000, .inl f))] sz) := by
  refine Met.ofW (cc := cX14_feed) (maxL := 6) (ret := (some .int)) (by decide) rfl ?_
  intro p e s m args below meth c s₁ B hml hv
  obtain ⟨rfl, hsz, hP, hK, hD0⟩ := hv
  have hx := B.exec
  have hb := B.bytes
  have hr := B.returns
  have hts := atoms_spec (ws := pw_c_X14_feed) B.pre
  have hown : s.vm.findClass RX14 = some m.cls := findClass_of_methodNamed B.named
  have hlocks := B.notSynchronized
  have hin_X14 : ∀ w ∈ u_ws RX14 TX14 136, w ∈ pw_c_X14_feed := fun w h => List.mem_cons_of_mem _ (List.mem_append_right _ (List.mem_append_left _ h))
  subst hsz
  have hD := hD0.self (sz := s.heap.size)
  generalize hAe : va_A [(h0, .inr (14, fs)), (qt, .inl (cI, 4000, .inl f))] s.heap.size = A at hD ⊢
  have hA : ∀ q : Nat, s.heap.size ≤ q → A q := fun q h => by rw [← hAe]; exact Or.inr h
  have hS : va_S A s.heap s.heap [] := va_S.rf
  have hP : va_P (dC, dI) vwCl [(h0, .inr (14, fs)), (qt, .inl (cI, 4000, .inl f))] s.heap := hP
  have hl := lv_entry ([.ref h0, .int p0, .int p1, .int p2, .int p3, .int p4]) (n := 6) (Nat.le_of_ble_eq_true rfl)
  rw [lg_entry_eq]
  generalize (lg_sl ([.ref h0, .int p0, .int p1, .int p2, .int p3, .int p4]) ++ List.replicate (6 - (lg_sl ([.ref h0, .int p0, .int p1, .int p2, .int p3, .int p4])).length) Slot.unset).toArray = ls at hl ⊢
  have hl : lv_has ls 6 [(0, .ref h0), (1, .int p0), (2, .int p1), (3, .int p2), (4, .int p3), (5, .int p4)] := hl
  refine lv_aload_n hx hb dX14_feed_0 rfl (lv_at hl 0 rfl) ?_
  refine lv_iconst (v := 0) hx hb dX14_feed_1 (by decide) ?_
  refine va_put (D := (dC, dI)) (ci := 14) (v := .int 0) (ty := .int) (C := RX14) (T := TX14) (N := 136) hx hb hts hin_X14 tyX14 tyX14_ok nmX14 hown hK hP hD hS 0 rfl rfl 1 (by decide) (hts (.fieldLink RX14 329 "NeedHouseModel" "thrown" "I") (List.mem_of_getElem? (i := 1) rfl)) (fun _ h9 => h9) rfl (by decide +kernel) rfl rfl (by rw [hF.1]; decide) dX14_feed_2 (fun H locs hP hD hS => ?_)
  have hP : va_P (dC, dI) vwCl [(h0, .inr (14, (fs.set 1 (.int 0)))), (qt, .inl (cI, 4000, .inl f))] H := hP
  have hD : va_D A [(h0, .inr (14, (fs.set 1 (.int 0)))), (qt, .inl (cI, 4000, .inl f))] := hD
  have hF_1 := hF.set 1 (.int 0) (l' := [(1, .int 0), (2, .ref qt), (3, .int 0)]) (by decide) rfl
  have hE_2 := (sameF.rf (f := fs)).set 1 (.int 0)
  generalize fs.set 1 (.int 0) = fs_3 at hP hD hF_1 hE_2
  have hP : va_P (dC, dI) vwCl [(h0, .inr (14, fs_3)), (qt, .inl (cI, 4000, .inl f))] H := hP
  have hD : va_D A [(h0, .inr (14, fs_3)), (qt, .inl (cI, 4000, .inl f))] := hD
  refine lv_aload_n hx hb dX14_feed_5 rfl (lv_at hl 0 rfl) ?_
  refine va_get (D := (dC, dI)) (ci := 14) (v := .int 0) (C := RX14) (T := TX14) (N := 136) hx hb hts hin_X14 hown hK hP 0 rfl rfl 3 (by decide) (hts (.fieldLink RX14 333 "NeedHouseModel" "taped" "I") (List.mem_of_getElem? (i := 2) rfl)) (fun _ h9 => h9) (hF_1.at 2 rfl) dX14_feed_6 ?_
  refine lv_bipush (v := 20) hx hb dX14_feed_9 (by decide) ?_
  refine lv_iadd hx hb dX14_feed_11 ?_
  refine lv_topi (fun x_4 ex_4 => ?_)
  obtain rfl : x_4 = 20 := ex_4.trans (by decide +kernel)
  refine lv_sipush (v := 4000) hx hb dX14_feed_12 (by decide) ?_
  refine lv_icmp_le (tgt := 20) hx hb dX14_feed_15 (by decide) (fun _ => ?_) (fun c_5 => absurd (by decide) c_5)
  refine lv_aload_n hx hb dX14_feed_20 rfl (lv_at hl 0 rfl) ?_
  refine lv_iload_n hx hb dX14_feed_21 rfl (lv_at hl 1 rfl) ?_
  have hF_6 : hasF fs_3 136 [(1, .int 0), (2, .ref qt), (3, .int (nI 0))] := hF_1
  have hPc := hP.sub (ws' := [(h0, .inr (14, fs_3)), (qt, .inl (cI, 4000, .inl f))]) [0, 1] rfl
  have hDc := hD.sub (ws' := [(h0, .inr (14, fs_3)), (qt, .inl (cI, 4000, .inl f))]) [0, 1] (by decide) rfl
  have hKc := hK.sub (tys' := [(cI, .int)]) [0] rfl
  have hFc := va_free (wc := [(h0, .inr (14, fs_3)), (qt, .inl (cI, 4000, .inl f))]) hD hS hA [0, 1] rfl
  refine va_callv (va_runV (As := [.int p0]) (rest := []) ⟨hx, hb, hml, hown, hts⟩ (c_X14_put l dC dI H.size h0 qt cI fs_3 f 0 p0 (hF_6.sub [1, 2] rfl) (by decide)) (cwV 1 hts g_c_X14_feed_c_X14_put_22 rfl rfl rfl (by decide +kernel) ⟨Nat.le_of_ble_eq_true rfl, Nat.le_of_ble_eq_true rfl⟩) ⟨fun a U g mk q => by obtain ⟨q0, q1, qP, qK, qD⟩ := q; exact ⟨q0, q1, qP, va_K.moved (u := U) (U := U.calling g mk a) (Vm.Alike.refl U.vm) qK, qD⟩, va_recv hKc hPc (ci := 14) (q0 := 0) rfl rfl, fun U hU hW => ⟨rfl, by rw [hU], by rw [hU]; exact hPc, va_K.moved hW.alike hKc, hDc.weaken (fun _ _ _ _ => trivial)⟩⟩ rfl rfl hl.1 rfl (lv_room (Nat.le_of_ble_eq_true rfl)) dX14_feed_22 ⟨show 0 + 0 ≤ 0 by decide, show 0 + 0 ≤ 0 by decide⟩) hS (fun q _ h => hFc q h) hFc (fun u t H1 locs ht hvm hw hB hz1 hk1 hS => ?_)
  obtain ⟨fs1_9, f1_10⟩ := u
  obtain ⟨hP1, hK1, hD1⟩ := hB
  rw [ht] at hP1
  have hK1 := va_K.moved hvm.symm hK1
  try dsimp only at hw hP1 hK1 hD1
  obtain ⟨hF_11, hE_12⟩ := hw
  obtain ⟨hP, hD⟩ := va_join (wr := []) (w1 := [(h0, .inr (14, fs1_9)), (qt, .inl (cI, 4000, .inl f1_10))]) hP hD [0, 1] [] rfl rfl (by decide) (by decide) hk1 hFc hP1 hD1
  generalize H1 = H at hP hS ⊢
  have hK := (hK.sub (tys' := []) [] rfl).app hK1
  have hK : va_K (dC, dI) vwCl [(cI, .int)] s := hK
  have hP : va_P (dC, dI) vwCl [(h0, .inr (14, fs1_9)), (qt, .inl (cI, 4000, .inl f1_10))] H := hP
  have hD : va_D A [(h0, .inr (14, fs1_9)), (qt, .inl (cI, 4000, .inl f1_10))] := hD
  have hF_13 := hF_6.same hE_12 (l' := [(1, .int 0), (2, .ref qt)]) rfl
  have hF_14 := hF_11.app hF_13
  have hE_15 := hE_2.trans hE_12
  refine lv_aload_n hx hb dX14_feed_25 rfl (lv_at hl 0 rfl) ?_
  refine lv_iload_n hx hb dX14_feed_26 rfl (lv_at hl 2 rfl) ?_
  have hF_16 : hasF fs1_9 136 [(3, .int (nI 4)), (1, .int 0), (2, .ref qt)] := hF_14
  have hPc := hP.sub (ws' := [(h0, .inr (14, fs1_9)), (qt, .inl (cI, 4000, .inl f1_10))]) [0, 1] rfl
  have hDc := hD.sub (ws' := [(h0, .inr (14, fs1_9)), (qt, .inl (cI, 4000, .inl f1_10))]) [0, 1] (by decide) rfl
  have hKc := hK.sub (tys' := [(cI, .int)]) [0] rfl
  have hFc := va_free (wc := [(h0, .inr (14, fs1_9)), (qt, .inl (cI, 4000, .inl f1_10))]) hD hS hA [0, 1] rfl
  refine va_callv (va_runV (As := [.int p1]) (rest := []) ⟨hx, hb, hml, hown, hts⟩ (c_X14_put l dC dI H.size h0 qt cI fs1_9 f1_10 4 p1 (hF_16.sub [2, 0] rfl) (by decide)) (cwV 1 hts g_c_X14_feed_c_X14_put_27 rfl rfl rfl (by decide +kernel) ⟨Nat.le_of_ble_eq_true rfl, Nat.le_of_ble_eq_true rfl⟩) ⟨fun a U g mk q => by obtain ⟨q0, q1, qP, qK, qD⟩ := q; exact ⟨q0, q1, qP, va_K.moved (u := U) (U := U.calling g mk a) (Vm.Alike.refl U.vm) qK, qD⟩, va_recv hKc hPc (ci := 14) (q0 := 0) rfl rfl, fun U hU hW => ⟨rfl, by rw [hU], by rw [hU]; exact hPc, va_K.moved hW.alike hKc, hDc.weaken (fun _ _ _ _ => trivial)⟩⟩ rfl rfl hl.1 rfl (lv_room (Nat.le_of_ble_eq_true rfl)) dX14_feed_27 ⟨show 0 + 0 ≤ 0 by decide, show 0 + 0 ≤ 0 by decide⟩) hS (fun q _ h => hFc q h) hFc (fun u t H1 locs ht hvm hw hB hz1 hk1 hS => ?_)
  obtain ⟨fs1_19, f1_20⟩ := u
  obtain ⟨hP1, hK1, hD1⟩ := hB
  rw [ht] at hP1
  have hK1 := va_K.moved hvm.symm hK1
  try dsimp only at hw hP1 hK1 hD1
  obtain ⟨hF_21, hE_22⟩ := hw
  obtain ⟨hP, hD⟩ := va_join (wr := []) (w1 := [(h0, .inr (14, fs1_19)), (qt, .inl (cI, 4000, .inl f1_20))]) hP hD [0, 1] [] rfl rfl (by decide) (by decide) hk1 hFc hP1 hD1
  generalize H1 = H at hP hS ⊢
  have hK := (hK.sub (tys' := []) [] rfl).app hK1
  have hK : va_K (dC, dI) vwCl [(cI, .int)] s := hK
  have hP : va_P (dC, dI) vwCl [(h0, .inr (14, fs1_19)), (qt, .inl (cI, 4000, .inl f1_20))] H := hP
  have hD : va_D A [(h0, .inr (14, fs1_19)), (qt, .inl (cI, 4000, .inl f1_20))] := hD
  have hF_23 := hF_16.same hE_22 (l' := [(1, .int 0), (2, .ref qt)]) rfl
  have hF_24 := hF_21.app hF_23
  have hE_25 := hE_15.trans hE_22
  refine lv_aload_n hx hb dX14_feed_30 rfl (lv_at hl 0 rfl) ?_
  refine lv_iload_n hx hb dX14_feed_31 rfl (lv_at hl 3 rfl) ?_
  have hF_26 : hasF fs1_19 136 [(3, .int (nI 8)), (1, .int 0), (2, .ref qt)] := hF_24
  have hPc := hP.sub (ws' := [(h0, .inr (14, fs1_19)), (qt, .inl (cI, 4000, .inl f1_20))]) [0, 1] rfl
  have hDc := hD.sub (ws' := [(h0, .inr (14, fs1_19)), (qt, .inl (cI, 4000, .inl f1_20))]) [0, 1] (by decide) rfl
  have hKc := hK.sub (tys' := [(cI, .int)]) [0] rfl
  have hFc := va_free (wc := [(h0, .inr (14, fs1_19)), (qt, .inl (cI, 4000, .inl f1_20))]) hD hS hA [0, 1] rfl
  refine va_callv (va_runV (As := [.int p2]) (rest := []) ⟨hx, hb, hml, hown, hts⟩ (c_X14_put l dC dI H.size h0 qt cI fs1_19 f1_20 8 p2 (hF_26.sub [2, 0] rfl) (by decide)) (cwV 1 hts g_c_X14_feed_c_X14_put_32 rfl rfl rfl (by decide +kernel) ⟨Nat.le_of_ble_eq_true rfl, Nat.le_of_ble_eq_true rfl⟩) ⟨fun a U g mk q => by obtain ⟨q0, q1, qP, qK, qD⟩ := q; exact ⟨q0, q1, qP, va_K.moved (u := U) (U := U.calling g mk a) (Vm.Alike.refl U.vm) qK, qD⟩, va_recv hKc hPc (ci := 14) (q0 := 0) rfl rfl, fun U hU hW => ⟨rfl, by rw [hU], by rw [hU]; exact hPc, va_K.moved hW.alike hKc, hDc.weaken (fun _ _ _ _ => trivial)⟩⟩ rfl rfl hl.1 rfl (lv_room (Nat.le_of_ble_eq_true rfl)) dX14_feed_32 ⟨show 0 + 0 ≤ 0 by decide, show 0 + 0 ≤ 0 by decide⟩) hS (fun q _ h => hFc q h) hFc (fun u t H1 locs ht hvm hw hB hz1 hk1 hS => ?_)
  obtain ⟨fs1_29, f1_30⟩ := u
  obtain ⟨hP1, hK1, hD1⟩ := hB
  rw [ht] at hP1
  have hK1 := va_K.moved hvm.symm hK1
  try dsimp only at hw hP1 hK1 hD1
  obtain ⟨hF_31, hE_32⟩ := hw
  obtain ⟨hP, hD⟩ := va_join (wr := []) (w1 := [(h0, .inr (14, fs1_29)), (qt, .inl (cI, 4000, .inl f1_30))]) hP hD [0, 1] [] rfl rfl (by decide) (by decide) hk1 hFc hP1 hD1
  generalize H1 = H at hP hS ⊢
  have hK := (hK.sub (tys' := []) [] rfl).app hK1
  have hK : va_K (dC, dI) vwCl [(cI, .int)] s := hK
  have hP : va_P (dC, dI) vwCl [(h0, .inr (14, fs1_29)), (qt, .inl (cI, 4000, .inl f1_30))] H := hP
  have hD : va_D A [(h0, .inr (14, fs1_29)), (qt, .inl (cI, 4000, .inl f1_30))] := hD
  have hF_33 := hF_26.same hE_32 (l' := [(1, .int 0), (2, .ref qt)]) rfl
  have hF_34 := hF_31.app hF_33
  have hE_35 := hE_25.trans hE_32
  refine lv_aload_n hx hb dX14_feed_35 rfl (lv_at hl 0 rfl) ?_
  refine lv_iload hx hb dX14_feed_36 (lv_at hl 4 rfl) ?_
  have hF_36 : hasF fs1_29 136 [(3, .int (nI 12)), (1, .int 0), (2, .ref qt)] := hF_34
  have hPc := hP.sub (ws' := [(h0, .inr (14, fs1_29)), (qt, .inl (cI, 4000, .inl f1_30))]) [0, 1] rfl
  have hDc := hD.sub (ws' := [(h0, .inr (14, fs1_29)), (qt, .inl (cI, 4000, .inl f1_30))]) [0, 1] (by decide) rfl
  have hKc := hK.sub (tys' := [(cI, .int)]) [0] rfl
  have hFc := va_free (wc := [(h0, .inr (14, fs1_29)), (qt, .inl (cI, 4000, .inl f1_30))]) hD hS hA [0, 1] rfl
  refine va_callv (va_runV (As := [.int p3]) (rest := []) ⟨hx, hb, hml, hown, hts⟩ (c_X14_put l dC dI H.size h0 qt cI fs1_29 f1_30 12 p3 (hF_36.sub [2, 0] rfl) (by decide)) (cwV 1 hts g_c_X14_feed_c_X14_put_38 rfl rfl rfl (by decide +kernel) ⟨Nat.le_of_ble_eq_true rfl, Nat.le_of_ble_eq_true rfl⟩) ⟨fun a U g mk q => by obtain ⟨q0, q1, qP, qK, qD⟩ := q; exact ⟨q0, q1, qP, va_K.moved (u := U) (U := U.calling g mk a) (Vm.Alike.refl U.vm) qK, qD⟩, va_recv hKc hPc (ci := 14) (q0 := 0) rfl rfl, fun U hU hW => ⟨rfl, by rw [hU], by rw [hU]; exact hPc, va_K.moved hW.alike hKc, hDc.weaken (fun _ _ _ _ => trivial)⟩⟩ rfl rfl hl.1 rfl (lv_room (Nat.le_of_ble_eq_true rfl)) dX14_feed_38 ⟨show 0 + 0 ≤ 0 by decide, show 0 + 0 ≤ 0 by decide⟩) hS (fun q _ h => hFc q h) hFc (fun u t H1 locs ht hvm hw hB hz1 hk1 hS => ?_)
  obtain ⟨fs1_39, f1_40⟩ := u
  obtain ⟨hP1, hK1, hD1⟩ := hB
  rw [ht] at hP1
  have hK1 := va_K.moved hvm.symm hK1
  try dsimp only at hw hP1 hK1 hD1
  obtain ⟨hF_41, hE_42⟩ := hw
  obtain ⟨hP, hD⟩ := va_join (wr := []) (w1 := [(h0, .inr (14, fs1_39)), (qt, .inl (cI, 4000, .inl f1_40))]) hP hD [0, 1] [] rfl rfl (by decide) (by decide) hk1 hFc hP1 hD1
  generalize H1 = H at hP hS ⊢
  have hK := (hK.sub (tys' := []) [] rfl).app hK1
  have hK : va_K (dC, dI) vwCl [(cI, .int)] s := hK
  have hP : va_P (dC, dI) vwCl [(h0, .inr (14, fs1_39)), (qt, .inl (cI, 4000, .inl f1_40))] H := hP
  have hD : va_D A [(h0, .inr (14, fs1_39)), (qt, .inl (cI, 4000, .inl f1_40))] := hD
  have hF_43 := hF_36.same hE_42 (l' := [(1, .int 0), (2, .ref qt)]) rfl
  have hF_44 := hF_41.app hF_43
  have hE_45 := hE_35.trans hE_42
  refine lv_aload_n hx hb dX14_feed_41 rfl (lv_at hl 0 rfl) ?_
  refine lv_iload hx hb dX14_feed_42 (lv_at hl 5 rfl) ?_
  have hF_46 : hasF fs1_39 136 [(3, .int (nI 16)), (1, .int 0), (2, .ref qt)] := hF_44
  have hPc := hP.sub (ws' := [(h0, .inr (14, fs1_39)), (qt, .inl (cI, 4000, .inl f1_40))]) [0, 1] rfl
  have hDc := hD.sub (ws' := [(h0, .inr (14, fs1_39)), (qt, .inl (cI, 4000, .inl f1_40))]) [0, 1] (by decide) rfl
  have hKc := hK.sub (tys' := [(cI, .int)]) [0] rfl
  have hFc := va_free (wc := [(h0, .inr (14, fs1_39)), (qt, .inl (cI, 4000, .inl f1_40))]) hD hS hA [0, 1] rfl
  refine va_callv (va_runV (As := [.int p4]) (rest := []) ⟨hx, hb, hml, hown, hts⟩ (c_X14_put l dC dI H.size h0 qt cI fs1_39 f1_40 16 p4 (hF_46.sub [2, 0] rfl) (by decide)) (cwV 1 hts g_c_X14_feed_c_X14_put_44 rfl rfl rfl (by decide +kernel) ⟨Nat.le_of_ble_eq_true rfl, Nat.le_of_ble_eq_true rfl⟩) ⟨fun a U g mk q => by obtain ⟨q0, q1, qP, qK, qD⟩ := q; exact ⟨q0, q1, qP, va_K.moved (u := U) (U := U.calling g mk a) (Vm.Alike.refl U.vm) qK, qD⟩, va_recv hKc hPc (ci := 14) (q0 := 0) rfl rfl, fun U hU hW => ⟨rfl, by rw [hU], by rw [hU]; exact hPc, va_K.moved hW.alike hKc, hDc.weaken (fun _ _ _ _ => trivial)⟩⟩ rfl rfl hl.1 rfl (lv_room (Nat.le_of_ble_eq_true rfl)) dX14_feed_44 ⟨show 0 + 0 ≤ 0 by decide, show 0 + 0 ≤ 0 by decide⟩) hS (fun q _ h => hFc q h) hFc (fun u t H1 locs ht hvm hw hB hz1 hk1 hS => ?_)
  obtain ⟨fs1_49, f1_50⟩ := u
  obtain ⟨hP1, hK1, hD1⟩ := hB
  rw [ht] at hP1
  have hK1 := va_K.moved hvm.symm hK1
  try dsimp only at hw hP1 hK1 hD1
  obtain ⟨hF_51, hE_52⟩ := hw
  obtain ⟨hP, hD⟩ := va_join (wr := []) (w1 := [(h0, .inr (14, fs1_49)), (qt, .inl (cI, 4000, .inl f1_50))]) hP hD [0, 1] [] rfl rfl (by decide) (by decide) hk1 hFc hP1 hD1
  generalize H1 = H at hP hS ⊢
  have hK := (hK.sub (tys' := []) [] rfl).app hK1
  have hK : va_K (dC, dI) vwCl [(cI, .int)] s := hK
  have hP : va_P (dC, dI) vwCl [(h0, .inr (14, fs1_49)), (qt, .inl (cI, 4000, .inl f1_50))] H := hP
  have hD : va_D A [(h0, .inr (14, fs1_49)), (qt, .inl (cI, 4000, .inl f1_50))] := hD
  have hF_53 := hF_46.same hE_52 (l' := [(1, .int 0), (2, .ref qt)]) rfl
  have hF_54 := hF_51.app hF_53
  have hE_55 := hE_45.trans hE_52
  refine lv_aload_n hx hb dX14_feed_47 rfl (lv_at hl 0 rfl) ?_
  refine va_get (D := (dC, dI)) (ci := 14) (v := .int (nI (16 + 4))) (C := RX14) (T := TX14) (N := 136) hx hb hts hin_X14 hown hK hP 0 rfl rfl 3 (by decide) (hts (.fieldLink RX14 333 "NeedHouseModel" "taped" "I") (List.mem_of_getElem? (i := 2) rfl)) (fun _ h9 => h9) (hF_54.at 0 rfl) dX14_feed_48 ?_
  have hP9 := hP.sub (ws' := [(h0, .inr (14, fs1_49)), (qt, .inl (cI, 4000, .inl f1_50))]) [0, 1] rfl
  have hD9 := hD.sub (ws' := [(h0, .inr (14, fs1_49)), (qt, .inl (cI, 4000, .inl f1_50))]) [0, 1] (by decide) rfl
  have hK9 := hK.sub (tys' := [(cI, .int)]) [0] rfl
  exact W.iret (v := nI (16 + 4)) hx hb hr (fun t ht hW => ⟨⟨nI (16 + 4), ((fs1_49, f1_50)), rfl, ⟨rfl, hF_54.sub [0, 1] rfl, hE_55.mono (by decide)⟩, by rw [ht]; exact hP9, va_K.moved hW.alike hK9, hD9⟩, hS.F ht⟩) hS.2.2 dX14_feed_51
def pw_c_X14_back : List Cond := .code yX14_back cX14_back 2 (some .int) :: ([.fieldLink RX14 329 "NeedHouseModel" "thrown" "I", .fieldLink RX14 333 "NeedHouseModel" "taped" "I"] ++ (wsX140 ++ []))
set_option maxHeartbeats 4000000 in
set_option maxRecDepth 100000 in
theorem c_X14_back (l : Launch) (dC : Nat → ClassId) (dI : Nat → Nat → Nat) (sz : Nat) (h0 : Nat) (fs : List Value) (th : Int32) (p0 : Int32) (hF : hasF fs 136 [(1, .int th), (3, .int 0)]) : Met l yX14_back pw_c_X14_back ({ frames := 0, cells := 0, slots := 0, locals := 0 }) (va_Pc [.ref h0, .int p0] (fun U => U.heap.size = sz ∧ va_P (dC, dI) vwCl [(h0, .inr (14, fs))] U.heap ∧ va_K (dC, dI) vwCl [] U ∧ va_D (fun _ => True) [(h0, .inr (14, fs))])) (va_Qi (fun (r : Int32) (u : (List Value)) => r = (if p0 < 0 ∨ ¬ p0 ≤ 0 then -1 else 0) ∧ hasF u 136 [(1, .int 0), (3, .int 0)] ∧ sameF fs u [1, 3]) (fun (u : (List Value)) (t : State) => va_P (dC, dI) vwCl [(h0, .inr (14, u))] t.heap ∧ va_K (dC, dI) vwCl [] t ∧ va_D (va_A [(h0, .inr (14, fs))] sz) [(h0, .inr (14, u))]) (va_A [(h0, .inr (14, fs))] sz)) 0 0 (va_A [(h0, .inr (14, fs))] sz) := by
  refine Met.ofW (cc := cX14_back) (maxL := 2) (ret := (some .int)) (by decide) rfl ?_
  intro p e s m args below meth c s₁ B hml hv
  obtain ⟨rfl, hsz, hP, hK, hD0⟩ := hv
  have hx := B.exec
  have hb := B.bytes
  have hr := B.returns
  have hts := atoms_spec (ws := pw_c_X14_back) B.pre
  have hown : s.vm.findClass RX14 = some m.cls := findClass_of_methodNamed B.named
  have hlocks := B.notSynchronized
  have hin_X14 : ∀ w ∈ u_ws RX14 TX14 136, w ∈ pw_c_X14_back := fun w h => List.mem_cons_of_mem _ (List.mem_append_right _ (List.mem_append_left _ h))
  subst hsz
  have hD := hD0.self (sz := s.heap.size)
  generalize hAe : va_A [(h0, .inr (14, fs))] s.heap.size = A at hD ⊢
  have hA : ∀ q : Nat, s.heap.size ≤ q → A q := fun q h => by rw [← hAe]; exact Or.inr h
  have hS : va_S A s.heap s.heap [] := va_S.rf
  have hP : va_P (dC, dI) vwCl [(h0, .inr (14, fs))] s.heap := hP
  have hl := lv_entry ([.ref h0, .int p0]) (n := 2) (Nat.le_of_ble_eq_true rfl)
  rw [lg_entry_eq]
  generalize (lg_sl ([.ref h0, .int p0]) ++ List.replicate (2 - (lg_sl ([.ref h0, .int p0])).length) Slot.unset).toArray = ls at hl ⊢
  have hl : lv_has ls 2 [(0, .ref h0), (1, .int p0)] := hl
  refine lv_aload_n hx hb dX14_back_0 rfl (lv_at hl 0 rfl) ?_
  refine lv_iconst (v := 0) hx hb dX14_back_1 (by decide) ?_
  refine va_put (D := (dC, dI)) (ci := 14) (v := .int 0) (ty := .int) (C := RX14) (T := TX14) (N := 136) hx hb hts hin_X14 tyX14 tyX14_ok nmX14 hown hK hP hD hS 0 rfl rfl 1 (by decide) (hts (.fieldLink RX14 329 "NeedHouseModel" "thrown" "I") (List.mem_of_getElem? (i := 1) rfl)) (fun _ h9 => h9) rfl (by decide +kernel) rfl rfl (by rw [hF.1]; decide) dX14_back_2 (fun H locs hP hD hS => ?_)
  have hP : va_P (dC, dI) vwCl [(h0, .inr (14, (fs.set 1 (.int 0))))] H := hP
  have hD : va_D A [(h0, .inr (14, (fs.set 1 (.int 0))))] := hD
  have hF_1 := hF.set 1 (.int 0) (l' := [(1, .int 0), (3, .int 0)]) (by decide) rfl
  have hE_2 := (sameF.rf (f := fs)).set 1 (.int 0)
  generalize fs.set 1 (.int 0) = fs_3 at hP hD hF_1 hE_2
  have hP : va_P (dC, dI) vwCl [(h0, .inr (14, fs_3))] H := hP
  have hD : va_D A [(h0, .inr (14, fs_3))] := hD
  refine lv_iload_n hx hb dX14_back_5 rfl (lv_at hl 1 rfl) ?_
  refine lv_if_lt (tgt := 17) hx hb dX14_back_6 (by decide) (fun c_4 => ?_) (fun c_4 => ?_)
  ·
    refine lv_iconst (v := (-1)) hx hb dX14_back_17 (by decide) ?_
    have hP9 := hP.sub (ws' := [(h0, .inr (14, fs_3))]) [0] rfl
    have hD9 := hD.sub (ws' := [(h0, .inr (14, fs_3))]) [0] (by decide) rfl
    have hK9 := hK.sub (tys' := []) [] rfl
    exact W.iret (v := (-1)) hx hb hr (fun t ht hW => ⟨⟨(-1), (fs_3), rfl, ⟨(if_pos (Or.inl c_4)).symm, hF_1.sub [0, 1] rfl, hE_2.mono (by decide)⟩, by rw [ht]; exact hP9, va_K.moved hW.alike hK9, hD9⟩, hS.F ht⟩) hS.2.2 dX14_back_18
  ·
    refine lv_iload_n hx hb dX14_back_9 rfl (lv_at hl 1 rfl) ?_
    refine lv_aload_n hx hb dX14_back_10 rfl (lv_at hl 0 rfl) ?_
    refine va_get (D := (dC, dI)) (ci := 14) (v := .int 0) (C := RX14) (T := TX14) (N := 136) hx hb hts hin_X14 hown hK hP 0 rfl rfl 3 (by decide) (hts (.fieldLink RX14 333 "NeedHouseModel" "taped" "I") (List.mem_of_getElem? (i := 2) rfl)) (fun _ h9 => h9) (hF_1.at 1 rfl) dX14_back_11 ?_
    refine lv_icmp_le (tgt := 19) hx hb dX14_back_14 (by decide) (fun c_5 => ?_) (fun c_5 => ?_)
    ·
      obtain rfl : p0 = 0 := Int32.le_antisymm c_5 (Int32.not_lt.mp c_4)
      refine lv_aload_n hx hb dX14_back_19 rfl (lv_at hl 0 rfl) ?_
      refine lv_dup hx hb dX14_back_20 rfl ?_
      refine va_get (D := (dC, dI)) (ci := 14) (v := .int 0) (C := RX14) (T := TX14) (N := 136) hx hb hts hin_X14 hown hK hP 0 rfl rfl 3 (by decide) (hts (.fieldLink RX14 333 "NeedHouseModel" "taped" "I") (List.mem_of_getElem? (i := 2) rfl)) (fun _ h9 => h9) (hF_1.at 1 rfl) dX14_back_21 ?_
      refine lv_iload_n hx hb dX14_back_24 rfl (lv_at hl 1 rfl) ?_
      refine lv_isub hx hb dX14_back_25 ?_
      refine lv_topi (fun x_6 ex_6 => ?_)
      obtain rfl : x_6 = 0 := ex_6.trans (by decide +kernel)
      refine va_put (D := (dC, dI)) (ci := 14) (v := .int 0) (ty := .int) (C := RX14) (T := TX14) (N := 136) hx hb hts hin_X14 tyX14 tyX14_ok nmX14 hown hK hP hD hS 0 rfl rfl 3 (by decide) (hts (.fieldLink RX14 333 "NeedHouseModel" "taped" "I") (List.mem_of_getElem? (i := 2) rfl)) (fun _ h9 => h9) rfl (by decide +kernel) rfl rfl (by rw [hF_1.1]; decide) dX14_back_26 (fun H locs hP hD hS => ?_)
      have hP : va_P (dC, dI) vwCl [(h0, .inr (14, (fs_3.set 3 (.int 0))))] H := hP
      have hD : va_D A [(h0, .inr (14, (fs_3.set 3 (.int 0))))] := hD
      have hF_7 := hF_1.set 3 (.int 0) (l' := [(3, .int 0), (1, .int 0)]) (by decide) rfl
      have hE_8 := hE_2.set 3 (.int 0)
      generalize fs_3.set 3 (.int 0) = fs_9 at hP hD hF_7 hE_8
      have hP : va_P (dC, dI) vwCl [(h0, .inr (14, fs_9))] H := hP
      have hD : va_D A [(h0, .inr (14, fs_9))] := hD
      refine lv_aload_n hx hb dX14_back_29 rfl (lv_at hl 0 rfl) ?_
      refine va_get (D := (dC, dI)) (ci := 14) (v := .int 0) (C := RX14) (T := TX14) (N := 136) hx hb hts hin_X14 hown hK hP 0 rfl rfl 3 (by decide) (hts (.fieldLink RX14 333 "NeedHouseModel" "taped" "I") (List.mem_of_getElem? (i := 2) rfl)) (fun _ h9 => h9) (hF_7.at 0 rfl) dX14_back_30 ?_
      have hP9 := hP.sub (ws' := [(h0, .inr (14, fs_9))]) [0] rfl
      have hD9 := hD.sub (ws' := [(h0, .inr (14, fs_9))]) [0] (by decide) rfl
      have hK9 := hK.sub (tys' := []) [] rfl
      exact W.iret (v := 0) hx hb hr (fun t ht hW => ⟨⟨0, (fs_9), rfl, ⟨by decide, hF_7.sub [1, 0] rfl, hE_8.mono (by decide)⟩, by rw [ht]; exact hP9, va_K.moved hW.alike hK9, hD9⟩, hS.F ht⟩) hS.2.2 dX14_back_33
    ·
      refine lv_iconst (v := (-1)) hx hb dX14_back_17 (by decide) ?_
      have hP9 := hP.sub (ws' := [(h0, .inr (14, fs_3))]) [0] rfl
      have hD9 := hD.sub (ws' := [(h0, .inr (14, fs_3))]) [0] (by decide) rfl
      have hK9 := hK.sub (tys' := []) [] rfl
      exact W.iret (v := (-1)) hx hb hr (fun t ht hW => ⟨⟨(-1), (fs_3), rfl, ⟨(if_pos (Or.inr c_5)).symm, hF_1.sub [0, 1] rfl, hE_2.mono (by decide)⟩, by rw [ht]; exact hP9, va_K.moved hW.alike hK9, hD9⟩, hS.F ht⟩) hS.2.2 dX14_back_18
def pw_c_X14_thrown : List Cond := .code yX14_thrown cX14_thrown 1 (some .int) :: ([.fieldLink RX14 329 "NeedHouseModel" "thrown" "I"] ++ (wsX140 ++ []))
set_option maxHeartbeats 4000000 in
set_option maxRecDepth 100000 in
theorem c_X14_thrown (l : Launch) (dC : Nat → ClassId) (dI : Nat → Nat → Nat) (sz : Nat) (h0 : Nat) (fs : List Value) (th : Int32) (hF : hasF fs 136 [(1, .int th)]) : Met l yX14_thrown pw_c_X14_thrown ({ frames := 0, cells := 0, slots := 0, locals := 0 }) (va_Pc [.ref h0] (fun U => U.heap.size = sz ∧ va_P (dC, dI) vwCl [(h0, .inr (14, fs))] U.heap ∧ va_K (dC, dI) vwCl [] U ∧ va_D (fun _ => True) [(h0, .inr (14, fs))])) (va_Qi (fun (r : Int32) (u : (List Value)) => r = th ∧ hasF u 136 [(1, .int th)] ∧ sameF fs u []) (fun (u : (List Value)) (t : State) => va_P (dC, dI) vwCl [(h0, .inr (14, u))] t.heap ∧ va_K (dC, dI) vwCl [] t ∧ va_D (va_A [(h0, .inr (14, fs))] sz) [(h0, .inr (14, u))]) (va_A [(h0, .inr (14, fs))] sz)) 0 0 (va_A [(h0, .inr (14, fs))] sz) := by
  refine Met.ofW (cc := cX14_thrown) (maxL := 1) (ret := (some .int)) (by decide) rfl ?_
  intro p e s m args below meth c s₁ B hml hv
  obtain ⟨rfl, hsz, hP, hK, hD0⟩ := hv
  have hx := B.exec
  have hb := B.bytes
  have hr := B.returns
  have hts := atoms_spec (ws := pw_c_X14_thrown) B.pre
  have hown : s.vm.findClass RX14 = some m.cls := findClass_of_methodNamed B.named
  have hlocks := B.notSynchronized
  have hin_X14 : ∀ w ∈ u_ws RX14 TX14 136, w ∈ pw_c_X14_thrown := fun w h => List.mem_cons_of_mem _ (List.mem_append_right _ (List.mem_append_left _ h))
  subst hsz
  have hD := hD0.self (sz := s.heap.size)
  generalize hAe : va_A [(h0, .inr (14, fs))] s.heap.size = A at hD ⊢
  have hA : ∀ q : Nat, s.heap.size ≤ q → A q := fun q h => by rw [← hAe]; exact Or.inr h
  have hS : va_S A s.heap s.heap [] := va_S.rf
  have hP : va_P (dC, dI) vwCl [(h0, .inr (14, fs))] s.heap := hP
  have hl := lv_entry ([.ref h0]) (n := 1) (Nat.le_of_ble_eq_true rfl)
  rw [lg_entry_eq]
  generalize (lg_sl ([.ref h0]) ++ List.replicate (1 - (lg_sl ([.ref h0])).length) Slot.unset).toArray = ls at hl ⊢
  have hl : lv_has ls 1 [(0, .ref h0)] := hl
  refine lv_aload_n hx hb dX14_thrown_0 rfl (lv_at hl 0 rfl) ?_
  refine va_get (D := (dC, dI)) (ci := 14) (v := .int th) (C := RX14) (T := TX14) (N := 136) hx hb hts hin_X14 hown hK hP 0 rfl rfl 1 (by decide) (hts (.fieldLink RX14 329 "NeedHouseModel" "thrown" "I") (List.mem_of_getElem? (i := 1) rfl)) (fun _ h9 => h9) (hF.at 0 rfl) dX14_thrown_1 ?_
  have hP9 := hP.sub (ws' := [(h0, .inr (14, fs))]) [0] rfl
  have hD9 := hD.sub (ws' := [(h0, .inr (14, fs))]) [0] (by decide) rfl
  have hK9 := hK.sub (tys' := []) [] rfl
  exact W.iret (v := th) hx hb hr (fun t ht hW => ⟨⟨th, (fs), rfl, ⟨rfl, hF.sub [0] rfl, (sameF.rf (f := fs)).mono (by decide)⟩, by rw [ht]; exact hP9, va_K.moved hW.alike hK9, hD9⟩, hS.F ht⟩) hS.2.2 dX14_thrown_4
def pw_c_X14_count : List Cond := .code yX14_count cX14_count 2 (some .int) :: ([.fieldLink RX14 329 "NeedHouseModel" "thrown" "I", .fieldLink RX14 844 "NeedHouseModel" "isThere" "Z"] ++ (wsX140 ++ []))
set_option maxHeartbeats 4000000 in
set_option maxRecDepth 100000 in
theorem c_X14_count (l : Launch) (dC : Nat → ClassId) (dI : Nat → Nat → Nat) (sz : Nat) (h0 : Nat) (fs : List Value) (th : Int32) (p0 : Int32) (hF : hasF fs 136 [(1, .int th), (95, .int 0)]) : Met l yX14_count pw_c_X14_count ({ frames := 0, cells := 0, slots := 0, locals := 0 }) (va_Pc [.ref h0, .int p0] (fun U => U.heap.size = sz ∧ va_P (dC, dI) vwCl [(h0, .inr (14, fs))] U.heap ∧ va_K (dC, dI) vwCl [] U ∧ va_D (fun _ => True) [(h0, .inr (14, fs))])) (va_Qi (fun (r : Int32) (u : (List Value)) => r = (if p0 < 0 ∨ ¬ p0 ≤ 12 then -1 else 0) ∧ hasF u 136 [(1, .int 0)] ∧ sameF fs u [1]) (fun (u : (List Value)) (t : State) => va_P (dC, dI) vwCl [(h0, .inr (14, u))] t.heap ∧ va_K (dC, dI) vwCl [] t ∧ va_D (va_A [(h0, .inr (14, fs))] sz) [(h0, .inr (14, u))]) (va_A [(h0, .inr (14, fs))] sz)) 0 0 (va_A [(h0, .inr (14, fs))] sz) := by
  refine Met.ofW (cc := cX14_count) (maxL := 2) (ret := (some .int)) (by decide) rfl ?_
  intro p e s m args below meth c s₁ B hml hv
  obtain ⟨rfl, hsz, hP, hK, hD0⟩ := hv
  have hx := B.exec
  have hb := B.bytes
  have hr := B.returns
  have hts := atoms_spec (ws := pw_c_X14_count) B.pre
  have hown : s.vm.findClass RX14 = some m.cls := findClass_of_methodNamed B.named
  have hlocks := B.notSynchronized
  have hin_X14 : ∀ w ∈ u_ws RX14 TX14 136, w ∈ pw_c_X14_count := fun w h => List.mem_cons_of_mem _ (List.mem_append_right _ (List.mem_append_left _ h))
  subst hsz
  have hD := hD0.self (sz := s.heap.size)
  generalize hAe : va_A [(h0, .inr (14, fs))] s.heap.size = A at hD ⊢
  have hA : ∀ q : Nat, s.heap.size ≤ q → A q := fun q h => by rw [← hAe]; exact Or.inr h
  have hS : va_S A s.heap s.heap [] := va_S.rf
  have hP : va_P (dC, dI) vwCl [(h0, .inr (14, fs))] s.heap := hP
  have hl := lv_entry ([.ref h0, .int p0]) (n := 2) (Nat.le_of_ble_eq_true rfl)
  rw [lg_entry_eq]
  generalize (lg_sl ([.ref h0, .int p0]) ++ List.replicate (2 - (lg_sl ([.ref h0, .int p0])).length) Slot.unset).toArray = ls at hl ⊢
  have hl : lv_has ls 2 [(0, .ref h0), (1, .int p0)] := hl
  refine lv_aload_n hx hb dX14_count_0 rfl (lv_at hl 0 rfl) ?_
  refine lv_iconst (v := 0) hx hb dX14_count_1 (by decide) ?_
  refine va_put (D := (dC, dI)) (ci := 14) (v := .int 0) (ty := .int) (C := RX14) (T := TX14) (N := 136) hx hb hts hin_X14 tyX14 tyX14_ok nmX14 hown hK hP hD hS 0 rfl rfl 1 (by decide) (hts (.fieldLink RX14 329 "NeedHouseModel" "thrown" "I") (List.mem_of_getElem? (i := 1) rfl)) (fun _ h9 => h9) rfl (by decide +kernel) rfl rfl (by rw [hF.1]; decide) dX14_count_2 (fun H locs hP hD hS => ?_)
  have hP : va_P (dC, dI) vwCl [(h0, .inr (14, (fs.set 1 (.int 0))))] H := hP
  have hD : va_D A [(h0, .inr (14, (fs.set 1 (.int 0))))] := hD
  have hF_1 := hF.set 1 (.int 0) (l' := [(1, .int 0), (95, .int 0)]) (by decide) rfl
  have hE_2 := (sameF.rf (f := fs)).set 1 (.int 0)
  generalize fs.set 1 (.int 0) = fs_3 at hP hD hF_1 hE_2
  have hP : va_P (dC, dI) vwCl [(h0, .inr (14, fs_3))] H := hP
  have hD : va_D A [(h0, .inr (14, fs_3))] := hD
  refine lv_iload_n hx hb dX14_count_5 rfl (lv_at hl 1 rfl) ?_
  refine lv_if_lt (tgt := 15) hx hb dX14_count_6 (by decide) (fun c_4 => ?_) (fun c_4 => ?_)
  ·
    refine lv_iconst (v := (-1)) hx hb dX14_count_15 (by decide) ?_
    have hP9 := hP.sub (ws' := [(h0, .inr (14, fs_3))]) [0] rfl
    have hD9 := hD.sub (ws' := [(h0, .inr (14, fs_3))]) [0] (by decide) rfl
    have hK9 := hK.sub (tys' := []) [] rfl
    exact W.iret (v := (-1)) hx hb hr (fun t ht hW => ⟨⟨(-1), (fs_3), rfl, ⟨(if_pos (Or.inl c_4)).symm, hF_1.sub [0] rfl, hE_2.mono (by decide)⟩, by rw [ht]; exact hP9, va_K.moved hW.alike hK9, hD9⟩, hS.F ht⟩) hS.2.2 dX14_count_16
  ·
    refine lv_iload_n hx hb dX14_count_9 rfl (lv_at hl 1 rfl) ?_
    refine lv_bipush (v := 12) hx hb dX14_count_10 (by decide) ?_
    refine lv_icmp_le (tgt := 17) hx hb dX14_count_12 (by decide) (fun c_5 => ?_) (fun c_5 => ?_)
    ·
      refine lv_aload_n hx hb dX14_count_17 rfl (lv_at hl 0 rfl) ?_
      refine va_get (D := (dC, dI)) (ci := 14) (v := .int 0) (C := RX14) (T := TX14) (N := 136) hx hb hts hin_X14 hown hK hP 0 rfl rfl 95 (by decide) (hts (.fieldLink RX14 844 "NeedHouseModel" "isThere" "Z") (List.mem_of_getElem? (i := 2) rfl)) (fun _ h9 => h9) (hF_1.at 1 rfl) dX14_count_18 ?_
      refine lv_if_eq (tgt := 36) hx hb dX14_count_21 (by decide) (fun _ => ?_) (fun c_6 => absurd (by decide) c_6)
      refine lv_iconst (v := 0) hx hb dX14_count_36 (by decide) ?_
      have hP9 := hP.sub (ws' := [(h0, .inr (14, fs_3))]) [0] rfl
      have hD9 := hD.sub (ws' := [(h0, .inr (14, fs_3))]) [0] (by decide) rfl
      have hK9 := hK.sub (tys' := []) [] rfl
      exact W.iret (v := 0) hx hb hr (fun t ht hW => ⟨⟨0, (fs_3), rfl, ⟨(if_neg (fun z => z.elim c_4 (fun k => k c_5))).symm, hF_1.sub [0] rfl, hE_2.mono (by decide)⟩, by rw [ht]; exact hP9, va_K.moved hW.alike hK9, hD9⟩, hS.F ht⟩) hS.2.2 dX14_count_37
    ·
      refine lv_iconst (v := (-1)) hx hb dX14_count_15 (by decide) ?_
      have hP9 := hP.sub (ws' := [(h0, .inr (14, fs_3))]) [0] rfl
      have hD9 := hD.sub (ws' := [(h0, .inr (14, fs_3))]) [0] (by decide) rfl
      have hK9 := hK.sub (tys' := []) [] rfl
      exact W.iret (v := (-1)) hx hb hr (fun t ht hW => ⟨⟨(-1), (fs_3), rfl, ⟨(if_pos (Or.inr c_5)).symm, hF_1.sub [0] rfl, hE_2.mono (by decide)⟩, by rw [ht]; exact hP9, va_K.moved hW.alike hK9, hD9⟩, hS.F ht⟩) hS.2.2 dX14_count_16
def pw_c_X14_isDefinition : List Cond := .code yX14_isDefinition cX14_isDefinition 2 (some .boolean) :: ([.fieldLink RX14 844 "NeedHouseModel" "isThere" "Z"] ++ (wsX140 ++ []))
set_option maxHeartbeats 4000000 in
set_option maxRecDepth 100000 in
theorem c_X14_isDefinition (l : Launch) (dC : Nat → ClassId) (dI : Nat → Nat → Nat) (sz : Nat) (h0 : Nat) (fs : List Value) (p0 : Int32) (hF : hasF fs 136 [(95, .int 0)]) : Met l yX14_isDefinition pw_c_X14_isDefinition ({ frames := 0, cells := 0, slots := 0, locals := 0 }) (va_Pc [.ref h0, .int p0] (fun U => U.heap.size = sz ∧ va_P (dC, dI) vwCl [(h0, .inr (14, fs))] U.heap ∧ va_K (dC, dI) vwCl [] U ∧ va_D (fun _ => True) [(h0, .inr (14, fs))])) (va_Qi (fun (r : Int32) (u : (List Value)) => r = 0 ∧ sameF fs u []) (fun (u : (List Value)) (t : State) => va_P (dC, dI) vwCl [(h0, .inr (14, u))] t.heap ∧ va_K (dC, dI) vwCl [] t ∧ va_D (va_A [(h0, .inr (14, fs))] sz) [(h0, .inr (14, u))]) (va_A [(h0, .inr (14, fs))] sz)) 0 0 (va_A [(h0, .inr (14, fs))] sz) := by
  refine Met.ofW (cc := cX14_isDefinition) (maxL := 2) (ret := (some .boolean)) (by decide) rfl ?_
  intro p e s m args below meth c s₁ B hml hv
  obtain ⟨rfl, hsz, hP, hK, hD0⟩ := hv
  have hx := B.exec
  have hb := B.bytes
  have hr := B.returns
  have hts := atoms_spec (ws := pw_c_X14_isDefinition) B.pre
  have hown : s.vm.findClass RX14 = some m.cls := findClass_of_methodNamed B.named
  have hlocks := B.notSynchronized
  have hin_X14 : ∀ w ∈ u_ws RX14 TX14 136, w ∈ pw_c_X14_isDefinition := fun w h => List.mem_cons_of_mem _ (List.mem_append_right _ (List.mem_append_left _ h))
  subst hsz
  have hD := hD0.self (sz := s.heap.size)
  generalize hAe : va_A [(h0, .inr (14, fs))] s.heap.size = A at hD ⊢
  have hA : ∀ q : Nat, s.heap.size ≤ q → A q := fun q h => by rw [← hAe]; exact Or.inr h
  have hS : va_S A s.heap s.heap [] := va_S.rf
  have hP : va_P (dC, dI) vwCl [(h0, .inr (14, fs))] s.heap := hP
  have hl := lv_entry ([.ref h0, .int p0]) (n := 2) (Nat.le_of_ble_eq_true rfl)
  rw [lg_entry_eq]
  generalize (lg_sl ([.ref h0, .int p0]) ++ List.replicate (2 - (lg_sl ([.ref h0, .int p0])).length) Slot.unset).toArray = ls at hl ⊢
  have hl : lv_has ls 2 [(0, .ref h0), (1, .int p0)] := hl
  refine lv_aload_n hx hb dX14_isDefinition_0 rfl (lv_at hl 0 rfl) ?_
  refine va_get (D := (dC, dI)) (ci := 14) (v := .int 0) (C := RX14) (T := TX14) (N := 136) hx hb hts hin_X14 hown hK hP 0 rfl rfl 95 (by decide) (hts (.fieldLink RX14 844 "NeedHouseModel" "isThere" "Z") (List.mem_of_getElem? (i := 1) rfl)) (fun _ h9 => h9) (hF.at 0 rfl) dX14_isDefinition_1 ?_
  refine lv_if_eq (tgt := 23) hx hb dX14_isDefinition_4 (by decide) (fun _ => ?_) (fun c_1 => absurd (by decide) c_1)
  refine lv_iconst (v := 0) hx hb dX14_isDefinition_23 (by decide) ?_
  have hP9 := hP.sub (ws' := [(h0, .inr (14, fs))]) [0] rfl
  have hD9 := hD.sub (ws' := [(h0, .inr (14, fs))]) [0] (by decide) rfl
  have hK9 := hK.sub (tys' := []) [] rfl
  exact W.zret (v := 0) hx hb hr (by first | rfl | decide +kernel) (fun t ht hW => ⟨⟨0, (fs), rfl, ⟨rfl, (sameF.rf (f := fs)).mono (by decide)⟩, by rw [ht]; exact hP9, va_K.moved hW.alike hK9, hD9⟩, hS.F ht⟩) hS.2.2 dX14_isDefinition_24
def pw_c_X14_sign : List Cond := .code yX14_sign cX14_sign 3 (some .int) :: ([.fieldLink RX14 329 "NeedHouseModel" "thrown" "I", .methodLink RX14 1084 yX14_isDefinition, .instanceMethod yX14_isDefinition, .selects RX14 yX14_isDefinition yX14_isDefinition, .initialized RX14, .code yX14_isDefinition cX14_isDefinition 2 (some .boolean), .fieldLink RX14 844 "NeedHouseModel" "isThere" "Z"] ++ (wsX140 ++ []))
set_option maxRecDepth 20000 in
theorem g_c_X14_sign_c_X14_isDefinition_7 : GoodIn pw_c_X14_sign (wsV RX14 1084 RX14 yX14_isDefinition pw_c_X14_isDefinition) := goodIn_r _ [2, 3, 4, 5, 6, 7, 8, 9, 10, 11, 12, 13, 14, 15, 16, 17, 18, 19, 20, 21, 22, 23, 24, 25, 26, 27, 28, 29, 30, 31, 32, 33, 34, 35, 36, 37, 38, 39, 40, 41, 42, 43, 44, 45, 46, 47, 48, 49, 50, 51, 52, 53, 54, 55, 56, 57, 58, 59, 60, 61, 62, 63, 64, 65, 66, 67, 68, 69, 70, 71, 72, 73, 74, 75, 76, 77, 78, 79, 80, 81, 82, 83, 84, 85, 86, 87, 88, 89, 90, 91, 92, 93, 94, 95, 96, 97, 98, 99, 100, 101, 102, 103, 104, 105, 106, 107, 108, 109, 110, 111, 112, 113, 114, 115, 116, 117, 118, 119, 120, 121, 122, 123, 124, 125, 126, 127, 128, 129, 130, 131, 132, 133, 134, 135, 136, 137, 138, 139, 140, 141, 142, 143] rfl (by decide +kernel)
set_option maxHeartbeats 4000000 in
set_option maxRecDepth 100000 in
theorem c_X14_sign (l : Launch) (dC : Nat → ClassId) (dI : Nat → Nat → Nat) (sz : Nat) (h0 : Nat) (fs : List Value) (th : Int32) (p0 : Int32) (p1 : Int32) (hF : hasF fs 136 [(1, .int th), (95, .int 0)]) : Met l yX14_sign pw_c_X14_sign ({ frames := 1, cells := 0, slots := 0, locals := 21 }) (va_Pc [.ref h0, .int p0, .int p1] (fun U => U.heap.size = sz ∧ va_P (dC, dI) vwCl [(h0, .inr (14, fs))] U.heap ∧ va_K (dC, dI) vwCl [] U ∧ va_D (fun _ => True) [(h0, .inr (14, fs))])) (va_Qi (fun (r : Int32) (u : (List Value)) => r = -1 ∧ hasF u 136 [(1, .int 0)] ∧ sameF fs u [1]) (fun (u : (List Value)) (t : State) => va_P (dC, dI) vwCl [(h0, .inr (14, u))] t.heap ∧ va_K (dC, dI) vwCl [] t ∧ va_D (va_A [(h0, .inr (14, fs))] sz) [(h0, .inr (14, u))]) (va_A [(h0, .inr (14, fs))] sz)) 0 0 (va_A [(h0, .inr (14, fs))] sz) := by
  refine Met.ofW (cc := cX14_sign) (maxL := 3) (ret := (some .int)) (by decide) rfl ?_
  intro p e s m args below meth c s₁ B hml hv
  obtain ⟨rfl, hsz, hP, hK, hD0⟩ := hv
  have hx := B.exec
  have hb := B.bytes
  have hr := B.returns
  have hts := atoms_spec (ws := pw_c_X14_sign) B.pre
  have hown : s.vm.findClass RX14 = some m.cls := findClass_of_methodNamed B.named
  have hlocks := B.notSynchronized
  have hin_X14 : ∀ w ∈ u_ws RX14 TX14 136, w ∈ pw_c_X14_sign := fun w h => List.mem_cons_of_mem _ (List.mem_append_right _ (List.mem_append_left _ h))
  subst hsz
  have hD := hD0.self (sz := s.heap.size)
  generalize hAe : va_A [(h0, .inr (14, fs))] s.heap.size = A at hD ⊢
  have hA : ∀ q : Nat, s.heap.size ≤ q → A q := fun q h => by rw [← hAe]; exact Or.inr h
  have hS : va_S A s.heap s.heap [] := va_S.rf
  have hP : va_P (dC, dI) vwCl [(h0, .inr (14, fs))] s.heap := hP
  have hl := lv_entry ([.ref h0, .int p0, .int p1]) (n := 3) (Nat.le_of_ble_eq_true rfl)
  rw [lg_entry_eq]
  generalize (lg_sl ([.ref h0, .int p0, .int p1]) ++ List.replicate (3 - (lg_sl ([.ref h0, .int p0, .int p1])).length) Slot.unset).toArray = ls at hl ⊢
  have hl : lv_has ls 3 [(0, .ref h0), (1, .int p0), (2, .int p1)] := hl
  refine lv_aload_n hx hb dX14_sign_0 rfl (lv_at hl 0 rfl) ?_
  refine lv_iconst (v := 0) hx hb dX14_sign_1 (by decide) ?_
  refine va_put (D := (dC, dI)) (ci := 14) (v := .int 0) (ty := .int) (C := RX14) (T := TX14) (N := 136) hx hb hts hin_X14 tyX14 tyX14_ok nmX14 hown hK hP hD hS 0 rfl rfl 1 (by decide) (hts (.fieldLink RX14 329 "NeedHouseModel" "thrown" "I") (List.mem_of_getElem? (i := 1) rfl)) (fun _ h9 => h9) rfl (by decide +kernel) rfl rfl (by rw [hF.1]; decide) dX14_sign_2 (fun H locs hP hD hS => ?_)
  have hP : va_P (dC, dI) vwCl [(h0, .inr (14, (fs.set 1 (.int 0))))] H := hP
  have hD : va_D A [(h0, .inr (14, (fs.set 1 (.int 0))))] := hD
  have hF_1 := hF.set 1 (.int 0) (l' := [(1, .int 0), (95, .int 0)]) (by decide) rfl
  have hE_2 := (sameF.rf (f := fs)).set 1 (.int 0)
  generalize fs.set 1 (.int 0) = fs_3 at hP hD hF_1 hE_2
  have hP : va_P (dC, dI) vwCl [(h0, .inr (14, fs_3))] H := hP
  have hD : va_D A [(h0, .inr (14, fs_3))] := hD
  refine lv_aload_n hx hb dX14_sign_5 rfl (lv_at hl 0 rfl) ?_
  refine lv_iload_n hx hb dX14_sign_6 rfl (lv_at hl 1 rfl) ?_
  have hPc := hP.sub (ws' := [(h0, .inr (14, fs_3))]) [0] rfl
  have hDc := hD.sub (ws' := [(h0, .inr (14, fs_3))]) [0] (by decide) rfl
  have hKc := hK.sub (tys' := []) [] rfl
  have hFc := va_free (wc := [(h0, .inr (14, fs_3))]) hD hS hA [0] rfl
  refine va_calli (va_runV (As := [.int p0]) (rest := []) ⟨hx, hb, hml, hown, hts⟩ (c_X14_isDefinition l dC dI H.size h0 fs_3 p0 (hF_1.sub [1] rfl)) (cwV 1 hts g_c_X14_sign_c_X14_isDefinition_7 rfl rfl rfl (by decide +kernel) ⟨Nat.le_of_ble_eq_true rfl, Nat.le_of_ble_eq_true rfl⟩) ⟨fun a U g mk q => by obtain ⟨q0, q1, qP, qK, qD⟩ := q; exact ⟨q0, q1, qP, va_K.moved (u := U) (U := U.calling g mk a) (Vm.Alike.refl U.vm) qK, qD⟩, va_recv hKc hPc (ci := 14) (q0 := 0) rfl rfl, fun U hU hW => ⟨rfl, by rw [hU], by rw [hU]; exact hPc, va_K.moved hW.alike hKc, hDc.weaken (fun _ _ _ _ => trivial)⟩⟩ rfl rfl hl.1 rfl (lv_room (Nat.le_of_ble_eq_true rfl)) dX14_sign_7 ⟨show 0 + 0 ≤ 0 by decide, show 0 + 0 ≤ 0 by decide⟩) hS (fun q _ h => hFc q h) hFc (fun r_4 u t H1 locs ht hvm hw hB hz1 hk1 hS => ?_)
  obtain ⟨fs1_6, rfl⟩ : ∃ z, z = u := ⟨_, rfl⟩
  obtain ⟨hP1, hK1, hD1⟩ := hB
  rw [ht] at hP1
  have hK1 := va_K.moved hvm.symm hK1
  try dsimp only at hw hP1 hK1 hD1
  obtain ⟨hr_7, hE_8⟩ := hw
  obtain ⟨hP, hD⟩ := va_join (wr := []) (w1 := [(h0, .inr (14, fs1_6))]) hP hD [0] [] rfl rfl (by decide) (by decide) hk1 hFc hP1 hD1
  generalize H1 = H at hP hS ⊢
  have hK := (hK.sub (tys' := []) [] rfl).app hK1
  have hK : va_K (dC, dI) vwCl [] s := hK
  have hP : va_P (dC, dI) vwCl [(h0, .inr (14, fs1_6))] H := hP
  have hD : va_D A [(h0, .inr (14, fs1_6))] := hD
  have hF_9 := hF_1.same hE_8 (l' := [(1, .int 0), (95, .int 0)]) rfl
  have hE_10 := hE_2.trans hE_8
  subst hr_7
  refine lv_if_eq (tgt := 36) hx hb dX14_sign_10 (by decide) (fun _ => ?_) (fun c_11 => absurd (by decide) c_11)
  refine lv_iconst (v := (-1)) hx hb dX14_sign_36 (by decide) ?_
  refine lv_goto (tgt := 53) hx hb dX14_sign_37 (by decide) ?_
  have hP9 := hP.sub (ws' := [(h0, .inr (14, fs1_6))]) [0] rfl
  have hD9 := hD.sub (ws' := [(h0, .inr (14, fs1_6))]) [0] (by decide) rfl
  have hK9 := hK.sub (tys' := []) [] rfl
  exact W.iret (v := (-1)) hx hb hr (fun t ht hW => ⟨⟨(-1), (fs1_6), rfl, ⟨rfl, hF_9.sub [0] rfl, hE_10.mono (by decide)⟩, by rw [ht]; exact hP9, va_K.moved hW.alike hK9, hD9⟩, hS.F ht⟩) hS.2.2 dX14_sign_53
def pw_c_X14_strict : List Cond := .code yX14_strict cX14_strict 5 (some .int) :: ([.fieldLink RX14 329 "NeedHouseModel" "thrown" "I", .methodLink RX14 1084 yX14_isDefinition, .instanceMethod yX14_isDefinition, .selects RX14 yX14_isDefinition yX14_isDefinition, .initialized RX14, .code yX14_isDefinition cX14_isDefinition 2 (some .boolean), .fieldLink RX14 844 "NeedHouseModel" "isThere" "Z"] ++ (wsX140 ++ []))
set_option maxRecDepth 20000 in
theorem g_c_X14_strict_c_X14_isDefinition_7 : GoodIn pw_c_X14_strict (wsV RX14 1084 RX14 yX14_isDefinition pw_c_X14_isDefinition) := goodIn_r _ [2, 3, 4, 5, 6, 7, 8, 9, 10, 11, 12, 13, 14, 15, 16, 17, 18, 19, 20, 21, 22, 23, 24, 25, 26, 27, 28, 29, 30, 31, 32, 33, 34, 35, 36, 37, 38, 39, 40, 41, 42, 43, 44, 45, 46, 47, 48, 49, 50, 51, 52, 53, 54, 55, 56, 57, 58, 59, 60, 61, 62, 63, 64, 65, 66, 67, 68, 69, 70, 71, 72, 73, 74, 75, 76, 77, 78, 79, 80, 81, 82, 83, 84, 85, 86, 87, 88, 89, 90, 91, 92, 93, 94, 95, 96, 97, 98, 99, 100, 101, 102, 103, 104, 105, 106, 107, 108, 109, 110, 111, 112, 113, 114, 115, 116, 117, 118, 119, 120, 121, 122, 123, 124, 125, 126, 127, 128, 129, 130, 131, 132, 133, 134, 135, 136, 137, 138, 139, 140, 141, 142, 143] rfl (by decide +kernel)
set_option maxHeartbeats 4000000 in
set_option maxRecDepth 100000 in
theorem c_X14_strict (l : Launch) (dC : Nat → ClassId) (dI : Nat → Nat → Nat) (sz : Nat) (h0 : Nat) (fs : List Value) (th : Int32) (p0 : Int32) (p1 : Int32) (hF : hasF fs 136 [(1, .int th), (95, .int 0)]) : Met l yX14_strict pw_c_X14_strict ({ frames := 1, cells := 0, slots := 0, locals := 21 }) (va_Pc [.ref h0, .int p0, .int p1] (fun U => U.heap.size = sz ∧ va_P (dC, dI) vwCl [(h0, .inr (14, fs))] U.heap ∧ va_K (dC, dI) vwCl [] U ∧ va_D (fun _ => True) [(h0, .inr (14, fs))])) (va_Qi (fun (r : Int32) (u : (List Value)) => r = -1 ∧ hasF u 136 [(1, .int 0)] ∧ sameF fs u [1]) (fun (u : (List Value)) (t : State) => va_P (dC, dI) vwCl [(h0, .inr (14, u))] t.heap ∧ va_K (dC, dI) vwCl [] t ∧ va_D (va_A [(h0, .inr (14, fs))] sz) [(h0, .inr (14, u))]) (va_A [(h0, .inr (14, fs))] sz)) 0 0 (va_A [(h0, .inr (14, fs))] sz) := by
  refine Met.ofW (cc := cX14_strict) (maxL := 5) (ret := (some .int)) (by decide) rfl ?_
  intro p e s m args below meth c s₁ B hml hv
  obtain ⟨rfl, hsz, hP, hK, hD0⟩ := hv
  have hx := B.exec
  have hb := B.bytes
  have hr := B.returns
  have hts := atoms_spec (ws := pw_c_X14_strict) B.pre
  have hown : s.vm.findClass RX14 = some m.cls := findClass_of_methodNamed B.named
  have hlocks := B.notSynchronized
  have hin_X14 : ∀ w ∈ u_ws RX14 TX14 136, w ∈ pw_c_X14_strict := fun w h => List.mem_cons_of_mem _ (List.mem_append_right _ (List.mem_append_left _ h))
  subst hsz
  have hD := hD0.self (sz := s.heap.size)
  generalize hAe : va_A [(h0, .inr (14, fs))] s.heap.size = A at hD ⊢
  have hA : ∀ q : Nat, s.heap.size ≤ q → A q := fun q h => by rw [← hAe]; exact Or.inr h
  have hS : va_S A s.heap s.heap [] := va_S.rf
  have hP : va_P (dC, dI) vwCl [(h0, .inr (14, fs))] s.heap := hP
  have hl := lv_entry ([.ref h0, .int p0, .int p1]) (n := 5) (Nat.le_of_ble_eq_true rfl)
  rw [lg_entry_eq]
  generalize (lg_sl ([.ref h0, .int p0, .int p1]) ++ List.replicate (5 - (lg_sl ([.ref h0, .int p0, .int p1])).length) Slot.unset).toArray = ls at hl ⊢
  have hl : lv_has ls 5 [(0, .ref h0), (1, .int p0), (2, .int p1)] := hl
  refine lv_aload_n hx hb dX14_strict_0 rfl (lv_at hl 0 rfl) ?_
  refine lv_iconst (v := 0) hx hb dX14_strict_1 (by decide) ?_
  refine va_put (D := (dC, dI)) (ci := 14) (v := .int 0) (ty := .int) (C := RX14) (T := TX14) (N := 136) hx hb hts hin_X14 tyX14 tyX14_ok nmX14 hown hK hP hD hS 0 rfl rfl 1 (by decide) (hts (.fieldLink RX14 329 "NeedHouseModel" "thrown" "I") (List.mem_of_getElem? (i := 1) rfl)) (fun _ h9 => h9) rfl (by decide +kernel) rfl rfl (by rw [hF.1]; decide) dX14_strict_2 (fun H locs hP hD hS => ?_)
  have hP : va_P (dC, dI) vwCl [(h0, .inr (14, (fs.set 1 (.int 0))))] H := hP
  have hD : va_D A [(h0, .inr (14, (fs.set 1 (.int 0))))] := hD
  have hF_1 := hF.set 1 (.int 0) (l' := [(1, .int 0), (95, .int 0)]) (by decide) rfl
  have hE_2 := (sameF.rf (f := fs)).set 1 (.int 0)
  generalize fs.set 1 (.int 0) = fs_3 at hP hD hF_1 hE_2
  have hP : va_P (dC, dI) vwCl [(h0, .inr (14, fs_3))] H := hP
  have hD : va_D A [(h0, .inr (14, fs_3))] := hD
  refine lv_aload_n hx hb dX14_strict_5 rfl (lv_at hl 0 rfl) ?_
  refine lv_iload_n hx hb dX14_strict_6 rfl (lv_at hl 1 rfl) ?_
  have hPc := hP.sub (ws' := [(h0, .inr (14, fs_3))]) [0] rfl
  have hDc := hD.sub (ws' := [(h0, .inr (14, fs_3))]) [0] (by decide) rfl
  have hKc := hK.sub (tys' := []) [] rfl
  have hFc := va_free (wc := [(h0, .inr (14, fs_3))]) hD hS hA [0] rfl
  refine va_calli (va_runV (As := [.int p0]) (rest := []) ⟨hx, hb, hml, hown, hts⟩ (c_X14_isDefinition l dC dI H.size h0 fs_3 p0 (hF_1.sub [1] rfl)) (cwV 1 hts g_c_X14_strict_c_X14_isDefinition_7 rfl rfl rfl (by decide +kernel) ⟨Nat.le_of_ble_eq_true rfl, Nat.le_of_ble_eq_true rfl⟩) ⟨fun a U g mk q => by obtain ⟨q0, q1, qP, qK, qD⟩ := q; exact ⟨q0, q1, qP, va_K.moved (u := U) (U := U.calling g mk a) (Vm.Alike.refl U.vm) qK, qD⟩, va_recv hKc hPc (ci := 14) (q0 := 0) rfl rfl, fun U hU hW => ⟨rfl, by rw [hU], by rw [hU]; exact hPc, va_K.moved hW.alike hKc, hDc.weaken (fun _ _ _ _ => trivial)⟩⟩ rfl rfl hl.1 rfl (lv_room (Nat.le_of_ble_eq_true rfl)) dX14_strict_7 ⟨show 0 + 0 ≤ 0 by decide, show 0 + 0 ≤ 0 by decide⟩) hS (fun q _ h => hFc q h) hFc (fun r_4 u t H1 locs ht hvm hw hB hz1 hk1 hS => ?_)
  obtain ⟨fs1_6, rfl⟩ : ∃ z, z = u := ⟨_, rfl⟩
  obtain ⟨hP1, hK1, hD1⟩ := hB
  rw [ht] at hP1
  have hK1 := va_K.moved hvm.symm hK1
  try dsimp only at hw hP1 hK1 hD1
  obtain ⟨hr_7, hE_8⟩ := hw
  obtain ⟨hP, hD⟩ := va_join (wr := []) (w1 := [(h0, .inr (14, fs1_6))]) hP hD [0] [] rfl rfl (by decide) (by decide) hk1 hFc hP1 hD1
  generalize H1 = H at hP hS ⊢
  have hK := (hK.sub (tys' := []) [] rfl).app hK1
  have hK : va_K (dC, dI) vwCl [] s := hK
  have hP : va_P (dC, dI) vwCl [(h0, .inr (14, fs1_6))] H := hP
  have hD : va_D A [(h0, .inr (14, fs1_6))] := hD
  have hF_9 := hF_1.same hE_8 (l' := [(1, .int 0), (95, .int 0)]) rfl
  have hE_10 := hE_2.trans hE_8
  subst hr_7
  refine lv_if_eq (tgt := 17) hx hb dX14_strict_10 (by decide) (fun _ => ?_) (fun c_11 => absurd (by decide) c_11)
  refine lv_iconst (v := (-1)) hx hb dX14_strict_17 (by decide) ?_
  have hP9 := hP.sub (ws' := [(h0, .inr (14, fs1_6))]) [0] rfl
  have hD9 := hD.sub (ws' := [(h0, .inr (14, fs1_6))]) [0] (by decide) rfl
  have hK9 := hK.sub (tys' := []) [] rfl
  exact W.iret (v := (-1)) hx hb hr (fun t ht hW => ⟨⟨(-1), (fs1_6), rfl, ⟨rfl, hF_9.sub [0] rfl, hE_10.mono (by decide)⟩, by rw [ht]; exact hP9, va_K.moved hW.alike hK9, hD9⟩, hS.F ht⟩) hS.2.2 dX14_strict_18
def pw_c_X14_group : List Cond := .code yX14_group cX14_group 2 (some .int) :: ([.fieldLink RX14 329 "NeedHouseModel" "thrown" "I", .methodLink RX14 1084 yX14_isDefinition, .instanceMethod yX14_isDefinition, .selects RX14 yX14_isDefinition yX14_isDefinition, .initialized RX14, .code yX14_isDefinition cX14_isDefinition 2 (some .boolean), .fieldLink RX14 844 "NeedHouseModel" "isThere" "Z"] ++ (wsX140 ++ []))
set_option maxRecDepth 20000 in
theorem g_c_X14_group_c_X14_isDefinition_7 : GoodIn pw_c_X14_group (wsV RX14 1084 RX14 yX14_isDefinition pw_c_X14_isDefinition) := goodIn_r _ [2, 3, 4, 5, 6, 7, 8, 9, 10, 11, 12, 13, 14, 15, 16, 17, 18, 19, 20, 21, 22, 23, 24, 25, 26, 27, 28, 29, 30, 31, 32, 33, 34, 35, 36, 37, 38, 39, 40, 41, 42, 43, 44, 45, 46, 47, 48, 49, 50, 51, 52, 53, 54, 55, 56, 57, 58, 59, 60, 61, 62, 63, 64, 65, 66, 67, 68, 69, 70, 71, 72, 73, 74, 75, 76, 77, 78, 79, 80, 81, 82, 83, 84, 85, 86, 87, 88, 89, 90, 91, 92, 93, 94, 95, 96, 97, 98, 99, 100, 101, 102, 103, 104, 105, 106, 107, 108, 109, 110, 111, 112, 113, 114, 115, 116, 117, 118, 119, 120, 121, 122, 123, 124, 125, 126, 127, 128, 129, 130, 131, 132, 133, 134, 135, 136, 137, 138, 139, 140, 141, 142, 143] rfl (by decide +kernel)
set_option maxHeartbeats 4000000 in
set_option maxRecDepth 100000 in
theorem c_X14_group (l : Launch) (dC : Nat → ClassId) (dI : Nat → Nat → Nat) (sz : Nat) (h0 : Nat) (fs : List Value) (th : Int32) (p0 : Int32) (hF : hasF fs 136 [(1, .int th), (95, .int 0)]) : Met l yX14_group pw_c_X14_group ({ frames := 1, cells := 0, slots := 0, locals := 21 }) (va_Pc [.ref h0, .int p0] (fun U => U.heap.size = sz ∧ va_P (dC, dI) vwCl [(h0, .inr (14, fs))] U.heap ∧ va_K (dC, dI) vwCl [] U ∧ va_D (fun _ => True) [(h0, .inr (14, fs))])) (va_Qi (fun (r : Int32) (u : (List Value)) => r = -1 ∧ hasF u 136 [(1, .int 0)] ∧ sameF fs u [1]) (fun (u : (List Value)) (t : State) => va_P (dC, dI) vwCl [(h0, .inr (14, u))] t.heap ∧ va_K (dC, dI) vwCl [] t ∧ va_D (va_A [(h0, .inr (14, fs))] sz) [(h0, .inr (14, u))]) (va_A [(h0, .inr (14, fs))] sz)) 0 0 (va_A [(h0, .inr (14, fs))] sz) := by
  refine Met.ofW (cc := cX14_group) (maxL := 2) (ret := (some .int)) (by decide) rfl ?_
  intro p e s m args below meth c s₁ B hml hv
  obtain ⟨rfl, hsz, hP, hK, hD0⟩ := hv
  have hx := B.exec
  have hb := B.bytes
  have hr := B.returns
  have hts := atoms_spec (ws := pw_c_X14_group) B.pre
  have hown : s.vm.findClass RX14 = some m.cls := findClass_of_methodNamed B.named
  have hlocks := B.notSynchronized
  have hin_X14 : ∀ w ∈ u_ws RX14 TX14 136, w ∈ pw_c_X14_group := fun w h => List.mem_cons_of_mem _ (List.mem_append_right _ (List.mem_append_left _ h))
  subst hsz
  have hD := hD0.self (sz := s.heap.size)
  generalize hAe : va_A [(h0, .inr (14, fs))] s.heap.size = A at hD ⊢
  have hA : ∀ q : Nat, s.heap.size ≤ q → A q := fun q h => by rw [← hAe]; exact Or.inr h
  have hS : va_S A s.heap s.heap [] := va_S.rf
  have hP : va_P (dC, dI) vwCl [(h0, .inr (14, fs))] s.heap := hP
  have hl := lv_entry ([.ref h0, .int p0]) (n := 2) (Nat.le_of_ble_eq_true rfl)
  rw [lg_entry_eq]
  generalize (lg_sl ([.ref h0, .int p0]) ++ List.replicate (2 - (lg_sl ([.ref h0, .int p0])).length) Slot.unset).toArray = ls at hl ⊢
  have hl : lv_has ls 2 [(0, .ref h0), (1, .int p0)] := hl
  refine lv_aload_n hx hb dX14_group_0 rfl (lv_at hl 0 rfl) ?_
  refine lv_iconst (v := 0) hx hb dX14_group_1 (by decide) ?_
  refine va_put (D := (dC, dI)) (ci := 14) (v := .int 0) (ty := .int) (C := RX14) (T := TX14) (N := 136) hx hb hts hin_X14 tyX14 tyX14_ok nmX14 hown hK hP hD hS 0 rfl rfl 1 (by decide) (hts (.fieldLink RX14 329 "NeedHouseModel" "thrown" "I") (List.mem_of_getElem? (i := 1) rfl)) (fun _ h9 => h9) rfl (by decide +kernel) rfl rfl (by rw [hF.1]; decide) dX14_group_2 (fun H locs hP hD hS => ?_)
  have hP : va_P (dC, dI) vwCl [(h0, .inr (14, (fs.set 1 (.int 0))))] H := hP
  have hD : va_D A [(h0, .inr (14, (fs.set 1 (.int 0))))] := hD
  have hF_1 := hF.set 1 (.int 0) (l' := [(1, .int 0), (95, .int 0)]) (by decide) rfl
  have hE_2 := (sameF.rf (f := fs)).set 1 (.int 0)
  generalize fs.set 1 (.int 0) = fs_3 at hP hD hF_1 hE_2
  have hP : va_P (dC, dI) vwCl [(h0, .inr (14, fs_3))] H := hP
  have hD : va_D A [(h0, .inr (14, fs_3))] := hD
  refine lv_aload_n hx hb dX14_group_5 rfl (lv_at hl 0 rfl) ?_
  refine lv_iload_n hx hb dX14_group_6 rfl (lv_at hl 1 rfl) ?_
  have hPc := hP.sub (ws' := [(h0, .inr (14, fs_3))]) [0] rfl
  have hDc := hD.sub (ws' := [(h0, .inr (14, fs_3))]) [0] (by decide) rfl
  have hKc := hK.sub (tys' := []) [] rfl
  have hFc := va_free (wc := [(h0, .inr (14, fs_3))]) hD hS hA [0] rfl
  refine va_calli (va_runV (As := [.int p0]) (rest := []) ⟨hx, hb, hml, hown, hts⟩ (c_X14_isDefinition l dC dI H.size h0 fs_3 p0 (hF_1.sub [1] rfl)) (cwV 1 hts g_c_X14_group_c_X14_isDefinition_7 rfl rfl rfl (by decide +kernel) ⟨Nat.le_of_ble_eq_true rfl, Nat.le_of_ble_eq_true rfl⟩) ⟨fun a U g mk q => by obtain ⟨q0, q1, qP, qK, qD⟩ := q; exact ⟨q0, q1, qP, va_K.moved (u := U) (U := U.calling g mk a) (Vm.Alike.refl U.vm) qK, qD⟩, va_recv hKc hPc (ci := 14) (q0 := 0) rfl rfl, fun U hU hW => ⟨rfl, by rw [hU], by rw [hU]; exact hPc, va_K.moved hW.alike hKc, hDc.weaken (fun _ _ _ _ => trivial)⟩⟩ rfl rfl hl.1 rfl (lv_room (Nat.le_of_ble_eq_true rfl)) dX14_group_7 ⟨show 0 + 0 ≤ 0 by decide, show 0 + 0 ≤ 0 by decide⟩) hS (fun q _ h => hFc q h) hFc (fun r_4 u t H1 locs ht hvm hw hB hz1 hk1 hS => ?_)
  obtain ⟨fs1_6, rfl⟩ : ∃ z, z = u := ⟨_, rfl⟩
  obtain ⟨hP1, hK1, hD1⟩ := hB
  rw [ht] at hP1
  have hK1 := va_K.moved hvm.symm hK1
  try dsimp only at hw hP1 hK1 hD1
  obtain ⟨hr_7, hE_8⟩ := hw
  obtain ⟨hP, hD⟩ := va_join (wr := []) (w1 := [(h0, .inr (14, fs1_6))]) hP hD [0] [] rfl rfl (by decide) (by decide) hk1 hFc hP1 hD1
  generalize H1 = H at hP hS ⊢
  have hK := (hK.sub (tys' := []) [] rfl).app hK1
  have hK : va_K (dC, dI) vwCl [] s := hK
  have hP : va_P (dC, dI) vwCl [(h0, .inr (14, fs1_6))] H := hP
  have hD : va_D A [(h0, .inr (14, fs1_6))] := hD
  have hF_9 := hF_1.same hE_8 (l' := [(1, .int 0), (95, .int 0)]) rfl
  have hE_10 := hE_2.trans hE_8
  subst hr_7
  refine lv_if_eq (tgt := 27) hx hb dX14_group_10 (by decide) (fun _ => ?_) (fun c_11 => absurd (by decide) c_11)
  refine lv_iconst (v := (-1)) hx hb dX14_group_27 (by decide) ?_
  have hP9 := hP.sub (ws' := [(h0, .inr (14, fs1_6))]) [0] rfl
  have hD9 := hD.sub (ws' := [(h0, .inr (14, fs1_6))]) [0] (by decide) rfl
  have hK9 := hK.sub (tys' := []) [] rfl
  exact W.iret (v := (-1)) hx hb hr (fun t ht hW => ⟨⟨(-1), (fs1_6), rfl, ⟨rfl, hF_9.sub [0] rfl, hE_10.mono (by decide)⟩, by rw [ht]; exact hP9, va_K.moved hW.alike hK9, hD9⟩, hS.F ht⟩) hS.2.2 dX14_group_28
def pw_c_X14_global : List Cond := .code yX14_global cX14_global 7 (some .int) :: ([.fieldLink RX14 329 "NeedHouseModel" "thrown" "I", .methodLink RX14 1084 yX14_isDefinition, .instanceMethod yX14_isDefinition, .selects RX14 yX14_isDefinition yX14_isDefinition, .initialized RX14, .code yX14_isDefinition cX14_isDefinition 2 (some .boolean), .fieldLink RX14 844 "NeedHouseModel" "isThere" "Z"] ++ (wsX140 ++ []))
set_option maxRecDepth 20000 in
theorem g_c_X14_global_c_X14_isDefinition_7 : GoodIn pw_c_X14_global (wsV RX14 1084 RX14 yX14_isDefinition pw_c_X14_isDefinition) := goodIn_r _ [2, 3, 4, 5, 6, 7, 8, 9, 10, 11, 12, 13, 14, 15, 16, 17, 18, 19, 20, 21, 22, 23, 24, 25, 26, 27, 28, 29, 30, 31, 32, 33, 34, 35, 36, 37, 38, 39, 40, 41, 42, 43, 44, 45, 46, 47, 48, 49, 50, 51, 52, 53, 54, 55, 56, 57, 58, 59, 60, 61, 62, 63, 64, 65, 66, 67, 68, 69, 70, 71, 72, 73, 74, 75, 76, 77, 78, 79, 80, 81, 82, 83, 84, 85, 86, 87, 88, 89, 90, 91, 92, 93, 94, 95, 96, 97, 98, 99, 100, 101, 102, 103, 104, 105, 106, 107, 108, 109, 110, 111, 112, 113, 114, 115, 116, 117, 118, 119, 120, 121, 122, 123, 124, 125, 126, 127, 128, 129, 130, 131, 132, 133, 134, 135, 136, 137, 138, 139, 140, 141, 142, 143] rfl (by decide +kernel)
set_option maxHeartbeats 4000000 in
set_option maxRecDepth 100000 in
theorem c_X14_global (l : Launch) (dC : Nat → ClassId) (dI : Nat → Nat → Nat) (sz : Nat) (h0 : Nat) (fs : List Value) (th : Int32) (p0 : Int32) (p1 : Int32) (hF : hasF fs 136 [(1, .int th), (95, .int 0)]) : Met l yX14_global pw_c_X14_global ({ frames := 1, cells := 0, slots := 0, locals := 21 }) (va_Pc [.ref h0, .int p0, .int p1] (fun U => U.heap.size = sz ∧ va_P (dC, dI) vwCl [(h0, .inr (14, fs))] U.heap ∧ va_K (dC, dI) vwCl [] U ∧ va_D (fun _ => True) [(h0, .inr (14, fs))])) (va_Qi (fun (r : Int32) (u : (List Value)) => r = -1 ∧ hasF u 136 [(1, .int 0)] ∧ sameF fs u [1]) (fun (u : (List Value)) (t : State) => va_P (dC, dI) vwCl [(h0, .inr (14, u))] t.heap ∧ va_K (dC, dI) vwCl [] t ∧ va_D (va_A [(h0, .inr (14, fs))] sz) [(h0, .inr (14, u))]) (va_A [(h0, .inr (14, fs))] sz)) 0 0 (va_A [(h0, .inr (14, fs))] sz) := by
  refine Met.ofW (cc := cX14_global) (maxL := 7) (ret := (some .int)) (by decide) rfl ?_
  intro p e s m args below meth c s₁ B hml hv
  obtain ⟨rfl, hsz, hP, hK, hD0⟩ := hv
  have hx := B.exec
  have hb := B.bytes
  have hr := B.returns
  have hts := atoms_spec (ws := pw_c_X14_global) B.pre
  have hown : s.vm.findClass RX14 = some m.cls := findClass_of_methodNamed B.named
  have hlocks := B.notSynchronized
  have hin_X14 : ∀ w ∈ u_ws RX14 TX14 136, w ∈ pw_c_X14_global := fun w h => List.mem_cons_of_mem _ (List.mem_append_right _ (List.mem_append_left _ h))
  subst hsz
  have hD := hD0.self (sz := s.heap.size)
  generalize hAe : va_A [(h0, .inr (14, fs))] s.heap.size = A at hD ⊢
  have hA : ∀ q : Nat, s.heap.size ≤ q → A q := fun q h => by rw [← hAe]; exact Or.inr h
  have hS : va_S A s.heap s.heap [] := va_S.rf
  have hP : va_P (dC, dI) vwCl [(h0, .inr (14, fs))] s.heap := hP
  have hl := lv_entry ([.ref h0, .int p0, .int p1]) (n := 7) (Nat.le_of_ble_eq_true rfl)
  rw [lg_entry_eq]
  generalize (lg_sl ([.ref h0, .int p0, .int p1]) ++ List.replicate (7 - (lg_sl ([.ref h0, .int p0, .int p1])).length) Slot.unset).toArray = ls at hl ⊢
  have hl : lv_has ls 7 [(0, .ref h0), (1, .int p0), (2, .int p1)] := hl
  refine lv_aload_n hx hb dX14_global_0 rfl (lv_at hl 0 rfl) ?_
  refine lv_iconst (v := 0) hx hb dX14_global_1 (by decide) ?_
  refine va_put (D := (dC, dI)) (ci := 14) (v := .int 0) (ty := .int) (C := RX14) (T := TX14) (N := 136) hx hb hts hin_X14 tyX14 tyX14_ok nmX14 hown hK hP hD hS 0 rfl rfl 1 (by decide) (hts (.fieldLink RX14 329 "NeedHouseModel" "thrown" "I") (List.mem_of_getElem? (i := 1) rfl)) (fun _ h9 => h9) rfl (by decide +kernel) rfl rfl (by rw [hF.1]; decide) dX14_global_2 (fun H locs hP hD hS => ?_)
  have hP : va_P (dC, dI) vwCl [(h0, .inr (14, (fs.set 1 (.int 0))))] H := hP
  have hD : va_D A [(h0, .inr (14, (fs.set 1 (.int 0))))] := hD
  have hF_1 := hF.set 1 (.int 0) (l' := [(1, .int 0), (95, .int 0)]) (by decide) rfl
  have hE_2 := (sameF.rf (f := fs)).set 1 (.int 0)
  generalize fs.set 1 (.int 0) = fs_3 at hP hD hF_1 hE_2
  have hP : va_P (dC, dI) vwCl [(h0, .inr (14, fs_3))] H := hP
  have hD : va_D A [(h0, .inr (14, fs_3))] := hD
  refine lv_aload_n hx hb dX14_global_5 rfl (lv_at hl 0 rfl) ?_
  refine lv_iload_n hx hb dX14_global_6 rfl (lv_at hl 1 rfl) ?_
  have hPc := hP.sub (ws' := [(h0, .inr (14, fs_3))]) [0] rfl
  have hDc := hD.sub (ws' := [(h0, .inr (14, fs_3))]) [0] (by decide) rfl
  have hKc := hK.sub (tys' := []) [] rfl
  have hFc := va_free (wc := [(h0, .inr (14, fs_3))]) hD hS hA [0] rfl
  refine va_calli (va_runV (As := [.int p0]) (rest := []) ⟨hx, hb, hml, hown, hts⟩ (c_X14_isDefinition l dC dI H.size h0 fs_3 p0 (hF_1.sub [1] rfl)) (cwV 1 hts g_c_X14_global_c_X14_isDefinition_7 rfl rfl rfl (by decide +kernel) ⟨Nat.le_of_ble_eq_true rfl, Nat.le_of_ble_eq_true rfl⟩) ⟨fun a U g mk q => by obtain ⟨q0, q1, qP, qK, qD⟩ := q; exact ⟨q0, q1, qP, va_K.moved (u := U) (U := U.calling g mk a) (Vm.Alike.refl U.vm) qK, qD⟩, va_recv hKc hPc (ci := 14) (q0 := 0) rfl rfl, fun U hU hW => ⟨rfl, by rw [hU], by rw [hU]; exact hPc, va_K.moved hW.alike hKc, hDc.weaken (fun _ _ _ _ => trivial)⟩⟩ rfl rfl hl.1 rfl (lv_room (Nat.le_of_ble_eq_true rfl)) dX14_global_7 ⟨show 0 + 0 ≤ 0 by decide, show 0 + 0 ≤ 0 by decide⟩) hS (fun q _ h => hFc q h) hFc (fun r_4 u t H1 locs ht hvm hw hB hz1 hk1 hS => ?_)
  obtain ⟨fs1_6, rfl⟩ : ∃ z, z = u := ⟨_, rfl⟩
  obtain ⟨hP1, hK1, hD1⟩ := hB
  rw [ht] at hP1
  have hK1 := va_K.moved hvm.symm hK1
  try dsimp only at hw hP1 hK1 hD1
  obtain ⟨hr_7, hE_8⟩ := hw
  obtain ⟨hP, hD⟩ := va_join (wr := []) (w1 := [(h0, .inr (14, fs1_6))]) hP hD [0] [] rfl rfl (by decide) (by decide) hk1 hFc hP1 hD1
  generalize H1 = H at hP hS ⊢
  have hK := (hK.sub (tys' := []) [] rfl).app hK1
  have hK : va_K (dC, dI) vwCl [] s := hK
  have hP : va_P (dC, dI) vwCl [(h0, .inr (14, fs1_6))] H := hP
  have hD : va_D A [(h0, .inr (14, fs1_6))] := hD
  have hF_9 := hF_1.same hE_8 (l' := [(1, .int 0), (95, .int 0)]) rfl
  have hE_10 := hE_2.trans hE_8
  subst hr_7
  refine lv_if_eq (tgt := 29) hx hb dX14_global_10 (by decide) (fun _ => ?_) (fun c_11 => absurd (by decide) c_11)
  refine lv_iconst (v := (-1)) hx hb dX14_global_29 (by decide) ?_
  have hP9 := hP.sub (ws' := [(h0, .inr (14, fs1_6))]) [0] rfl
  have hD9 := hD.sub (ws' := [(h0, .inr (14, fs1_6))]) [0] (by decide) rfl
  have hK9 := hK.sub (tys' := []) [] rfl
  exact W.iret (v := (-1)) hx hb hr (fun t ht hW => ⟨⟨(-1), (fs1_6), rfl, ⟨rfl, hF_9.sub [0] rfl, hE_10.mono (by decide)⟩, by rw [ht]; exact hP9, va_K.moved hW.alike hK9, hD9⟩, hS.F ht⟩) hS.2.2 dX14_global_30
def pw_c_X14_shown : List Cond := .code yX14_shown cX14_shown 2 (some .int) :: ([.fieldLink RX14 329 "NeedHouseModel" "thrown" "I", .fieldLink RX14 847 "NeedHouseModel" "how" "I"] ++ (wsX140 ++ []))
set_option maxHeartbeats 4000000 in
set_option maxRecDepth 100000 in
theorem c_X14_shown (l : Launch) (dC : Nat → ClassId) (dI : Nat → Nat → Nat) (sz : Nat) (h0 : Nat) (fs : List Value) (th : Int32) (p0 : Int32) (hF : hasF fs 136 [(1, .int th), (112, .int 0)]) : Met l yX14_shown pw_c_X14_shown ({ frames := 0, cells := 0, slots := 0, locals := 0 }) (va_Pc [.ref h0, .int p0] (fun U => U.heap.size = sz ∧ va_P (dC, dI) vwCl [(h0, .inr (14, fs))] U.heap ∧ va_K (dC, dI) vwCl [] U ∧ va_D (fun _ => True) [(h0, .inr (14, fs))])) (va_Qi (fun (r : Int32) (u : (List Value)) => r = -1 ∧ hasF u 136 [(1, .int 0)] ∧ sameF fs u [1]) (fun (u : (List Value)) (t : State) => va_P (dC, dI) vwCl [(h0, .inr (14, u))] t.heap ∧ va_K (dC, dI) vwCl [] t ∧ va_D (va_A [(h0, .inr (14, fs))] sz) [(h0, .inr (14, u))]) (va_A [(h0, .inr (14, fs))] sz)) 0 0 (va_A [(h0, .inr (14, fs))] sz) := by
  refine Met.ofW (cc := cX14_shown) (maxL := 2) (ret := (some .int)) (by decide) rfl ?_
  intro p e s m args below meth c s₁ B hml hv
  obtain ⟨rfl, hsz, hP, hK, hD0⟩ := hv
  have hx := B.exec
  have hb := B.bytes
  have hr := B.returns
  have hts := atoms_spec (ws := pw_c_X14_shown) B.pre
  have hown : s.vm.findClass RX14 = some m.cls := findClass_of_methodNamed B.named
  have hlocks := B.notSynchronized
  have hin_X14 : ∀ w ∈ u_ws RX14 TX14 136, w ∈ pw_c_X14_shown := fun w h => List.mem_cons_of_mem _ (List.mem_append_right _ (List.mem_append_left _ h))
  subst hsz
  have hD := hD0.self (sz := s.heap.size)
  generalize hAe : va_A [(h0, .inr (14, fs))] s.heap.size = A at hD ⊢
  have hA : ∀ q : Nat, s.heap.size ≤ q → A q := fun q h => by rw [← hAe]; exact Or.inr h
  have hS : va_S A s.heap s.heap [] := va_S.rf
  have hP : va_P (dC, dI) vwCl [(h0, .inr (14, fs))] s.heap := hP
  have hl := lv_entry ([.ref h0, .int p0]) (n := 2) (Nat.le_of_ble_eq_true rfl)
  rw [lg_entry_eq]
  generalize (lg_sl ([.ref h0, .int p0]) ++ List.replicate (2 - (lg_sl ([.ref h0, .int p0])).length) Slot.unset).toArray = ls at hl ⊢
  have hl : lv_has ls 2 [(0, .ref h0), (1, .int p0)] := hl
  refine lv_aload_n hx hb dX14_shown_0 rfl (lv_at hl 0 rfl) ?_
  refine lv_iconst (v := 0) hx hb dX14_shown_1 (by decide) ?_
  refine va_put (D := (dC, dI)) (ci := 14) (v := .int 0) (ty := .int) (C := RX14) (T := TX14) (N := 136) hx hb hts hin_X14 tyX14 tyX14_ok nmX14 hown hK hP hD hS 0 rfl rfl 1 (by decide) (hts (.fieldLink RX14 329 "NeedHouseModel" "thrown" "I") (List.mem_of_getElem? (i := 1) rfl)) (fun _ h9 => h9) rfl (by decide +kernel) rfl rfl (by rw [hF.1]; decide) dX14_shown_2 (fun H locs hP hD hS => ?_)
  have hP : va_P (dC, dI) vwCl [(h0, .inr (14, (fs.set 1 (.int 0))))] H := hP
  have hD : va_D A [(h0, .inr (14, (fs.set 1 (.int 0))))] := hD
  have hF_1 := hF.set 1 (.int 0) (l' := [(1, .int 0), (112, .int 0)]) (by decide) rfl
  have hE_2 := (sameF.rf (f := fs)).set 1 (.int 0)
  generalize fs.set 1 (.int 0) = fs_3 at hP hD hF_1 hE_2
  have hP : va_P (dC, dI) vwCl [(h0, .inr (14, fs_3))] H := hP
  have hD : va_D A [(h0, .inr (14, fs_3))] := hD
  refine lv_aload_n hx hb dX14_shown_5 rfl (lv_at hl 0 rfl) ?_
  refine va_get (D := (dC, dI)) (ci := 14) (v := .int 0) (C := RX14) (T := TX14) (N := 136) hx hb hts hin_X14 hown hK hP 0 rfl rfl 112 (by decide) (hts (.fieldLink RX14 847 "NeedHouseModel" "how" "I") (List.mem_of_getElem? (i := 2) rfl)) (fun _ h9 => h9) (hF_1.at 1 rfl) dX14_shown_6 ?_
  refine lv_if_eq (tgt := 24) hx hb dX14_shown_9 (by decide) (fun _ => ?_) (fun c_4 => absurd (by decide) c_4)
  refine lv_iconst (v := (-1)) hx hb dX14_shown_24 (by decide) ?_
  refine lv_goto (tgt := 34) hx hb dX14_shown_25 (by decide) ?_
  have hP9 := hP.sub (ws' := [(h0, .inr (14, fs_3))]) [0] rfl
  have hD9 := hD.sub (ws' := [(h0, .inr (14, fs_3))]) [0] (by decide) rfl
  have hK9 := hK.sub (tys' := []) [] rfl
  exact W.iret (v := (-1)) hx hb hr (fun t ht hW => ⟨⟨(-1), (fs_3), rfl, ⟨rfl, hF_1.sub [0] rfl, hE_2.mono (by decide)⟩, by rw [ht]; exact hP9, va_K.moved hW.alike hK9, hD9⟩, hS.F ht⟩) hS.2.2 dX14_shown_34
def pw_c_X14_said : List Cond := .code yX14_said cX14_said 2 (some .int) :: ([.fieldLink RX14 329 "NeedHouseModel" "thrown" "I", .fieldLink RX14 847 "NeedHouseModel" "how" "I"] ++ (wsX140 ++ []))
set_option maxHeartbeats 4000000 in
set_option maxRecDepth 100000 in
theorem c_X14_said (l : Launch) (dC : Nat → ClassId) (dI : Nat → Nat → Nat) (sz : Nat) (h0 : Nat) (fs : List Value) (th : Int32) (p0 : Int32) (hF : hasF fs 136 [(1, .int th), (112, .int 0)]) : Met l yX14_said pw_c_X14_said ({ frames := 0, cells := 0, slots := 0, locals := 0 }) (va_Pc [.ref h0, .int p0] (fun U => U.heap.size = sz ∧ va_P (dC, dI) vwCl [(h0, .inr (14, fs))] U.heap ∧ va_K (dC, dI) vwCl [] U ∧ va_D (fun _ => True) [(h0, .inr (14, fs))])) (va_Qi (fun (r : Int32) (u : (List Value)) => r = 0 ∧ hasF u 136 [(1, .int 0)] ∧ sameF fs u [1]) (fun (u : (List Value)) (t : State) => va_P (dC, dI) vwCl [(h0, .inr (14, u))] t.heap ∧ va_K (dC, dI) vwCl [] t ∧ va_D (va_A [(h0, .inr (14, fs))] sz) [(h0, .inr (14, u))]) (va_A [(h0, .inr (14, fs))] sz)) 0 0 (va_A [(h0, .inr (14, fs))] sz) := by
  refine Met.ofW (cc := cX14_said) (maxL := 2) (ret := (some .int)) (by decide) rfl ?_
  intro p e s m args below meth c s₁ B hml hv
  obtain ⟨rfl, hsz, hP, hK, hD0⟩ := hv
  have hx := B.exec
  have hb := B.bytes
  have hr := B.returns
  have hts := atoms_spec (ws := pw_c_X14_said) B.pre
  have hown : s.vm.findClass RX14 = some m.cls := findClass_of_methodNamed B.named
  have hlocks := B.notSynchronized
  have hin_X14 : ∀ w ∈ u_ws RX14 TX14 136, w ∈ pw_c_X14_said := fun w h => List.mem_cons_of_mem _ (List.mem_append_right _ (List.mem_append_left _ h))
  subst hsz
  have hD := hD0.self (sz := s.heap.size)
  generalize hAe : va_A [(h0, .inr (14, fs))] s.heap.size = A at hD ⊢
  have hA : ∀ q : Nat, s.heap.size ≤ q → A q := fun q h => by rw [← hAe]; exact Or.inr h
  have hS : va_S A s.heap s.heap [] := va_S.rf
  have hP : va_P (dC, dI) vwCl [(h0, .inr (14, fs))] s.heap := hP
  have hl := lv_entry ([.ref h0, .int p0]) (n := 2) (Nat.le_of_ble_eq_true rfl)
  rw [lg_entry_eq]
  generalize (lg_sl ([.ref h0, .int p0]) ++ List.replicate (2 - (lg_sl ([.ref h0, .int p0])).length) Slot.unset).toArray = ls at hl ⊢
  have hl : lv_has ls 2 [(0, .ref h0), (1, .int p0)] := hl
  refine lv_aload_n hx hb dX14_said_0 rfl (lv_at hl 0 rfl) ?_
  refine lv_iconst (v := 0) hx hb dX14_said_1 (by decide) ?_
  refine va_put (D := (dC, dI)) (ci := 14) (v := .int 0) (ty := .int) (C := RX14) (T := TX14) (N := 136) hx hb hts hin_X14 tyX14 tyX14_ok nmX14 hown hK hP hD hS 0 rfl rfl 1 (by decide) (hts (.fieldLink RX14 329 "NeedHouseModel" "thrown" "I") (List.mem_of_getElem? (i := 1) rfl)) (fun _ h9 => h9) rfl (by decide +kernel) rfl rfl (by rw [hF.1]; decide) dX14_said_2 (fun H locs hP hD hS => ?_)
  have hP : va_P (dC, dI) vwCl [(h0, .inr (14, (fs.set 1 (.int 0))))] H := hP
  have hD : va_D A [(h0, .inr (14, (fs.set 1 (.int 0))))] := hD
  have hF_1 := hF.set 1 (.int 0) (l' := [(1, .int 0), (112, .int 0)]) (by decide) rfl
  have hE_2 := (sameF.rf (f := fs)).set 1 (.int 0)
  generalize fs.set 1 (.int 0) = fs_3 at hP hD hF_1 hE_2
  have hP : va_P (dC, dI) vwCl [(h0, .inr (14, fs_3))] H := hP
  have hD : va_D A [(h0, .inr (14, fs_3))] := hD
  refine lv_aload_n hx hb dX14_said_5 rfl (lv_at hl 0 rfl) ?_
  refine va_get (D := (dC, dI)) (ci := 14) (v := .int 0) (C := RX14) (T := TX14) (N := 136) hx hb hts hin_X14 hown hK hP 0 rfl rfl 112 (by decide) (hts (.fieldLink RX14 847 "NeedHouseModel" "how" "I") (List.mem_of_getElem? (i := 2) rfl)) (fun _ h9 => h9) (hF_1.at 1 rfl) dX14_said_6 ?_
  refine lv_if_eq (tgt := 24) hx hb dX14_said_9 (by decide) (fun _ => ?_) (fun c_4 => absurd (by decide) c_4)
  refine lv_iconst (v := 0) hx hb dX14_said_24 (by decide) ?_
  refine lv_goto (tgt := 34) hx hb dX14_said_25 (by decide) ?_
  have hP9 := hP.sub (ws' := [(h0, .inr (14, fs_3))]) [0] rfl
  have hD9 := hD.sub (ws' := [(h0, .inr (14, fs_3))]) [0] (by decide) rfl
  have hK9 := hK.sub (tys' := []) [] rfl
  exact W.iret (v := 0) hx hb hr (fun t ht hW => ⟨⟨0, (fs_3), rfl, ⟨rfl, hF_1.sub [0] rfl, hE_2.mono (by decide)⟩, by rw [ht]; exact hP9, va_K.moved hW.alike hK9, hD9⟩, hS.F ht⟩) hS.2.2 dX14_said_34
def pw_c_X14_begin : List Cond := .code yX14_begin cX14_begin 4 none :: ([.fieldLink RX14 844 "NeedHouseModel" "isThere" "Z", .fieldLink RX14 329 "NeedHouseModel" "thrown" "I"] ++ (wsX140 ++ []))
set_option maxHeartbeats 4000000 in
set_option maxRecDepth 100000 in
theorem c_X14_begin (l : Launch) (dC : Nat → ClassId) (dI : Nat → Nat → Nat) (sz : Nat) (h0 : Nat) (fs : List Value) (th : Int32) (hF : hasF fs 136 [(1, .int th), (95, .int 0)]) : Met l yX14_begin pw_c_X14_begin ({ frames := 0, cells := 0, slots := 0, locals := 0 }) (va_Pc [.ref h0] (fun U => U.heap.size = sz ∧ va_P (dC, dI) vwCl [(h0, .inr (14, fs))] U.heap ∧ va_K (dC, dI) vwCl [] U ∧ va_D (fun _ => True) [(h0, .inr (14, fs))])) (va_Qv (fun (u : (List Value)) => hasF u 136 [(1, .int 1)] ∧ sameF fs u [1]) (fun (u : (List Value)) (t : State) => va_P (dC, dI) vwCl [(h0, .inr (14, u))] t.heap ∧ va_K (dC, dI) vwCl [] t ∧ va_D (va_A [(h0, .inr (14, fs))] sz) [(h0, .inr (14, u))]) (va_A [(h0, .inr (14, fs))] sz)) 0 0 (va_A [(h0, .inr (14, fs))] sz) := by
  refine Met.ofW (cc := cX14_begin) (maxL := 4) (ret := none) (by decide) rfl ?_
  intro p e s m args below meth c s₁ B hml hv
  obtain ⟨rfl, hsz, hP, hK, hD0⟩ := hv
  have hx := B.exec
  have hb := B.bytes
  have hr := B.returns
  have hts := atoms_spec (ws := pw_c_X14_begin) B.pre
  have hown : s.vm.findClass RX14 = some m.cls := findClass_of_methodNamed B.named
  have hlocks := B.notSynchronized
  have hin_X14 : ∀ w ∈ u_ws RX14 TX14 136, w ∈ pw_c_X14_begin := fun w h => List.mem_cons_of_mem _ (List.mem_append_right _ (List.mem_append_left _ h))
  subst hsz
  have hD := hD0.self (sz := s.heap.size)
  generalize hAe : va_A [(h0, .inr (14, fs))] s.heap.size = A at hD ⊢
  have hA : ∀ q : Nat, s.heap.size ≤ q → A q := fun q h => by rw [← hAe]; exact Or.inr h
  have hS : va_S A s.heap s.heap [] := va_S.rf
  have hP : va_P (dC, dI) vwCl [(h0, .inr (14, fs))] s.heap := hP
  have hl := lv_entry ([.ref h0]) (n := 4) (Nat.le_of_ble_eq_true rfl)
  rw [lg_entry_eq]
  generalize (lg_sl ([.ref h0]) ++ List.replicate (4 - (lg_sl ([.ref h0])).length) Slot.unset).toArray = ls at hl ⊢
  have hl : lv_has ls 4 [(0, .ref h0)] := hl
  refine lv_aload_n hx hb dX14_begin_0 rfl (lv_at hl 0 rfl) ?_
  refine lv_aload_n hx hb dX14_begin_1 rfl (lv_at hl 0 rfl) ?_
  refine va_get (D := (dC, dI)) (ci := 14) (v := .int 0) (C := RX14) (T := TX14) (N := 136) hx hb hts hin_X14 hown hK hP 0 rfl rfl 95 (by decide) (hts (.fieldLink RX14 844 "NeedHouseModel" "isThere" "Z") (List.mem_of_getElem? (i := 1) rfl)) (fun _ h9 => h9) (hF.at 1 rfl) dX14_begin_2 ?_
  refine lv_if_eq (tgt := 12) hx hb dX14_begin_5 (by decide) (fun _ => ?_) (fun c_1 => absurd (by decide) c_1)
  refine lv_iconst (v := 1) hx hb dX14_begin_12 (by decide) ?_
  refine va_put (D := (dC, dI)) (ci := 14) (v := .int 1) (ty := .int) (C := RX14) (T := TX14) (N := 136) hx hb hts hin_X14 tyX14 tyX14_ok nmX14 hown hK hP hD hS 0 rfl rfl 1 (by decide) (hts (.fieldLink RX14 329 "NeedHouseModel" "thrown" "I") (List.mem_of_getElem? (i := 2) rfl)) (fun _ h9 => h9) rfl (by decide +kernel) rfl rfl (by rw [hF.1]; decide) dX14_begin_13 (fun H locs hP hD hS => ?_)
  have hP : va_P (dC, dI) vwCl [(h0, .inr (14, (fs.set 1 (.int 1))))] H := hP
  have hD : va_D A [(h0, .inr (14, (fs.set 1 (.int 1))))] := hD
  have hF_2 := hF.set 1 (.int 1) (l' := [(1, .int 1), (95, .int 0)]) (by decide) rfl
  have hE_3 := (sameF.rf (f := fs)).set 1 (.int 1)
  generalize fs.set 1 (.int 1) = fs_4 at hP hD hF_2 hE_3
  have hP : va_P (dC, dI) vwCl [(h0, .inr (14, fs_4))] H := hP
  have hD : va_D A [(h0, .inr (14, fs_4))] := hD
  refine lv_aload_n hx hb dX14_begin_16 rfl (lv_at hl 0 rfl) ?_
  refine va_get (D := (dC, dI)) (ci := 14) (v := .int 1) (C := RX14) (T := TX14) (N := 136) hx hb hts hin_X14 hown hK hP 0 rfl rfl 1 (by decide) (hts (.fieldLink RX14 329 "NeedHouseModel" "thrown" "I") (List.mem_of_getElem? (i := 2) rfl)) (fun _ h9 => h9) (hF_2.at 0 rfl) dX14_begin_17 ?_
  refine lv_iconst (v := 1) hx hb dX14_begin_20 (by decide) ?_
  refine lv_icmp_ne (tgt := 25) hx hb dX14_begin_21 (by decide) (fun c_5 => absurd c_5 (by decide)) (fun _ => ?_)
  have hP9 := hP.sub (ws' := [(h0, .inr (14, fs_4))]) [0] rfl
  have hD9 := hD.sub (ws' := [(h0, .inr (14, fs_4))]) [0] (by decide) rfl
  have hK9 := hK.sub (tys' := []) [] rfl
  exact W.vret hx hb hr (fun t ht hW => ⟨⟨(fs_4), rfl, ⟨hF_2.sub [0] rfl, hE_3.mono (by decide)⟩, by rw [ht]; exact hP9, va_K.moved hW.alike hK9, hD9⟩, hS.F ht⟩) hS.2.2 dX14_begin_24
