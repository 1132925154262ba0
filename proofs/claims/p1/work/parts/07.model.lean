theorem dX14_run_0 : decode cX14_run 0 = .ok (.aload_n 0, 1) := by decide +kernel
theorem dX14_run_1 : decode cX14_run 1 = .ok (.iload_n 1, 1) := by decide +kernel
theorem dX14_run_2 : decode cX14_run 2 = .ok (.ifCond .lt 10, 3) := by decide +kernel
theorem dX14_run_5 : decode cX14_run 5 = .ok (.iload_n 1, 1) := by decide +kernel
theorem dX14_run_6 : decode cX14_run 6 = .ok (.sipush 2000, 3) := by decide +kernel
theorem dX14_run_9 : decode cX14_run 9 = .ok (.if_icmp .le 7, 3) := by decide +kernel
theorem dX14_run_12 : decode cX14_run 12 = .ok (.iconst 1, 1) := by decide +kernel
theorem dX14_run_13 : decode cX14_run 13 = .ok (.goto 16, 3) := by decide +kernel
theorem dX14_run_16 : decode cX14_run 16 = .ok (.aload_n 0, 1) := by decide +kernel
theorem dX14_run_17 : decode cX14_run 17 = .ok (.getfield 847, 3) := by decide +kernel
theorem dX14_run_20 : decode cX14_run 20 = .ok (.iconst 1, 1) := by decide +kernel
theorem dX14_run_21 : decode cX14_run 21 = .ok (.if_icmp .eq 7, 3) := by decide +kernel
theorem dX14_run_24 : decode cX14_run 24 = .ok (.iconst 2, 1) := by decide +kernel
theorem dX14_run_25 : decode cX14_run 25 = .ok (.goto 4, 3) := by decide +kernel
theorem dX14_run_28 : decode cX14_run 28 = .ok (.iconst 0, 1) := by decide +kernel
theorem dX14_run_29 : decode cX14_run 29 = .ok (.putfield 329, 3) := by decide +kernel
theorem dX14_run_32 : decode cX14_run 32 = .ok (.aload_n 0, 1) := by decide +kernel
theorem dX14_run_33 : decode cX14_run 33 = .ok (.getfield 329, 3) := by decide +kernel
theorem dX14_run_36 : decode cX14_run 36 = .ok (.ifCond .eq 5, 3) := by decide +kernel
theorem dX14_run_39 : decode cX14_run 39 = .ok (.iconst 0, 1) := by decide +kernel
theorem dX14_run_40 : decode cX14_run 40 = .ok (.ireturn, 1) := by decide +kernel
theorem dX14_run_41 : decode cX14_run 41 = .ok (.iconst 0, 1) := by decide +kernel
theorem dX14_run_42 : decode cX14_run 42 = .ok (.istore_n 2, 1) := by decide +kernel
theorem dX14_run_43 : decode cX14_run 43 = .ok (.aload_n 0, 1) := by decide +kernel
theorem dX14_run_44 : decode cX14_run 44 = .ok (.getfield 847, 3) := by decide +kernel
theorem dX14_run_47 : decode cX14_run 47 = .ok (.iconst 1, 1) := by decide +kernel
theorem dX14_run_48 : decode cX14_run 48 = .ok (.if_icmp .ne 50, 3) := by decide +kernel
theorem dX14_run_51 : decode cX14_run 51 = .ok (.iload_n 2, 1) := by decide +kernel
theorem dX14_run_52 : decode cX14_run 52 = .ok (.iload_n 1, 1) := by decide +kernel
theorem dX14_run_53 : decode cX14_run 53 = .ok (.if_icmp .ge 45, 3) := by decide +kernel
theorem dX14_run_56 : decode cX14_run 56 = .ok (.iinc 2 1, 3) := by decide +kernel
theorem dX14_run_59 : decode cX14_run 59 = .ok (.aload_n 0, 1) := by decide +kernel
theorem dX14_run_60 : decode cX14_run 60 = .ok (.dup, 1) := by decide +kernel
theorem dX14_run_61 : decode cX14_run 61 = .ok (.getfield 966, 3) := by decide +kernel
theorem dX14_run_64 : decode cX14_run 64 = .ok (.iconst 1, 1) := by decide +kernel
theorem dX14_run_65 : decode cX14_run 65 = .ok (.iadd, 1) := by decide +kernel
theorem dX14_run_66 : decode cX14_run 66 = .ok (.putfield 966, 3) := by decide +kernel
theorem dX14_run_69 : decode cX14_run 69 = .ok (.aload_n 0, 1) := by decide +kernel
theorem dX14_run_70 : decode cX14_run 70 = .ok (.getfield 919, 3) := by decide +kernel
theorem dX14_run_73 : decode cX14_run 73 = .ok (.ifCond .eq 14, 3) := by decide +kernel
theorem dX14_run_76 : decode cX14_run 76 = .ok (.aload_n 0, 1) := by decide +kernel
theorem dX14_run_77 : decode cX14_run 77 = .ok (.aload_n 0, 1) := by decide +kernel
theorem dX14_run_78 : decode cX14_run 78 = .ok (.getfield 922, 3) := by decide +kernel
theorem dX14_run_81 : decode cX14_run 81 = .ok (.invokevirtual 981, 3) := by decide +kernel
theorem dX14_run_84 : decode cX14_run 84 = .ok (.goto (-41), 3) := by decide +kernel
theorem dX14_run_87 : decode cX14_run 87 = .ok (.aload_n 0, 1) := by decide +kernel
theorem dX14_run_88 : decode cX14_run 88 = .ok (.aload_n 0, 1) := by decide +kernel
theorem dX14_run_89 : decode cX14_run 89 = .ok (.getfield 984, 3) := by decide +kernel
theorem dX14_run_92 : decode cX14_run 92 = .ok (.invokevirtual 987, 3) := by decide +kernel
theorem dX14_run_95 : decode cX14_run 95 = .ok (.goto (-52), 3) := by decide +kernel
theorem dX14_run_98 : decode cX14_run 98 = .ok (.iload_n 2, 1) := by decide +kernel
theorem dX14_run_99 : decode cX14_run 99 = .ok (.ireturn, 1) := by decide +kernel
theorem dX14_byteAt_0 : decode cX14_byteAt 0 = .ok (.iload_n 1, 1) := by decide +kernel
theorem dX14_byteAt_1 : decode cX14_byteAt 1 = .ok (.aload_n 0, 1) := by decide +kernel
theorem dX14_byteAt_2 : decode cX14_byteAt 2 = .ok (.getfield 333, 3) := by decide +kernel
theorem dX14_byteAt_5 : decode cX14_byteAt 5 = .ok (.if_icmp .ge 12, 3) := by decide +kernel
theorem dX14_byteAt_8 : decode cX14_byteAt 8 = .ok (.aload_n 0, 1) := by decide +kernel
theorem dX14_byteAt_9 : decode cX14_byteAt 9 = .ok (.getfield 16, 3) := by decide +kernel
theorem dX14_byteAt_12 : decode cX14_byteAt 12 = .ok (.iload_n 1, 1) := by decide +kernel
theorem dX14_byteAt_13 : decode cX14_byteAt 13 = .ok (.iaload, 1) := by decide +kernel
theorem dX14_byteAt_14 : decode cX14_byteAt 14 = .ok (.goto 4, 3) := by decide +kernel
theorem dX14_byteAt_17 : decode cX14_byteAt 17 = .ok (.iconst (-1), 1) := by decide +kernel
theorem dX14_byteAt_18 : decode cX14_byteAt 18 = .ok (.ireturn, 1) := by decide +kernel
theorem dX14_token_0 : decode cX14_token 0 = .ok (.aload_n 0, 1) := by decide +kernel
theorem dX14_token_1 : decode cX14_token 1 = .ok (.getfield 95, 3) := by decide +kernel
theorem dX14_token_4 : decode cX14_token 4 = .ok (.aload_n 0, 1) := by decide +kernel
theorem dX14_token_5 : decode cX14_token 5 = .ok (.getfield 369, 3) := by decide +kernel
theorem dX14_token_8 : decode cX14_token 8 = .ok (.iload_n 1, 1) := by decide +kernel
theorem dX14_token_9 : decode cX14_token 9 = .ok (.iastore, 1) := by decide +kernel
theorem dX14_token_10 : decode cX14_token 10 = .ok (.aload_n 0, 1) := by decide +kernel
theorem dX14_token_11 : decode cX14_token 11 = .ok (.getfield 98, 3) := by decide +kernel
theorem dX14_token_14 : decode cX14_token 14 = .ok (.aload_n 0, 1) := by decide +kernel
theorem dX14_token_15 : decode cX14_token 15 = .ok (.getfield 369, 3) := by decide +kernel
theorem dX14_token_18 : decode cX14_token 18 = .ok (.iload_n 2, 1) := by decide +kernel
theorem dX14_token_19 : decode cX14_token 19 = .ok (.iastore, 1) := by decide +kernel
theorem dX14_token_20 : decode cX14_token 20 = .ok (.aload_n 0, 1) := by decide +kernel
theorem dX14_token_21 : decode cX14_token 21 = .ok (.getfield 101, 3) := by decide +kernel
theorem dX14_token_24 : decode cX14_token 24 = .ok (.aload_n 0, 1) := by decide +kernel
theorem dX14_token_25 : decode cX14_token 25 = .ok (.getfield 369, 3) := by decide +kernel
theorem dX14_token_28 : decode cX14_token 28 = .ok (.iload_n 3, 1) := by decide +kernel
theorem dX14_token_29 : decode cX14_token 29 = .ok (.iastore, 1) := by decide +kernel
theorem dX14_token_30 : decode cX14_token 30 = .ok (.aload_n 0, 1) := by decide +kernel
theorem dX14_token_31 : decode cX14_token 31 = .ok (.getfield 104, 3) := by decide +kernel
theorem dX14_token_34 : decode cX14_token 34 = .ok (.aload_n 0, 1) := by decide +kernel
theorem dX14_token_35 : decode cX14_token 35 = .ok (.getfield 369, 3) := by decide +kernel
theorem dX14_token_38 : decode cX14_token 38 = .ok (.iload 4, 2) := by decide +kernel
theorem dX14_token_40 : decode cX14_token 40 = .ok (.iastore, 1) := by decide +kernel
theorem dX14_token_41 : decode cX14_token 41 = .ok (.aload_n 0, 1) := by decide +kernel
theorem dX14_token_42 : decode cX14_token 42 = .ok (.dup, 1) := by decide +kernel
theorem dX14_token_43 : decode cX14_token 43 = .ok (.getfield 369, 3) := by decide +kernel
theorem dX14_token_46 : decode cX14_token 46 = .ok (.iconst 1, 1) := by decide +kernel
theorem dX14_token_47 : decode cX14_token 47 = .ok (.iadd, 1) := by decide +kernel
theorem dX14_token_48 : decode cX14_token 48 = .ok (.putfield 369, 3) := by decide +kernel
theorem dX14_token_51 : decode cX14_token 51 = .ok (.return_, 1) := by decide +kernel
theorem dX14_lexemes_0 : decode cX14_lexemes 0 = .ok (.aload_n 0, 1) := by decide +kernel
theorem dX14_lexemes_1 : decode cX14_lexemes 1 = .ok (.iconst 0, 1) := by decide +kernel
theorem dX14_lexemes_2 : decode cX14_lexemes 2 = .ok (.putfield 369, 3) := by decide +kernel
theorem dX14_lexemes_5 : decode cX14_lexemes 5 = .ok (.aload_n 0, 1) := by decide +kernel
theorem dX14_lexemes_6 : decode cX14_lexemes 6 = .ok (.iconst 0, 1) := by decide +kernel
theorem dX14_lexemes_7 : decode cX14_lexemes 7 = .ok (.putfield 350, 3) := by decide +kernel
theorem dX14_lexemes_10 : decode cX14_lexemes 10 = .ok (.iconst 1, 1) := by decide +kernel
theorem dX14_lexemes_11 : decode cX14_lexemes 11 = .ok (.istore_n 1, 1) := by decide +kernel
theorem dX14_lexemes_12 : decode cX14_lexemes 12 = .ok (.iconst 0, 1) := by decide +kernel
theorem dX14_lexemes_13 : decode cX14_lexemes 13 = .ok (.istore_n 2, 1) := by decide +kernel
theorem dX14_lexemes_14 : decode cX14_lexemes 14 = .ok (.iconst 0, 1) := by decide +kernel
theorem dX14_lexemes_15 : decode cX14_lexemes 15 = .ok (.istore_n 3, 1) := by decide +kernel
theorem dX14_lexemes_16 : decode cX14_lexemes 16 = .ok (.aload_n 0, 1) := by decide +kernel
theorem dX14_lexemes_17 : decode cX14_lexemes 17 = .ok (.iload_n 3, 1) := by decide +kernel
theorem dX14_lexemes_18 : decode cX14_lexemes 18 = .ok (.invokevirtual 365, 3) := by decide +kernel
theorem dX14_lexemes_21 : decode cX14_lexemes 21 = .ok (.istore 4, 2) := by decide +kernel
theorem dX14_lexemes_23 : decode cX14_lexemes 23 = .ok (.iload 4, 2) := by decide +kernel
theorem dX14_lexemes_25 : decode cX14_lexemes 25 = .ok (.bipush 32, 2) := by decide +kernel
theorem dX14_lexemes_27 : decode cX14_lexemes 27 = .ok (.if_icmp .ne 9, 3) := by decide +kernel
theorem dX14_lexemes_30 : decode cX14_lexemes 30 = .ok (.iinc 3 1, 3) := by decide +kernel
theorem dX14_lexemes_33 : decode cX14_lexemes 33 = .ok (.goto 111, 3) := by decide +kernel
theorem dX14_lexemes_36 : decode cX14_lexemes 36 = .ok (.iload 4, 2) := by decide +kernel
theorem dX14_lexemes_38 : decode cX14_lexemes 38 = .ok (.bipush 10, 2) := by decide +kernel
theorem dX14_lexemes_40 : decode cX14_lexemes 40 = .ok (.if_icmp .ne 14, 3) := by decide +kernel
theorem dX14_lexemes_43 : decode cX14_lexemes 43 = .ok (.iinc 3 1, 3) := by decide +kernel
theorem dX14_lexemes_46 : decode cX14_lexemes 46 = .ok (.iinc 1 1, 3) := by decide +kernel
theorem dX14_lexemes_49 : decode cX14_lexemes 49 = .ok (.iload_n 3, 1) := by decide +kernel
theorem dX14_lexemes_50 : decode cX14_lexemes 50 = .ok (.istore_n 2, 1) := by decide +kernel
theorem dX14_lexemes_51 : decode cX14_lexemes 51 = .ok (.goto 93, 3) := by decide +kernel
theorem dX14_lexemes_54 : decode cX14_lexemes 54 = .ok (.iload 4, 2) := by decide +kernel
theorem dX14_lexemes_56 : decode cX14_lexemes 56 = .ok (.bipush 45, 2) := by decide +kernel
theorem dX14_lexemes_58 : decode cX14_lexemes 58 = .ok (.if_icmp .ne 40, 3) := by decide +kernel
theorem dX14_lexemes_61 : decode cX14_lexemes 61 = .ok (.aload_n 0, 1) := by decide +kernel
theorem dX14_lexemes_62 : decode cX14_lexemes 62 = .ok (.iload_n 3, 1) := by decide +kernel
theorem dX14_lexemes_63 : decode cX14_lexemes 63 = .ok (.iconst 1, 1) := by decide +kernel
theorem dX14_lexemes_64 : decode cX14_lexemes 64 = .ok (.iadd, 1) := by decide +kernel
theorem dX14_lexemes_65 : decode cX14_lexemes 65 = .ok (.invokevirtual 365, 3) := by decide +kernel
theorem dX14_lexemes_68 : decode cX14_lexemes 68 = .ok (.bipush 45, 2) := by decide +kernel
theorem dX14_lexemes_70 : decode cX14_lexemes 70 = .ok (.if_icmp .ne 28, 3) := by decide +kernel
theorem dX14_lexemes_73 : decode cX14_lexemes 73 = .ok (.iload_n 3, 1) := by decide +kernel
theorem dX14_lexemes_74 : decode cX14_lexemes 74 = .ok (.aload_n 0, 1) := by decide +kernel
theorem dX14_lexemes_75 : decode cX14_lexemes 75 = .ok (.getfield 333, 3) := by decide +kernel
theorem dX14_lexemes_78 : decode cX14_lexemes 78 = .ok (.if_icmp .ge 66, 3) := by decide +kernel
theorem dX14_lexemes_81 : decode cX14_lexemes 81 = .ok (.aload_n 0, 1) := by decide +kernel
theorem dX14_lexemes_82 : decode cX14_lexemes 82 = .ok (.getfield 16, 3) := by decide +kernel
theorem dX14_lexemes_85 : decode cX14_lexemes 85 = .ok (.iload_n 3, 1) := by decide +kernel
theorem dX14_lexemes_86 : decode cX14_lexemes 86 = .ok (.iaload, 1) := by decide +kernel
theorem dX14_lexemes_87 : decode cX14_lexemes 87 = .ok (.bipush 10, 2) := by decide +kernel
theorem dX14_lexemes_89 : decode cX14_lexemes 89 = .ok (.if_icmp .eq 55, 3) := by decide +kernel
theorem dX14_lexemes_92 : decode cX14_lexemes 92 = .ok (.iinc 3 1, 3) := by decide +kernel
theorem dX14_lexemes_95 : decode cX14_lexemes 95 = .ok (.goto (-22), 3) := by decide +kernel
theorem dX14_lexemes_98 : decode cX14_lexemes 98 = .ok (.iload 4, 2) := by decide +kernel
theorem dX14_lexemes_100 : decode cX14_lexemes 100 = .ok (.ifCond .ge 13, 3) := by decide +kernel
theorem dX14_lexemes_103 : decode cX14_lexemes 103 = .ok (.aload_n 0, 1) := by decide +kernel
theorem dX14_lexemes_104 : decode cX14_lexemes 104 = .ok (.bipush 43, 2) := by decide +kernel
theorem dX14_lexemes_106 : decode cX14_lexemes 106 = .ok (.iconst 0, 1) := by decide +kernel
theorem dX14_lexemes_107 : decode cX14_lexemes 107 = .ok (.iload_n 1, 1) := by decide +kernel
theorem dX14_lexemes_108 : decode cX14_lexemes 108 = .ok (.iconst 0, 1) := by decide +kernel
theorem dX14_lexemes_109 : decode cX14_lexemes 109 = .ok (.invokevirtual 372, 3) := by decide +kernel
theorem dX14_lexemes_112 : decode cX14_lexemes 112 = .ok (.return_, 1) := by decide +kernel
theorem dX14_lexemes_113 : decode cX14_lexemes 113 = .ok (.aload_n 0, 1) := by decide +kernel
theorem dX14_lexemes_114 : decode cX14_lexemes 114 = .ok (.iload_n 3, 1) := by decide +kernel
theorem dX14_lexemes_115 : decode cX14_lexemes 115 = .ok (.iload_n 1, 1) := by decide +kernel
theorem dX14_lexemes_116 : decode cX14_lexemes 116 = .ok (.iload_n 3, 1) := by decide +kernel
theorem dX14_lexemes_117 : decode cX14_lexemes 117 = .ok (.iload_n 2, 1) := by decide +kernel
theorem dX14_lexemes_118 : decode cX14_lexemes 118 = .ok (.isub, 1) := by decide +kernel
theorem dX14_lexemes_119 : decode cX14_lexemes 119 = .ok (.invokevirtual 376, 3) := by decide +kernel
theorem dX14_lexemes_122 : decode cX14_lexemes 122 = .ok (.istore 5, 2) := by decide +kernel
theorem dX14_lexemes_124 : decode cX14_lexemes 124 = .ok (.aload_n 0, 1) := by decide +kernel
theorem dX14_lexemes_125 : decode cX14_lexemes 125 = .ok (.getfield 95, 3) := by decide +kernel
theorem dX14_lexemes_128 : decode cX14_lexemes 128 = .ok (.aload_n 0, 1) := by decide +kernel
theorem dX14_lexemes_129 : decode cX14_lexemes 129 = .ok (.getfield 369, 3) := by decide +kernel
theorem dX14_lexemes_132 : decode cX14_lexemes 132 = .ok (.iconst 1, 1) := by decide +kernel
theorem dX14_lexemes_133 : decode cX14_lexemes 133 = .ok (.isub, 1) := by decide +kernel
theorem dX14_lexemes_134 : decode cX14_lexemes 134 = .ok (.iaload, 1) := by decide +kernel
theorem dX14_lexemes_135 : decode cX14_lexemes 135 = .ok (.bipush 44, 2) := by decide +kernel
theorem dX14_lexemes_137 : decode cX14_lexemes 137 = .ok (.if_icmp .ne 4, 3) := by decide +kernel
theorem dX14_lexemes_140 : decode cX14_lexemes 140 = .ok (.return_, 1) := by decide +kernel
theorem dX14_lexemes_141 : decode cX14_lexemes 141 = .ok (.iload 5, 2) := by decide +kernel
theorem dX14_lexemes_143 : decode cX14_lexemes 143 = .ok (.istore_n 3, 1) := by decide +kernel
theorem dX14_lexemes_144 : decode cX14_lexemes 144 = .ok (.goto (-128), 3) := by decide +kernel
theorem dX14_layout_0 : decode cX14_layout 0 = .ok (.aload_n 0, 1) := by decide +kernel
theorem dX14_layout_1 : decode cX14_layout 1 = .ok (.getfield 95, 3) := by decide +kernel
theorem dX14_layout_4 : decode cX14_layout 4 = .ok (.aload_n 0, 1) := by decide +kernel
theorem dX14_layout_5 : decode cX14_layout 5 = .ok (.getfield 410, 3) := by decide +kernel
theorem dX14_layout_8 : decode cX14_layout 8 = .ok (.iaload, 1) := by decide +kernel
theorem dX14_layout_9 : decode cX14_layout 9 = .ok (.istore_n 1, 1) := by decide +kernel
theorem dX14_layout_10 : decode cX14_layout 10 = .ok (.aload_n 0, 1) := by decide +kernel
theorem dX14_layout_11 : decode cX14_layout 11 = .ok (.iconst 0, 1) := by decide +kernel
theorem dX14_layout_12 : decode cX14_layout 12 = .ok (.putfield 426, 3) := by decide +kernel
theorem dX14_layout_15 : decode cX14_layout 15 = .ok (.aload_n 0, 1) := by decide +kernel
theorem dX14_layout_16 : decode cX14_layout 16 = .ok (.iconst 0, 1) := by decide +kernel
theorem dX14_layout_17 : decode cX14_layout 17 = .ok (.putfield 429, 3) := by decide +kernel
theorem dX14_layout_20 : decode cX14_layout 20 = .ok (.aload_n 0, 1) := by decide +kernel
theorem dX14_layout_21 : decode cX14_layout 21 = .ok (.iconst 0, 1) := by decide +kernel
theorem dX14_layout_22 : decode cX14_layout 22 = .ok (.putfield 404, 3) := by decide +kernel
theorem dX14_layout_25 : decode cX14_layout 25 = .ok (.iload_n 1, 1) := by decide +kernel
theorem dX14_layout_26 : decode cX14_layout 26 = .ok (.bipush 44, 2) := by decide +kernel
theorem dX14_layout_28 : decode cX14_layout 28 = .ok (.if_icmp .ne 9, 3) := by decide +kernel
theorem dX14_layout_31 : decode cX14_layout 31 = .ok (.aload_n 0, 1) := by decide +kernel
theorem dX14_layout_32 : decode cX14_layout 32 = .ok (.iconst 1, 1) := by decide +kernel
theorem dX14_layout_33 : decode cX14_layout 33 = .ok (.invokevirtual 422, 3) := by decide +kernel
theorem dX14_layout_36 : decode cX14_layout 36 = .ok (.athrow, 1) := by decide +kernel
theorem dX14_layout_37 : decode cX14_layout 37 = .ok (.iload_n 1, 1) := by decide +kernel
theorem dX14_layout_38 : decode cX14_layout 38 = .ok (.bipush 43, 2) := by decide +kernel
theorem dX14_layout_40 : decode cX14_layout 40 = .ok (.if_icmp .ne 45, 3) := by decide +kernel
theorem dX14_layout_43 : decode cX14_layout 43 = .ok (.aload_n 0, 1) := by decide +kernel
theorem dX14_layout_44 : decode cX14_layout 44 = .ok (.getfield 432, 3) := by decide +kernel
theorem dX14_layout_47 : decode cX14_layout 47 = .ok (.ifCond .eq 10, 3) := by decide +kernel
theorem dX14_layout_50 : decode cX14_layout 50 = .ok (.aload_n 0, 1) := by decide +kernel
theorem dX14_layout_51 : decode cX14_layout 51 = .ok (.getfield 416, 3) := by decide +kernel
theorem dX14_layout_54 : decode cX14_layout 54 = .ok (.ifCond .gt 10, 3) := by decide +kernel
theorem dX14_layout_57 : decode cX14_layout 57 = .ok (.aload_n 0, 1) := by decide +kernel
theorem dX14_layout_58 : decode cX14_layout 58 = .ok (.getfield 419, 3) := by decide +kernel
theorem dX14_layout_61 : decode cX14_layout 61 = .ok (.ifCond .le 9, 3) := by decide +kernel
theorem dX14_layout_64 : decode cX14_layout 64 = .ok (.aload_n 0, 1) := by decide +kernel
theorem dX14_layout_65 : decode cX14_layout 65 = .ok (.iconst 2, 1) := by decide +kernel
theorem dX14_layout_66 : decode cX14_layout 66 = .ok (.invokevirtual 422, 3) := by decide +kernel
theorem dX14_layout_69 : decode cX14_layout 69 = .ok (.athrow, 1) := by decide +kernel
theorem dX14_layout_70 : decode cX14_layout 70 = .ok (.aload_n 0, 1) := by decide +kernel
theorem dX14_layout_71 : decode cX14_layout 71 = .ok (.getfield 416, 3) := by decide +kernel
theorem dX14_layout_74 : decode cX14_layout 74 = .ok (.ifCond .le 10, 3) := by decide +kernel
theorem dX14_layout_77 : decode cX14_layout 77 = .ok (.aload_n 0, 1) := by decide +kernel
theorem dX14_layout_78 : decode cX14_layout 78 = .ok (.invokevirtual 435, 3) := by decide +kernel
theorem dX14_layout_81 : decode cX14_layout 81 = .ok (.goto (-11), 3) := by decide +kernel
theorem dX14_layout_84 : decode cX14_layout 84 = .ok (.return_, 1) := by decide +kernel
theorem dX14_layout_85 : decode cX14_layout 85 = .ok (.aload_n 0, 1) := by decide +kernel
theorem dX14_layout_86 : decode cX14_layout 86 = .ok (.getfield 410, 3) := by decide +kernel
theorem dX14_layout_89 : decode cX14_layout 89 = .ok (.ifCond .eq 26, 3) := by decide +kernel
theorem dX14_layout_92 : decode cX14_layout 92 = .ok (.aload_n 0, 1) := by decide +kernel
theorem dX14_layout_93 : decode cX14_layout 93 = .ok (.getfield 101, 3) := by decide +kernel
theorem dX14_layout_96 : decode cX14_layout 96 = .ok (.aload_n 0, 1) := by decide +kernel
theorem dX14_layout_97 : decode cX14_layout 97 = .ok (.getfield 410, 3) := by decide +kernel
theorem dX14_layout_100 : decode cX14_layout 100 = .ok (.iconst 1, 1) := by decide +kernel
theorem dX14_layout_101 : decode cX14_layout 101 = .ok (.isub, 1) := by decide +kernel
theorem dX14_layout_102 : decode cX14_layout 102 = .ok (.iaload, 1) := by decide +kernel
theorem dX14_layout_103 : decode cX14_layout 103 = .ok (.aload_n 0, 1) := by decide +kernel
theorem dX14_layout_104 : decode cX14_layout 104 = .ok (.getfield 101, 3) := by decide +kernel
theorem dX14_layout_107 : decode cX14_layout 107 = .ok (.aload_n 0, 1) := by decide +kernel
theorem dX14_layout_108 : decode cX14_layout 108 = .ok (.getfield 410, 3) := by decide +kernel
theorem dX14_layout_111 : decode cX14_layout 111 = .ok (.iaload, 1) := by decide +kernel
theorem dX14_layout_112 : decode cX14_layout 112 = .ok (.if_icmp .ge 7, 3) := by decide +kernel
theorem dX14_layout_115 : decode cX14_layout 115 = .ok (.iconst 1, 1) := by decide +kernel
theorem dX14_layout_116 : decode cX14_layout 116 = .ok (.goto 4, 3) := by decide +kernel
theorem dX14_layout_119 : decode cX14_layout 119 = .ok (.iconst 0, 1) := by decide +kernel
theorem dX14_layout_120 : decode cX14_layout 120 = .ok (.istore_n 2, 1) := by decide +kernel
theorem dX14_layout_121 : decode cX14_layout 121 = .ok (.aload_n 0, 1) := by decide +kernel
theorem dX14_layout_122 : decode cX14_layout 122 = .ok (.getfield 432, 3) := by decide +kernel
theorem dX14_layout_125 : decode cX14_layout 125 = .ok (.ifCond .eq 91, 3) := by decide +kernel
theorem dX14_layout_128 : decode cX14_layout 128 = .ok (.aload_n 0, 1) := by decide +kernel
theorem dX14_layout_129 : decode cX14_layout 129 = .ok (.iconst 0, 1) := by decide +kernel
theorem dX14_layout_130 : decode cX14_layout 130 = .ok (.putfield 432, 3) := by decide +kernel
theorem dX14_layout_133 : decode cX14_layout 133 = .ok (.aload_n 0, 1) := by decide +kernel
theorem dX14_layout_134 : decode cX14_layout 134 = .ok (.aload_n 0, 1) := by decide +kernel
theorem dX14_layout_135 : decode cX14_layout 135 = .ok (.getfield 416, 3) := by decide +kernel
theorem dX14_layout_138 : decode cX14_layout 138 = .ok (.ifCond .le 30, 3) := by decide +kernel
theorem dX14_layout_141 : decode cX14_layout 141 = .ok (.aload_n 0, 1) := by decide +kernel
theorem dX14_layout_142 : decode cX14_layout 142 = .ok (.getfield 104, 3) := by decide +kernel
theorem dX14_layout_145 : decode cX14_layout 145 = .ok (.aload_n 0, 1) := by decide +kernel
theorem dX14_layout_146 : decode cX14_layout 146 = .ok (.getfield 410, 3) := by decide +kernel
theorem dX14_layout_149 : decode cX14_layout 149 = .ok (.iaload, 1) := by decide +kernel
theorem dX14_layout_150 : decode cX14_layout 150 = .ok (.aload_n 0, 1) := by decide +kernel
theorem dX14_layout_151 : decode cX14_layout 151 = .ok (.getfield 119, 3) := by decide +kernel
theorem dX14_layout_154 : decode cX14_layout 154 = .ok (.aload_n 0, 1) := by decide +kernel
theorem dX14_layout_155 : decode cX14_layout 155 = .ok (.getfield 416, 3) := by decide +kernel
theorem dX14_layout_158 : decode cX14_layout 158 = .ok (.iconst 1, 1) := by decide +kernel
theorem dX14_layout_159 : decode cX14_layout 159 = .ok (.isub, 1) := by decide +kernel
theorem dX14_layout_160 : decode cX14_layout 160 = .ok (.iaload, 1) := by decide +kernel
theorem dX14_layout_161 : decode cX14_layout 161 = .ok (.if_icmp .gt 7, 3) := by decide +kernel
theorem dX14_layout_164 : decode cX14_layout 164 = .ok (.iconst 1, 1) := by decide +kernel
theorem dX14_layout_165 : decode cX14_layout 165 = .ok (.goto 4, 3) := by decide +kernel
theorem dX14_layout_168 : decode cX14_layout 168 = .ok (.iconst 0, 1) := by decide +kernel
theorem dX14_layout_169 : decode cX14_layout 169 = .ok (.putfield 404, 3) := by decide +kernel
theorem dX14_layout_172 : decode cX14_layout 172 = .ok (.aload_n 0, 1) := by decide +kernel
theorem dX14_layout_173 : decode cX14_layout 173 = .ok (.getfield 119, 3) := by decide +kernel
theorem dX14_layout_176 : decode cX14_layout 176 = .ok (.aload_n 0, 1) := by decide +kernel
theorem dX14_layout_177 : decode cX14_layout 177 = .ok (.getfield 416, 3) := by decide +kernel
theorem dX14_layout_180 : decode cX14_layout 180 = .ok (.aload_n 0, 1) := by decide +kernel
theorem dX14_layout_181 : decode cX14_layout 181 = .ok (.getfield 104, 3) := by decide +kernel
theorem dX14_layout_184 : decode cX14_layout 184 = .ok (.aload_n 0, 1) := by decide +kernel
theorem dX14_layout_185 : decode cX14_layout 185 = .ok (.getfield 410, 3) := by decide +kernel
theorem dX14_layout_188 : decode cX14_layout 188 = .ok (.iaload, 1) := by decide +kernel
theorem dX14_layout_189 : decode cX14_layout 189 = .ok (.iastore, 1) := by decide +kernel
theorem dX14_layout_190 : decode cX14_layout 190 = .ok (.aload_n 0, 1) := by decide +kernel
theorem dX14_layout_191 : decode cX14_layout 191 = .ok (.getfield 122, 3) := by decide +kernel
theorem dX14_layout_194 : decode cX14_layout 194 = .ok (.aload_n 0, 1) := by decide +kernel
theorem dX14_layout_195 : decode cX14_layout 195 = .ok (.getfield 416, 3) := by decide +kernel
theorem dX14_layout_198 : decode cX14_layout 198 = .ok (.aload_n 0, 1) := by decide +kernel
theorem dX14_layout_199 : decode cX14_layout 199 = .ok (.getfield 419, 3) := by decide +kernel
theorem dX14_layout_202 : decode cX14_layout 202 = .ok (.iastore, 1) := by decide +kernel
theorem dX14_layout_203 : decode cX14_layout 203 = .ok (.aload_n 0, 1) := by decide +kernel
theorem dX14_layout_204 : decode cX14_layout 204 = .ok (.dup, 1) := by decide +kernel
theorem dX14_layout_205 : decode cX14_layout 205 = .ok (.getfield 416, 3) := by decide +kernel
theorem dX14_layout_208 : decode cX14_layout 208 = .ok (.iconst 1, 1) := by decide +kernel
theorem dX14_layout_209 : decode cX14_layout 209 = .ok (.iadd, 1) := by decide +kernel
theorem dX14_layout_210 : decode cX14_layout 210 = .ok (.putfield 416, 3) := by decide +kernel
theorem dX14_layout_213 : decode cX14_layout 213 = .ok (.goto 11, 3) := by decide +kernel
theorem dX14_layout_216 : decode cX14_layout 216 = .ok (.iload_n 2, 1) := by decide +kernel
theorem dX14_layout_217 : decode cX14_layout 217 = .ok (.ifCond .eq 7, 3) := by decide +kernel
theorem dX14_layout_220 : decode cX14_layout 220 = .ok (.aload_n 0, 1) := by decide +kernel
theorem dX14_layout_221 : decode cX14_layout 221 = .ok (.invokevirtual 438, 3) := by decide +kernel
theorem dX14_layout_224 : decode cX14_layout 224 = .ok (.aload_n 0, 1) := by decide +kernel
theorem dX14_layout_225 : decode cX14_layout 225 = .ok (.iload_n 1, 1) := by decide +kernel
theorem dX14_layout_226 : decode cX14_layout 226 = .ok (.invokevirtual 441, 3) := by decide +kernel
theorem dX14_layout_229 : decode cX14_layout 229 = .ok (.aload_n 0, 1) := by decide +kernel
theorem dX14_layout_230 : decode cX14_layout 230 = .ok (.iload_n 1, 1) := by decide +kernel
theorem dX14_layout_231 : decode cX14_layout 231 = .ok (.invokevirtual 444, 3) := by decide +kernel
theorem dX14_layout_234 : decode cX14_layout 234 = .ok (.return_, 1) := by decide +kernel
theorem dX14_tells_0 : decode cX14_tells 0 = .ok (.iload_n 2, 1) := by decide +kernel
theorem dX14_tells_1 : decode cX14_tells 1 = .ok (.aload_n 0, 1) := by decide +kernel
theorem dX14_tells_2 : decode cX14_tells 2 = .ok (.getfield 538, 3) := by decide +kernel
theorem dX14_tells_5 : decode cX14_tells 5 = .ok (.if_icmp .lt 19, 3) := by decide +kernel
theorem dX14_tells_8 : decode cX14_tells 8 = .ok (.iload_n 2, 1) := by decide +kernel
theorem dX14_tells_9 : decode cX14_tells 9 = .ok (.aload_n 0, 1) := by decide +kernel
theorem dX14_tells_10 : decode cX14_tells 10 = .ok (.getfield 538, 3) := by decide +kernel
theorem dX14_tells_13 : decode cX14_tells 13 = .ok (.if_icmp .ne 21, 3) := by decide +kernel
theorem dX14_tells_16 : decode cX14_tells 16 = .ok (.iload_n 1, 1) := by decide +kernel
theorem dX14_tells_17 : decode cX14_tells 17 = .ok (.aload_n 0, 1) := by decide +kernel
theorem dX14_tells_18 : decode cX14_tells 18 = .ok (.getfield 541, 3) := by decide +kernel
theorem dX14_tells_21 : decode cX14_tells 21 = .ok (.if_icmp .ge 13, 3) := by decide +kernel
theorem dX14_tells_24 : decode cX14_tells 24 = .ok (.aload_n 0, 1) := by decide +kernel
theorem dX14_tells_25 : decode cX14_tells 25 = .ok (.iload_n 2, 1) := by decide +kernel
theorem dX14_tells_26 : decode cX14_tells 26 = .ok (.putfield 538, 3) := by decide +kernel
theorem dX14_tells_29 : decode cX14_tells 29 = .ok (.aload_n 0, 1) := by decide +kernel
theorem dX14_tells_30 : decode cX14_tells 30 = .ok (.iload_n 1, 1) := by decide +kernel
theorem dX14_tells_31 : decode cX14_tells 31 = .ok (.putfield 541, 3) := by decide +kernel
theorem dX14_tells_34 : decode cX14_tells 34 = .ok (.return_, 1) := by decide +kernel
theorem dX14_limit_0 : decode cX14_limit 0 = .ok (.aload_n 0, 1) := by decide +kernel
theorem dX14_limit_1 : decode cX14_limit 1 = .ok (.aload_n 0, 1) := by decide +kernel
theorem dX14_limit_2 : decode cX14_limit 2 = .ok (.getfield 568, 3) := by decide +kernel
theorem dX14_limit_5 : decode cX14_limit 5 = .ok (.ifCond .ne 7, 3) := by decide +kernel
theorem dX14_limit_8 : decode cX14_limit 8 = .ok (.iload_n 1, 1) := by decide +kernel
theorem dX14_limit_9 : decode cX14_limit 9 = .ok (.ifCond .eq 7, 3) := by decide +kernel
theorem dX14_limit_12 : decode cX14_limit 12 = .ok (.iconst 1, 1) := by decide +kernel
theorem dX14_limit_13 : decode cX14_limit 13 = .ok (.goto 4, 3) := by decide +kernel
theorem dX14_limit_16 : decode cX14_limit 16 = .ok (.iconst 0, 1) := by decide +kernel
theorem dX14_limit_17 : decode cX14_limit 17 = .ok (.putfield 568, 3) := by decide +kernel
theorem dX14_limit_20 : decode cX14_limit 20 = .ok (.return_, 1) := by decide +kernel
def pw_c_X14_run : List Cond := .code yX14_run cX14_run 3 (some .int) :: ([.fieldLink RX14 329 "NeedHouseModel" "thrown" "I", .fieldLink RX14 847 "NeedHouseModel" "how" "I"] ++ (wsX140 ++ []))
set_option maxHeartbeats 4000000 in
set_option maxRecDepth 100000 in
theorem c_X14_run (l : Launch) (dC : Nat → ClassId) (dI : Nat → Nat → Nat) (sz : Nat) (h0 : Nat) (fs0 : List Value) (th : Int32) (p0 : Int32) (hF0 : hasF fs0 136 [(1, .int th), (112, .int 0)]) : Met l yX14_run pw_c_X14_run ({ frames := 0, cells := 0, slots := 0, locals := 0 }) (va_Pc [.ref h0, .int p0] (fun U => U.heap.size = sz ∧ va_P (dC, dI) vwCl [(h0, .inr (14, fs0))] U.heap ∧ va_K (dC, dI) vwCl [] U ∧ va_D (fun _ => True) [(h0, .inr (14, fs0))])) (va_Qi (fun (r : Int32) (u : (List Value) × (Int32)) => r = 0 ∧ hasF u.1 136 [(1, .int u.2)] ∧ sameF fs0 u.1 [1] ∧ u.2 = (if p0 < 0 ∨ ¬ p0 ≤ 2000 then 1 else 2)) (fun (u : (List Value) × (Int32)) (t : State) => va_P (dC, dI) vwCl [(h0, .inr (14, u.1))] t.heap ∧ va_K (dC, dI) vwCl [] t ∧ va_D (va_A [(h0, .inr (14, fs0))] sz) [(h0, .inr (14, u.1))]) (va_A [(h0, .inr (14, fs0))] sz)) 0 0 (va_A [(h0, .inr (14, fs0))] sz) := by
  refine Met.ofW (cc := cX14_run) (maxL := 3) (ret := (some .int)) (by decide) rfl ?_
  intro p e s m args below meth c s₁ B hml hv
  obtain ⟨rfl, hsz, hP, hK, hD0⟩ := hv
  have hx := B.exec
  have hb := B.bytes
  have hr := B.returns
  have hts := atoms_spec (ws := pw_c_X14_run) B.pre
  have hown : s.vm.findClass RX14 = some m.cls := findClass_of_methodNamed B.named
  have hlocks := B.notSynchronized
  have hin_X14 : ∀ w ∈ u_ws RX14 TX14 136, w ∈ pw_c_X14_run := fun w h => List.mem_cons_of_mem _ (List.mem_append_right _ (List.mem_append_left _ h))
  subst hsz
  have hD := hD0.self (sz := s.heap.size)
  generalize hAe : va_A [(h0, .inr (14, fs0))] s.heap.size = A at hD ⊢
  have hA : ∀ q : Nat, s.heap.size ≤ q → A q := fun q h => by rw [← hAe]; exact Or.inr h
  have hS : va_S A s.heap s.heap [] := va_S.rf
  have hP : va_P (dC, dI) vwCl [(h0, .inr (14, fs0))] s.heap := hP
  have hl := lv_entry ([.ref h0, .int p0]) (n := 3) (Nat.le_of_ble_eq_true rfl)
  rw [lg_entry_eq]
  generalize (lg_sl ([.ref h0, .int p0]) ++ List.replicate (3 - (lg_sl ([.ref h0, .int p0])).length) Slot.unset).toArray = ls at hl ⊢
  have hl : lv_has ls 3 [(0, .ref h0), (1, .int p0)] := hl
  refine lv_aload_n hx hb dX14_run_0 rfl (lv_at hl 0 rfl) ?_
  refine lv_iload_n hx hb dX14_run_1 rfl (lv_at hl 1 rfl) ?_
  refine lv_if_lt (tgt := 12) hx hb dX14_run_2 (by decide) (fun c_1 => ?_) (fun c_1 => ?_)
  ·
    refine lv_iconst (v := 1) hx hb dX14_run_12 (by decide) ?_
    refine lv_goto (tgt := 29) hx hb dX14_run_13 (by decide) ?_
    refine va_put (D := (dC, dI)) (ci := 14) (v := .int 1) (ty := .int) (C := RX14) (T := TX14) (N := 136) hx hb hts hin_X14 tyX14 tyX14_ok nmX14 hown hK hP hD hS 0 rfl rfl 1 (by decide) (hts (.fieldLink RX14 329 "NeedHouseModel" "thrown" "I") (List.mem_of_getElem? (i := 1) rfl)) (fun _ h9 => h9) rfl (by decide +kernel) rfl rfl (by rw [hF0.1]; decide) dX14_run_29 (fun H locs hP hD hS => ?_)
    have hP : va_P (dC, dI) vwCl [(h0, .inr (14, (fs0.set 1 (.int 1))))] H := hP
    have hD : va_D A [(h0, .inr (14, (fs0.set 1 (.int 1))))] := hD
    have hF_2 := hF0.set 1 (.int 1) (l' := [(1, .int 1), (112, .int 0)]) (by decide) rfl
    have hE_3 := (sameF.rf (f := fs0)).set 1 (.int 1)
    generalize fs0.set 1 (.int 1) = fs_4 at hP hD hF_2 hE_3
    have hP : va_P (dC, dI) vwCl [(h0, .inr (14, fs_4))] H := hP
    have hD : va_D A [(h0, .inr (14, fs_4))] := hD
    refine lv_aload_n hx hb dX14_run_32 rfl (lv_at hl 0 rfl) ?_
    refine va_get (D := (dC, dI)) (ci := 14) (v := .int 1) (C := RX14) (T := TX14) (N := 136) hx hb hts hin_X14 hown hK hP 0 rfl rfl 1 (by decide) (hts (.fieldLink RX14 329 "NeedHouseModel" "thrown" "I") (List.mem_of_getElem? (i := 1) rfl)) (fun _ h9 => h9) (hF_2.at 0 rfl) dX14_run_33 ?_
    refine lv_if_eq (tgt := 41) hx hb dX14_run_36 (by decide) (fun c_5 => absurd c_5 (by decide)) (fun _ => ?_)
    refine lv_iconst (v := 0) hx hb dX14_run_39 (by decide) ?_
    have hP9 := hP.sub (ws' := [(h0, .inr (14, fs_4))]) [0] rfl
    have hD9 := hD.sub (ws' := [(h0, .inr (14, fs_4))]) [0] (by decide) rfl
    have hK9 := hK.sub (tys' := []) [] rfl
    exact W.iret (v := 0) hx hb hr (fun t ht hW => ⟨⟨0, ((fs_4, 1)), rfl, ⟨rfl, hF_2.sub [0] rfl, hE_3.mono (by decide), (if_pos (Or.inl c_1)).symm⟩, by rw [ht]; exact hP9, va_K.moved hW.alike hK9, hD9⟩, hS.F ht⟩) hS.2.2 dX14_run_40
  ·
    refine lv_iload_n hx hb dX14_run_5 rfl (lv_at hl 1 rfl) ?_
    refine lv_sipush (v := 2000) hx hb dX14_run_6 (by decide) ?_
    refine lv_icmp_le (tgt := 16) hx hb dX14_run_9 (by decide) (fun c_6 => ?_) (fun c_6 => ?_)
    ·
      refine lv_aload_n hx hb dX14_run_16 rfl (lv_at hl 0 rfl) ?_
      refine va_get (D := (dC, dI)) (ci := 14) (v := .int 0) (C := RX14) (T := TX14) (N := 136) hx hb hts hin_X14 hown hK hP 0 rfl rfl 112 (by decide) (hts (.fieldLink RX14 847 "NeedHouseModel" "how" "I") (List.mem_of_getElem? (i := 2) rfl)) (fun _ h9 => h9) (hF0.at 1 rfl) dX14_run_17 ?_
      refine lv_iconst (v := 1) hx hb dX14_run_20 (by decide) ?_
      refine lv_icmp_eq (tgt := 28) hx hb dX14_run_21 (by decide) (fun c_7 => absurd c_7 (by decide)) (fun _ => ?_)
      refine lv_iconst (v := 2) hx hb dX14_run_24 (by decide) ?_
      refine lv_goto (tgt := 29) hx hb dX14_run_25 (by decide) ?_
      refine va_put (D := (dC, dI)) (ci := 14) (v := .int 2) (ty := .int) (C := RX14) (T := TX14) (N := 136) hx hb hts hin_X14 tyX14 tyX14_ok nmX14 hown hK hP hD hS 0 rfl rfl 1 (by decide) (hts (.fieldLink RX14 329 "NeedHouseModel" "thrown" "I") (List.mem_of_getElem? (i := 1) rfl)) (fun _ h9 => h9) rfl (by decide +kernel) rfl rfl (by rw [hF0.1]; decide) dX14_run_29 (fun H locs hP hD hS => ?_)
      have hP : va_P (dC, dI) vwCl [(h0, .inr (14, (fs0.set 1 (.int 2))))] H := hP
      have hD : va_D A [(h0, .inr (14, (fs0.set 1 (.int 2))))] := hD
      have hF_8 := hF0.set 1 (.int 2) (l' := [(1, .int 2), (112, .int 0)]) (by decide) rfl
      have hE_9 := (sameF.rf (f := fs0)).set 1 (.int 2)
      generalize fs0.set 1 (.int 2) = fs_10 at hP hD hF_8 hE_9
      have hP : va_P (dC, dI) vwCl [(h0, .inr (14, fs_10))] H := hP
      have hD : va_D A [(h0, .inr (14, fs_10))] := hD
      refine lv_aload_n hx hb dX14_run_32 rfl (lv_at hl 0 rfl) ?_
      refine va_get (D := (dC, dI)) (ci := 14) (v := .int 2) (C := RX14) (T := TX14) (N := 136) hx hb hts hin_X14 hown hK hP 0 rfl rfl 1 (by decide) (hts (.fieldLink RX14 329 "NeedHouseModel" "thrown" "I") (List.mem_of_getElem? (i := 1) rfl)) (fun _ h9 => h9) (hF_8.at 0 rfl) dX14_run_33 ?_
      refine lv_if_eq (tgt := 41) hx hb dX14_run_36 (by decide) (fun c_11 => absurd c_11 (by decide)) (fun _ => ?_)
      refine lv_iconst (v := 0) hx hb dX14_run_39 (by decide) ?_
      have hP9 := hP.sub (ws' := [(h0, .inr (14, fs_10))]) [0] rfl
      have hD9 := hD.sub (ws' := [(h0, .inr (14, fs_10))]) [0] (by decide) rfl
      have hK9 := hK.sub (tys' := []) [] rfl
      exact W.iret (v := 0) hx hb hr (fun t ht hW => ⟨⟨0, ((fs_10, 2)), rfl, ⟨rfl, hF_8.sub [0] rfl, hE_9.mono (by decide), (if_neg (fun z => z.elim c_1 (fun k => k c_6))).symm⟩, by rw [ht]; exact hP9, va_K.moved hW.alike hK9, hD9⟩, hS.F ht⟩) hS.2.2 dX14_run_40
    ·
      refine lv_iconst (v := 1) hx hb dX14_run_12 (by decide) ?_
      refine lv_goto (tgt := 29) hx hb dX14_run_13 (by decide) ?_
      refine va_put (D := (dC, dI)) (ci := 14) (v := .int 1) (ty := .int) (C := RX14) (T := TX14) (N := 136) hx hb hts hin_X14 tyX14 tyX14_ok nmX14 hown hK hP hD hS 0 rfl rfl 1 (by decide) (hts (.fieldLink RX14 329 "NeedHouseModel" "thrown" "I") (List.mem_of_getElem? (i := 1) rfl)) (fun _ h9 => h9) rfl (by decide +kernel) rfl rfl (by rw [hF0.1]; decide) dX14_run_29 (fun H locs hP hD hS => ?_)
      have hP : va_P (dC, dI) vwCl [(h0, .inr (14, (fs0.set 1 (.int 1))))] H := hP
      have hD : va_D A [(h0, .inr (14, (fs0.set 1 (.int 1))))] := hD
      have hF_12 := hF0.set 1 (.int 1) (l' := [(1, .int 1), (112, .int 0)]) (by decide) rfl
      have hE_13 := (sameF.rf (f := fs0)).set 1 (.int 1)
      generalize fs0.set 1 (.int 1) = fs_14 at hP hD hF_12 hE_13
      have hP : va_P (dC, dI) vwCl [(h0, .inr (14, fs_14))] H := hP
      have hD : va_D A [(h0, .inr (14, fs_14))] := hD
      refine lv_aload_n hx hb dX14_run_32 rfl (lv_at hl 0 rfl) ?_
      refine va_get (D := (dC, dI)) (ci := 14) (v := .int 1) (C := RX14) (T := TX14) (N := 136) hx hb hts hin_X14 hown hK hP 0 rfl rfl 1 (by decide) (hts (.fieldLink RX14 329 "NeedHouseModel" "thrown" "I") (List.mem_of_getElem? (i := 1) rfl)) (fun _ h9 => h9) (hF_12.at 0 rfl) dX14_run_33 ?_
      refine lv_if_eq (tgt := 41) hx hb dX14_run_36 (by decide) (fun c_15 => absurd c_15 (by decide)) (fun _ => ?_)
      refine lv_iconst (v := 0) hx hb dX14_run_39 (by decide) ?_
      have hP9 := hP.sub (ws' := [(h0, .inr (14, fs_14))]) [0] rfl
      have hD9 := hD.sub (ws' := [(h0, .inr (14, fs_14))]) [0] (by decide) rfl
      have hK9 := hK.sub (tys' := []) [] rfl
      exact W.iret (v := 0) hx hb hr (fun t ht hW => ⟨⟨0, ((fs_14, 1)), rfl, ⟨rfl, hF_12.sub [0] rfl, hE_13.mono (by decide), (if_pos (Or.inr c_6)).symm⟩, by rw [ht]; exact hP9, va_K.moved hW.alike hK9, hD9⟩, hS.F ht⟩) hS.2.2 dX14_run_40
def pw_c_X14_byteAt : List Cond := .code yX14_byteAt cX14_byteAt 2 (some .int) :: ([.fieldLink RX14 333 "NeedHouseModel" "taped" "I"] ++ (wsX140 ++ []))
set_option maxHeartbeats 4000000 in
set_option maxRecDepth 100000 in
theorem c_X14_byteAt (l : Launch) (dC : Nat → ClassId) (dI : Nat → Nat → Nat) (sz : Nat) (h0 : Nat) (fs0 : List Value) (hF0 : hasF fs0 136 [(3, .int 0)]) : Met l yX14_byteAt pw_c_X14_byteAt ({ frames := 0, cells := 0, slots := 0, locals := 0 }) (va_Pc [.ref h0, .int 0] (fun U => U.heap.size = sz ∧ va_P (dC, dI) vwCl [(h0, .inr (14, fs0))] U.heap ∧ va_K (dC, dI) vwCl [] U ∧ va_D (fun _ => True) [(h0, .inr (14, fs0))])) (va_Qi (fun (r : Int32) (u : Unit) => r = -1) (fun (u : Unit) (t : State) => va_P (dC, dI) vwCl [(h0, .inr (14, fs0))] t.heap ∧ va_K (dC, dI) vwCl [] t ∧ va_D (va_A [(h0, .inr (14, fs0))] sz) [(h0, .inr (14, fs0))]) (va_A [(h0, .inr (14, fs0))] sz)) 0 0 (va_A [(h0, .inr (14, fs0))] sz) := by
  refine Met.ofW (cc := cX14_byteAt) (maxL := 2) (ret := (some .int)) (by decide) rfl ?_
  intro p e s m args below meth c s₁ B hml hv
  obtain ⟨rfl, hsz, hP, hK, hD0⟩ := hv
  have hx := B.exec
  have hb := B.bytes
  have hr := B.returns
  have hts := atoms_spec (ws := pw_c_X14_byteAt) B.pre
  have hown : s.vm.findClass RX14 = some m.cls := findClass_of_methodNamed B.named
  have hlocks := B.notSynchronized
  have hin_X14 : ∀ w ∈ u_ws RX14 TX14 136, w ∈ pw_c_X14_byteAt := fun w h => List.mem_cons_of_mem _ (List.mem_append_right _ (List.mem_append_left _ h))
  subst hsz
  have hD := hD0.self (sz := s.heap.size)
  generalize hAe : va_A [(h0, .inr (14, fs0))] s.heap.size = A at hD ⊢
  have hA : ∀ q : Nat, s.heap.size ≤ q → A q := fun q h => by rw [← hAe]; exact Or.inr h
  have hS : va_S A s.heap s.heap [] := va_S.rf
  have hP : va_P (dC, dI) vwCl [(h0, .inr (14, fs0))] s.heap := hP
  have hl := lv_entry ([.ref h0, .int 0]) (n := 2) (Nat.le_of_ble_eq_true rfl)
  rw [lg_entry_eq]
  generalize (lg_sl ([.ref h0, .int 0]) ++ List.replicate (2 - (lg_sl ([.ref h0, .int 0])).length) Slot.unset).toArray = ls at hl ⊢
  have hl : lv_has ls 2 [(0, .ref h0), (1, .int 0)] := hl
  refine lv_iload_n hx hb dX14_byteAt_0 rfl (lv_at hl 1 rfl) ?_
  refine lv_aload_n hx hb dX14_byteAt_1 rfl (lv_at hl 0 rfl) ?_
  refine va_get (D := (dC, dI)) (ci := 14) (v := .int 0) (C := RX14) (T := TX14) (N := 136) hx hb hts hin_X14 hown hK hP 0 rfl rfl 3 (by decide) (hts (.fieldLink RX14 333 "NeedHouseModel" "taped" "I") (List.mem_of_getElem? (i := 1) rfl)) (fun _ h9 => h9) (hF0.at 0 rfl) dX14_byteAt_2 ?_
  refine lv_icmp_ge (tgt := 17) hx hb dX14_byteAt_5 (by decide) (fun _ => ?_) (fun c_1 => absurd (by decide) c_1)
  refine lv_iconst (v := (-1)) hx hb dX14_byteAt_17 (by decide) ?_
  have hP9 := hP.sub (ws' := [(h0, .inr (14, fs0))]) [0] rfl
  have hD9 := hD.sub (ws' := [(h0, .inr (14, fs0))]) [0] (by decide) rfl
  have hK9 := hK.sub (tys' := []) [] rfl
  exact W.iret (v := (-1)) hx hb hr (fun t ht hW => ⟨⟨(-1), (()), rfl, rfl, by rw [ht]; exact hP9, va_K.moved hW.alike hK9, hD9⟩, hS.F ht⟩) hS.2.2 dX14_byteAt_18
def pw_c_X14_token : List Cond := .code yX14_token cX14_token 5 none :: ([.fieldLink RX14 95 "NeedHouseModel" "tSort" "[I", .fieldLink RX14 369 "NeedHouseModel" "tokens" "I", .fieldLink RX14 98 "NeedHouseModel" "tValue" "[I", .fieldLink RX14 101 "NeedHouseModel" "tLine" "[I", .fieldLink RX14 104 "NeedHouseModel" "tColumn" "[I"] ++ (wsX140 ++ []))
set_option maxHeartbeats 4000000 in
set_option maxRecDepth 100000 in
theorem c_X14_token (l : Launch) (dC : Nat → ClassId) (dI : Nat → Nat → Nat) (sz : Nat) (cI : ClassId) (h0 : Nat) (fs0 : List Value) (q1 : Nat) (f1 : Nat → Int32) (q2 : Nat) (f2 : Nat → Int32) (q3 : Nat) (f3 : Nat → Int32) (q4 : Nat) (f4 : Nat → Int32) (hF0 : hasF fs0 136 [(10, .int 0), (6, .ref q1), (7, .ref q2), (8, .ref q3), (9, .ref q4)]) : Met l yX14_token pw_c_X14_token ({ frames := 0, cells := 0, slots := 0, locals := 0 }) (va_Pc [.ref h0, .int 43, .int 0, .int 1, .int 0] (fun U => U.heap.size = sz ∧ va_P (dC, dI) vwCl [(h0, .inr (14, fs0)), (q1, .inl (cI, 4001, .inl f1)), (q2, .inl (cI, 4001, .inl f2)), (q3, .inl (cI, 4001, .inl f3)), (q4, .inl (cI, 4001, .inl f4))] U.heap ∧ va_K (dC, dI) vwCl [(cI, .int)] U ∧ va_D (fun _ => True) [(h0, .inr (14, fs0)), (q1, .inl (cI, 4001, .inl f1)), (q2, .inl (cI, 4001, .inl f2)), (q3, .inl (cI, 4001, .inl f3)), (q4, .inl (cI, 4001, .inl f4))])) (va_Qv (fun (u : (List Value) × (Nat → Int32) × (Nat → Int32) × (Nat → Int32) × (Nat → Int32)) => hasF u.1 136 [(10, .int 1)] ∧ sameF fs0 u.1 [10] ∧ u.2.1 0 = 43 ∧ u.2.2.2.1 0 = 1) (fun (u : (List Value) × (Nat → Int32) × (Nat → Int32) × (Nat → Int32) × (Nat → Int32)) (t : State) => va_P (dC, dI) vwCl [(h0, .inr (14, u.1)), (q1, .inl (cI, 4001, .inl u.2.1)), (q2, .inl (cI, 4001, .inl u.2.2.1)), (q3, .inl (cI, 4001, .inl u.2.2.2.1)), (q4, .inl (cI, 4001, .inl u.2.2.2.2))] t.heap ∧ va_K (dC, dI) vwCl [(cI, .int)] t ∧ va_D (va_A [(h0, .inr (14, fs0)), (q1, .inl (cI, 4001, .inl f1)), (q2, .inl (cI, 4001, .inl f2)), (q3, .inl (cI, 4001, .inl f3)), (q4, .inl (cI, 4001, .inl f4))] sz) [(h0, .inr (14, u.1)), (q1, .inl (cI, 4001, .inl u.2.1)), (q2, .inl (cI, 4001, .inl u.2.2.1)), (q3, .inl (cI, 4001, .inl u.2.2.2.1)), (q4, .inl (cI, 4001, .inl u.2.2.2.2))]) (va_A [(h0, .inr (14, fs0)), (q1, .inl (cI, 4001, .inl f1)), (q2, .inl (cI, 4001, .inl f2)), (q3, .inl (cI, 4001, .inl f3)), (q4, .inl (cI, 4001, .inl f4))] sz)) 0 0 (va_A [(h0, .inr (14, fs0)), (q1, .inl (cI, 4001, .inl f1)), (q2, .inl (cI, 4001, .inl f2)), (q3, .inl (cI, 4001, .inl f3)), (q4, .inl (cI, 4001, .inl f4))] sz) := by
  refine Met.ofW (cc := cX14_token) (maxL := 5) (ret := none) (by decide) rfl ?_
  intro p e s m args below meth c s₁ B hml hv
  obtain ⟨rfl, hsz, hP, hK, hD0⟩ := hv
  have hx := B.exec
  have hb := B.bytes
  have hr := B.returns
  have hts := atoms_spec (ws := pw_c_X14_token) B.pre
  have hown : s.vm.findClass RX14 = some m.cls := findClass_of_methodNamed B.named
  have hlocks := B.notSynchronized
  have hin_X14 : ∀ w ∈ u_ws RX14 TX14 136, w ∈ pw_c_X14_token := fun w h => List.mem_cons_of_mem _ (List.mem_append_right _ (List.mem_append_left _ h))
  subst hsz
  have hD := hD0.self (sz := s.heap.size)
  generalize hAe : va_A [(h0, .inr (14, fs0)), (q1, .inl (cI, 4001, .inl f1)), (q2, .inl (cI, 4001, .inl f2)), (q3, .inl (cI, 4001, .inl f3)), (q4, .inl (cI, 4001, .inl f4))] s.heap.size = A at hD ⊢
  have hA : ∀ q : Nat, s.heap.size ≤ q → A q := fun q h => by rw [← hAe]; exact Or.inr h
  have hS : va_S A s.heap s.heap [] := va_S.rf
  have hP : va_P (dC, dI) vwCl [(h0, .inr (14, fs0)), (q1, .inl (cI, 4001, .inl f1)), (q2, .inl (cI, 4001, .inl f2)), (q3, .inl (cI, 4001, .inl f3)), (q4, .inl (cI, 4001, .inl f4))] s.heap := hP
  have hl := lv_entry ([.ref h0, .int 43, .int 0, .int 1, .int 0]) (n := 5) (Nat.le_of_ble_eq_true rfl)
  rw [lg_entry_eq]
  generalize (lg_sl ([.ref h0, .int 43, .int 0, .int 1, .int 0]) ++ List.replicate (5 - (lg_sl ([.ref h0, .int 43, .int 0, .int 1, .int 0])).length) Slot.unset).toArray = ls at hl ⊢
  have hl : lv_has ls 5 [(0, .ref h0), (1, .int 43), (2, .int 0), (3, .int 1), (4, .int 0)] := hl
  refine lv_aload_n hx hb dX14_token_0 rfl (lv_at hl 0 rfl) ?_
  refine va_get (D := (dC, dI)) (ci := 14) (v := .ref q1) (C := RX14) (T := TX14) (N := 136) hx hb hts hin_X14 hown hK hP 0 rfl rfl 6 (by decide) (hts (.fieldLink RX14 95 "NeedHouseModel" "tSort" "[I") (List.mem_of_getElem? (i := 1) rfl)) (fun _ h9 => h9) (hF0.at 1 rfl) dX14_token_1 ?_
  refine lv_aload_n hx hb dX14_token_4 rfl (lv_at hl 0 rfl) ?_
  refine va_get (D := (dC, dI)) (ci := 14) (v := .int 0) (C := RX14) (T := TX14) (N := 136) hx hb hts hin_X14 hown hK hP 0 rfl rfl 10 (by decide) (hts (.fieldLink RX14 369 "NeedHouseModel" "tokens" "I") (List.mem_of_getElem? (i := 2) rfl)) (fun _ h9 => h9) (hF0.at 0 rfl) dX14_token_5 ?_
  refine lv_iload_n hx hb dX14_token_8 rfl (lv_at hl 1 rfl) ?_
  refine va_iast hx hb hK hP hD hS 1 0 rfl rfl (show vp_in (nI 0) 4001 from vp_in_nI (by decide) (by decide)) dX14_token_9 (fun H locs hP hD hS => ?_)
  have hP : va_P (dC, dI) vwCl [(h0, .inr (14, fs0)), (q1, .inl (cI, 4001, .inl (upd f1 (0 : Int32).toNatClampNeg 43))), (q2, .inl (cI, 4001, .inl f2)), (q3, .inl (cI, 4001, .inl f3)), (q4, .inl (cI, 4001, .inl f4))] H := hP
  have hD : va_D A [(h0, .inr (14, fs0)), (q1, .inl (cI, 4001, .inl (upd f1 (0 : Int32).toNatClampNeg 43))), (q2, .inl (cI, 4001, .inl f2)), (q3, .inl (cI, 4001, .inl f3)), (q4, .inl (cI, 4001, .inl f4))] := hD
  have hk_2 : (upd f1 (0 : Int32).toNatClampNeg 43) 0 = 43 := by rw [show (0 : Int32).toNatClampNeg = 0 from by decide]; exact pk_us
  generalize upd f1 (0 : Int32).toNatClampNeg 43 = f_1 at hP hD hk_2
  have hP : va_P (dC, dI) vwCl [(h0, .inr (14, fs0)), (q1, .inl (cI, 4001, .inl f_1)), (q2, .inl (cI, 4001, .inl f2)), (q3, .inl (cI, 4001, .inl f3)), (q4, .inl (cI, 4001, .inl f4))] H := hP
  have hD : va_D A [(h0, .inr (14, fs0)), (q1, .inl (cI, 4001, .inl f_1)), (q2, .inl (cI, 4001, .inl f2)), (q3, .inl (cI, 4001, .inl f3)), (q4, .inl (cI, 4001, .inl f4))] := hD
  refine lv_aload_n hx hb dX14_token_10 rfl (lv_at hl 0 rfl) ?_
  refine va_get (D := (dC, dI)) (ci := 14) (v := .ref q2) (C := RX14) (T := TX14) (N := 136) hx hb hts hin_X14 hown hK hP 0 rfl rfl 7 (by decide) (hts (.fieldLink RX14 98 "NeedHouseModel" "tValue" "[I") (List.mem_of_getElem? (i := 3) rfl)) (fun _ h9 => h9) (hF0.at 2 rfl) dX14_token_11 ?_
  refine lv_aload_n hx hb dX14_token_14 rfl (lv_at hl 0 rfl) ?_
  refine va_get (D := (dC, dI)) (ci := 14) (v := .int 0) (C := RX14) (T := TX14) (N := 136) hx hb hts hin_X14 hown hK hP 0 rfl rfl 10 (by decide) (hts (.fieldLink RX14 369 "NeedHouseModel" "tokens" "I") (List.mem_of_getElem? (i := 2) rfl)) (fun _ h9 => h9) (hF0.at 0 rfl) dX14_token_15 ?_
  refine lv_iload_n hx hb dX14_token_18 rfl (lv_at hl 2 rfl) ?_
  refine va_iast hx hb hK hP hD hS 2 0 rfl rfl (show vp_in (nI 0) 4001 from vp_in_nI (by decide) (by decide)) dX14_token_19 (fun H locs hP hD hS => ?_)
  have hP : va_P (dC, dI) vwCl [(h0, .inr (14, fs0)), (q1, .inl (cI, 4001, .inl f_1)), (q2, .inl (cI, 4001, .inl (upd f2 (0 : Int32).toNatClampNeg 0))), (q3, .inl (cI, 4001, .inl f3)), (q4, .inl (cI, 4001, .inl f4))] H := hP
  have hD : va_D A [(h0, .inr (14, fs0)), (q1, .inl (cI, 4001, .inl f_1)), (q2, .inl (cI, 4001, .inl (upd f2 (0 : Int32).toNatClampNeg 0))), (q3, .inl (cI, 4001, .inl f3)), (q4, .inl (cI, 4001, .inl f4))] := hD
  have hk_4 : (upd f2 (0 : Int32).toNatClampNeg 0) 0 = 0 := by rw [show (0 : Int32).toNatClampNeg = 0 from by decide]; exact pk_us
  generalize upd f2 (0 : Int32).toNatClampNeg 0 = f_3 at hP hD hk_4
  have hP : va_P (dC, dI) vwCl [(h0, .inr (14, fs0)), (q1, .inl (cI, 4001, .inl f_1)), (q2, .inl (cI, 4001, .inl f_3)), (q3, .inl (cI, 4001, .inl f3)), (q4, .inl (cI, 4001, .inl f4))] H := hP
  have hD : va_D A [(h0, .inr (14, fs0)), (q1, .inl (cI, 4001, .inl f_1)), (q2, .inl (cI, 4001, .inl f_3)), (q3, .inl (cI, 4001, .inl f3)), (q4, .inl (cI, 4001, .inl f4))] := hD
  refine lv_aload_n hx hb dX14_token_20 rfl (lv_at hl 0 rfl) ?_
  refine va_get (D := (dC, dI)) (ci := 14) (v := .ref q3) (C := RX14) (T := TX14) (N := 136) hx hb hts hin_X14 hown hK hP 0 rfl rfl 8 (by decide) (hts (.fieldLink RX14 101 "NeedHouseModel" "tLine" "[I") (List.mem_of_getElem? (i := 4) rfl)) (fun _ h9 => h9) (hF0.at 3 rfl) dX14_token_21 ?_
  refine lv_aload_n hx hb dX14_token_24 rfl (lv_at hl 0 rfl) ?_
  refine va_get (D := (dC, dI)) (ci := 14) (v := .int 0) (C := RX14) (T := TX14) (N := 136) hx hb hts hin_X14 hown hK hP 0 rfl rfl 10 (by decide) (hts (.fieldLink RX14 369 "NeedHouseModel" "tokens" "I") (List.mem_of_getElem? (i := 2) rfl)) (fun _ h9 => h9) (hF0.at 0 rfl) dX14_token_25 ?_
  refine lv_iload_n hx hb dX14_token_28 rfl (lv_at hl 3 rfl) ?_
  refine va_iast hx hb hK hP hD hS 3 0 rfl rfl (show vp_in (nI 0) 4001 from vp_in_nI (by decide) (by decide)) dX14_token_29 (fun H locs hP hD hS => ?_)
  have hP : va_P (dC, dI) vwCl [(h0, .inr (14, fs0)), (q1, .inl (cI, 4001, .inl f_1)), (q2, .inl (cI, 4001, .inl f_3)), (q3, .inl (cI, 4001, .inl (upd f3 (0 : Int32).toNatClampNeg 1))), (q4, .inl (cI, 4001, .inl f4))] H := hP
  have hD : va_D A [(h0, .inr (14, fs0)), (q1, .inl (cI, 4001, .inl f_1)), (q2, .inl (cI, 4001, .inl f_3)), (q3, .inl (cI, 4001, .inl (upd f3 (0 : Int32).toNatClampNeg 1))), (q4, .inl (cI, 4001, .inl f4))] := hD
  have hk_6 : (upd f3 (0 : Int32).toNatClampNeg 1) 0 = 1 := by rw [show (0 : Int32).toNatClampNeg = 0 from by decide]; exact pk_us
  generalize upd f3 (0 : Int32).toNatClampNeg 1 = f_5 at hP hD hk_6
  have hP : va_P (dC, dI) vwCl [(h0, .inr (14, fs0)), (q1, .inl (cI, 4001, .inl f_1)), (q2, .inl (cI, 4001, .inl f_3)), (q3, .inl (cI, 4001, .inl f_5)), (q4, .inl (cI, 4001, .inl f4))] H := hP
  have hD : va_D A [(h0, .inr (14, fs0)), (q1, .inl (cI, 4001, .inl f_1)), (q2, .inl (cI, 4001, .inl f_3)), (q3, .inl (cI, 4001, .inl f_5)), (q4, .inl (cI, 4001, .inl f4))] := hD
  refine lv_aload_n hx hb dX14_token_30 rfl (lv_at hl 0 rfl) ?_
  refine va_get (D := (dC, dI)) (ci := 14) (v := .ref q4) (C := RX14) (T := TX14) (N := 136) hx hb hts hin_X14 hown hK hP 0 rfl rfl 9 (by decide) (hts (.fieldLink RX14 104 "NeedHouseModel" "tColumn" "[I") (List.mem_of_getElem? (i := 5) rfl)) (fun _ h9 => h9) (hF0.at 4 rfl) dX14_token_31 ?_
  refine lv_aload_n hx hb dX14_token_34 rfl (lv_at hl 0 rfl) ?_
  refine va_get (D := (dC, dI)) (ci := 14) (v := .int 0) (C := RX14) (T := TX14) (N := 136) hx hb hts hin_X14 hown hK hP 0 rfl rfl 10 (by decide) (hts (.fieldLink RX14 369 "NeedHouseModel" "tokens" "I") (List.mem_of_getElem? (i := 2) rfl)) (fun _ h9 => h9) (hF0.at 0 rfl) dX14_token_35 ?_
  refine lv_iload hx hb dX14_token_38 (lv_at hl 4 rfl) ?_
  refine va_iast hx hb hK hP hD hS 4 0 rfl rfl (show vp_in (nI 0) 4001 from vp_in_nI (by decide) (by decide)) dX14_token_40 (fun H locs hP hD hS => ?_)
  have hP : va_P (dC, dI) vwCl [(h0, .inr (14, fs0)), (q1, .inl (cI, 4001, .inl f_1)), (q2, .inl (cI, 4001, .inl f_3)), (q3, .inl (cI, 4001, .inl f_5)), (q4, .inl (cI, 4001, .inl (upd f4 (0 : Int32).toNatClampNeg 0)))] H := hP
  have hD : va_D A [(h0, .inr (14, fs0)), (q1, .inl (cI, 4001, .inl f_1)), (q2, .inl (cI, 4001, .inl f_3)), (q3, .inl (cI, 4001, .inl f_5)), (q4, .inl (cI, 4001, .inl (upd f4 (0 : Int32).toNatClampNeg 0)))] := hD
  have hk_8 : (upd f4 (0 : Int32).toNatClampNeg 0) 0 = 0 := by rw [show (0 : Int32).toNatClampNeg = 0 from by decide]; exact pk_us
  generalize upd f4 (0 : Int32).toNatClampNeg 0 = f_7 at hP hD hk_8
  have hP : va_P (dC, dI) vwCl [(h0, .inr (14, fs0)), (q1, .inl (cI, 4001, .inl f_1)), (q2, .inl (cI, 4001, .inl f_3)), (q3, .inl (cI, 4001, .inl f_5)), (q4, .inl (cI, 4001, .inl f_7))] H := hP
  have hD : va_D A [(h0, .inr (14, fs0)), (q1, .inl (cI, 4001, .inl f_1)), (q2, .inl (cI, 4001, .inl f_3)), (q3, .inl (cI, 4001, .inl f_5)), (q4, .inl (cI, 4001, .inl f_7))] := hD
  refine lv_aload_n hx hb dX14_token_41 rfl (lv_at hl 0 rfl) ?_
  refine lv_dup hx hb dX14_token_42 rfl ?_
  refine va_get (D := (dC, dI)) (ci := 14) (v := .int 0) (C := RX14) (T := TX14) (N := 136) hx hb hts hin_X14 hown hK hP 0 rfl rfl 10 (by decide) (hts (.fieldLink RX14 369 "NeedHouseModel" "tokens" "I") (List.mem_of_getElem? (i := 2) rfl)) (fun _ h9 => h9) (hF0.at 0 rfl) dX14_token_43 ?_
  refine lv_iconst (v := 1) hx hb dX14_token_46 (by decide) ?_
  refine lv_iadd hx hb dX14_token_47 ?_
  refine lv_topi (fun x_9 ex_9 => ?_)
  obtain rfl : x_9 = 1 := ex_9.trans (by decide +kernel)
  refine va_put (D := (dC, dI)) (ci := 14) (v := .int 1) (ty := .int) (C := RX14) (T := TX14) (N := 136) hx hb hts hin_X14 tyX14 tyX14_ok nmX14 hown hK hP hD hS 0 rfl rfl 10 (by decide) (hts (.fieldLink RX14 369 "NeedHouseModel" "tokens" "I") (List.mem_of_getElem? (i := 2) rfl)) (fun _ h9 => h9) rfl (by decide +kernel) rfl rfl (by rw [hF0.1]; decide) dX14_token_48 (fun H locs hP hD hS => ?_)
  have hP : va_P (dC, dI) vwCl [(h0, .inr (14, (fs0.set 10 (.int 1)))), (q1, .inl (cI, 4001, .inl f_1)), (q2, .inl (cI, 4001, .inl f_3)), (q3, .inl (cI, 4001, .inl f_5)), (q4, .inl (cI, 4001, .inl f_7))] H := hP
  have hD : va_D A [(h0, .inr (14, (fs0.set 10 (.int 1)))), (q1, .inl (cI, 4001, .inl f_1)), (q2, .inl (cI, 4001, .inl f_3)), (q3, .inl (cI, 4001, .inl f_5)), (q4, .inl (cI, 4001, .inl f_7))] := hD
  have hF_10 := hF0.set 10 (.int 1) (l' := [(10, .int 1), (6, .ref q1), (7, .ref q2), (8, .ref q3), (9, .ref q4)]) (by decide) rfl
  have hE_11 := (sameF.rf (f := fs0)).set 10 (.int 1)
  generalize fs0.set 10 (.int 1) = fs_12 at hP hD hF_10 hE_11
  have hP : va_P (dC, dI) vwCl [(h0, .inr (14, fs_12)), (q1, .inl (cI, 4001, .inl f_1)), (q2, .inl (cI, 4001, .inl f_3)), (q3, .inl (cI, 4001, .inl f_5)), (q4, .inl (cI, 4001, .inl f_7))] H := hP
  have hD : va_D A [(h0, .inr (14, fs_12)), (q1, .inl (cI, 4001, .inl f_1)), (q2, .inl (cI, 4001, .inl f_3)), (q3, .inl (cI, 4001, .inl f_5)), (q4, .inl (cI, 4001, .inl f_7))] := hD
  have hP9 := hP.sub (ws' := [(h0, .inr (14, fs_12)), (q1, .inl (cI, 4001, .inl f_1)), (q2, .inl (cI, 4001, .inl f_3)), (q3, .inl (cI, 4001, .inl f_5)), (q4, .inl (cI, 4001, .inl f_7))]) [0, 1, 2, 3, 4] rfl
  have hD9 := hD.sub (ws' := [(h0, .inr (14, fs_12)), (q1, .inl (cI, 4001, .inl f_1)), (q2, .inl (cI, 4001, .inl f_3)), (q3, .inl (cI, 4001, .inl f_5)), (q4, .inl (cI, 4001, .inl f_7))]) [0, 1, 2, 3, 4] (by decide) rfl
  have hK9 := hK.sub (tys' := [(cI, .int)]) [0] rfl
  exact W.vret hx hb hr (fun t ht hW => ⟨⟨((fs_12, f_1, f_3, f_5, f_7)), rfl, ⟨hF_10.sub [0] rfl, hE_11.mono (by decide), hk_2, hk_6⟩, by rw [ht]; exact hP9, va_K.moved hW.alike hK9, hD9⟩, hS.F ht⟩) hS.2.2 dX14_token_51
def pw_c_X14_lexemes : List Cond := .code yX14_lexemes cX14_lexemes 6 none :: ([.fieldLink RX14 369 "NeedHouseModel" "tokens" "I", .fieldLink RX14 350 "NeedHouseModel" "names" "I", .methodLink RX14 365 yX14_byteAt, .instanceMethod yX14_byteAt, .selects RX14 yX14_byteAt yX14_byteAt, .initialized RX14, .code yX14_byteAt cX14_byteAt 2 (some .int), .fieldLink RX14 333 "NeedHouseModel" "taped" "I", .methodLink RX14 372 yX14_token, .instanceMethod yX14_token, .selects RX14 yX14_token yX14_token, .code yX14_token cX14_token 5 none, .fieldLink RX14 95 "NeedHouseModel" "tSort" "[I", .fieldLink RX14 98 "NeedHouseModel" "tValue" "[I", .fieldLink RX14 101 "NeedHouseModel" "tLine" "[I", .fieldLink RX14 104 "NeedHouseModel" "tColumn" "[I"] ++ (wsX140 ++ []))
set_option maxRecDepth 20000 in
theorem g_c_X14_lexemes_c_X14_byteAt_18 : GoodIn pw_c_X14_lexemes (wsV RX14 365 RX14 yX14_byteAt pw_c_X14_byteAt) := goodIn_r _ [3, 4, 5, 6, 7, 8, 17, 18, 19, 20, 21, 22, 23, 24, 25, 26, 27, 28, 29, 30, 31, 32, 33, 34, 35, 36, 37, 38, 39, 40, 41, 42, 43, 44, 45, 46, 47, 48, 49, 50, 51, 52, 53, 54, 55, 56, 57, 58, 59, 60, 61, 62, 63, 64, 65, 66, 67, 68, 69, 70, 71, 72, 73, 74, 75, 76, 77, 78, 79, 80, 81, 82, 83, 84, 85, 86, 87, 88, 89, 90, 91, 92, 93, 94, 95, 96, 97, 98, 99, 100, 101, 102, 103, 104, 105, 106, 107, 108, 109, 110, 111, 112, 113, 114, 115, 116, 117, 118, 119, 120, 121, 122, 123, 124, 125, 126, 127, 128, 129, 130, 131, 132, 133, 134, 135, 136, 137, 138, 139, 140, 141, 142, 143, 144, 145, 146, 147, 148, 149, 150, 151, 152] rfl (by decide +kernel)
set_option maxRecDepth 20000 in
theorem g_c_X14_lexemes_c_X14_token_109 : GoodIn pw_c_X14_lexemes (wsV RX14 372 RX14 yX14_token pw_c_X14_token) := goodIn_r _ [9, 10, 11, 6, 12, 13, 1, 14, 15, 16, 17, 18, 19, 20, 21, 22, 23, 24, 25, 26, 27, 28, 29, 30, 31, 32, 33, 34, 35, 36, 37, 38, 39, 40, 41, 42, 43, 44, 45, 46, 47, 48, 49, 50, 51, 52, 53, 54, 55, 56, 57, 58, 59, 60, 61, 62, 63, 64, 65, 66, 67, 68, 69, 70, 71, 72, 73, 74, 75, 76, 77, 78, 79, 80, 81, 82, 83, 84, 85, 86, 87, 88, 89, 90, 91, 92, 93, 94, 95, 96, 97, 98, 99, 100, 101, 102, 103, 104, 105, 106, 107, 108, 109, 110, 111, 112, 113, 114, 115, 116, 117, 118, 119, 120, 121, 122, 123, 124, 125, 126, 127, 128, 129, 130, 131, 132, 133, 134, 135, 136, 137, 138, 139, 140, 141, 142, 143, 144, 145, 146, 147, 148, 149, 150, 151, 152] rfl (by decide +kernel)
set_option maxHeartbeats 4000000 in
set_option maxRecDepth 100000 in
theorem c_X14_lexemes (l : Launch) (dC : Nat → ClassId) (dI : Nat → Nat → Nat) (sz : Nat) (cI : ClassId) (h0 : Nat) (fs0 : List Value) (tz : Int32) (nz : Int32) (q1 : Nat) (f1 : Nat → Int32) (q2 : Nat) (f2 : Nat → Int32) (q3 : Nat) (f3 : Nat → Int32) (q4 : Nat) (f4 : Nat → Int32) (hF0 : hasF fs0 136 [(10, .int tz), (13, .int nz), (3, .int 0), (6, .ref q1), (7, .ref q2), (8, .ref q3), (9, .ref q4)]) : Met l yX14_lexemes pw_c_X14_lexemes ({ frames := 1, cells := 0, slots := 0, locals := 24 }) (va_Pc [.ref h0] (fun U => U.heap.size = sz ∧ va_P (dC, dI) vwCl [(h0, .inr (14, fs0)), (q1, .inl (cI, 4001, .inl f1)), (q2, .inl (cI, 4001, .inl f2)), (q3, .inl (cI, 4001, .inl f3)), (q4, .inl (cI, 4001, .inl f4))] U.heap ∧ va_K (dC, dI) vwCl [(cI, .int)] U ∧ va_D (fun _ => True) [(h0, .inr (14, fs0)), (q1, .inl (cI, 4001, .inl f1)), (q2, .inl (cI, 4001, .inl f2)), (q3, .inl (cI, 4001, .inl f3)), (q4, .inl (cI, 4001, .inl f4))])) (va_Qv (fun (u : (List Value) × (Nat → Int32) × (Nat → Int32) × (Nat → Int32) × (Nat → Int32)) => hasF u.1 136 [(10, .int 1), (13, .int 0)] ∧ sameF fs0 u.1 [10, 13] ∧ u.2.1 0 = 43 ∧ u.2.2.2.1 0 = 1) (fun (u : (List Value) × (Nat → Int32) × (Nat → Int32) × (Nat → Int32) × (Nat → Int32)) (t : State) => va_P (dC, dI) vwCl [(h0, .inr (14, u.1)), (q1, .inl (cI, 4001, .inl u.2.1)), (q2, .inl (cI, 4001, .inl u.2.2.1)), (q3, .inl (cI, 4001, .inl u.2.2.2.1)), (q4, .inl (cI, 4001, .inl u.2.2.2.2))] t.heap ∧ va_K (dC, dI) vwCl [(cI, .int)] t ∧ va_D (va_A [(h0, .inr (14, fs0)), (q1, .inl (cI, 4001, .inl f1)), (q2, .inl (cI, 4001, .inl f2)), (q3, .inl (cI, 4001, .inl f3)), (q4, .inl (cI, 4001, .inl f4))] sz) [(h0, .inr (14, u.1)), (q1, .inl (cI, 4001, .inl u.2.1)), (q2, .inl (cI, 4001, .inl u.2.2.1)), (q3, .inl (cI, 4001, .inl u.2.2.2.1)), (q4, .inl (cI, 4001, .inl u.2.2.2.2))]) (va_A [(h0, .inr (14, fs0)), (q1, .inl (cI, 4001, .inl f1)), (q2, .inl (cI, 4001, .inl f2)), (q3, .inl (cI, 4001, .inl f3)), (q4, .inl (cI, 4001, .inl f4))] sz)) 0 0 (va_A [(h0, .inr (14, fs0)), (q1, .inl (cI, 4001, .inl f1)), (q2, .inl (cI, 4001, .inl f2)), (q3, .inl (cI, 4001, .inl f3)), (q4, .inl (cI, 4001, .inl f4))] sz) := by
  refine Met.ofW (cc := cX14_lexemes) (maxL := 6) (ret := none) (by decide) rfl ?_
  intro p e s m args below meth c s₁ B hml hv
  obtain ⟨rfl, hsz, hP, hK, hD0⟩ := hv
  have hx := B.exec
  have hb := B.bytes
  have hr := B.returns
  have hts := atoms_spec (ws := pw_c_X14_lexemes) B.pre
  have hown : s.vm.findClass RX14 = some m.cls := findClass_of_methodNamed B.named
  have hlocks := B.notSynchronized
  have hin_X14 : ∀ w ∈ u_ws RX14 TX14 136, w ∈ pw_c_X14_lexemes := fun w h => List.mem_cons_of_mem _ (List.mem_append_right _ (List.mem_append_left _ h))
  subst hsz
  have hD := hD0.self (sz := s.heap.size)
  generalize hAe : va_A [(h0, .inr (14, fs0)), (q1, .inl (cI, 4001, .inl f1)), (q2, .inl (cI, 4001, .inl f2)), (q3, .inl (cI, 4001, .inl f3)), (q4, .inl (cI, 4001, .inl f4))] s.heap.size = A at hD ⊢
  have hA : ∀ q : Nat, s.heap.size ≤ q → A q := fun q h => by rw [← hAe]; exact Or.inr h
  have hS : va_S A s.heap s.heap [] := va_S.rf
  have hP : va_P (dC, dI) vwCl [(h0, .inr (14, fs0)), (q1, .inl (cI, 4001, .inl f1)), (q2, .inl (cI, 4001, .inl f2)), (q3, .inl (cI, 4001, .inl f3)), (q4, .inl (cI, 4001, .inl f4))] s.heap := hP
  have hl := lv_entry ([.ref h0]) (n := 6) (Nat.le_of_ble_eq_true rfl)
  rw [lg_entry_eq]
  generalize (lg_sl ([.ref h0]) ++ List.replicate (6 - (lg_sl ([.ref h0])).length) Slot.unset).toArray = ls at hl ⊢
  have hl : lv_has ls 6 [(0, .ref h0)] := hl
  refine lv_aload_n hx hb dX14_lexemes_0 rfl (lv_at hl 0 rfl) ?_
  refine lv_iconst (v := 0) hx hb dX14_lexemes_1 (by decide) ?_
  refine va_put (D := (dC, dI)) (ci := 14) (v := .int 0) (ty := .int) (C := RX14) (T := TX14) (N := 136) hx hb hts hin_X14 tyX14 tyX14_ok nmX14 hown hK hP hD hS 0 rfl rfl 10 (by decide) (hts (.fieldLink RX14 369 "NeedHouseModel" "tokens" "I") (List.mem_of_getElem? (i := 1) rfl)) (fun _ h9 => h9) rfl (by decide +kernel) rfl rfl (by rw [hF0.1]; decide) dX14_lexemes_2 (fun H locs hP hD hS => ?_)
  have hP : va_P (dC, dI) vwCl [(h0, .inr (14, (fs0.set 10 (.int 0)))), (q1, .inl (cI, 4001, .inl f1)), (q2, .inl (cI, 4001, .inl f2)), (q3, .inl (cI, 4001, .inl f3)), (q4, .inl (cI, 4001, .inl f4))] H := hP
  have hD : va_D A [(h0, .inr (14, (fs0.set 10 (.int 0)))), (q1, .inl (cI, 4001, .inl f1)), (q2, .inl (cI, 4001, .inl f2)), (q3, .inl (cI, 4001, .inl f3)), (q4, .inl (cI, 4001, .inl f4))] := hD
  have hF_1 := hF0.set 10 (.int 0) (l' := [(10, .int 0), (13, .int nz), (3, .int 0), (6, .ref q1), (7, .ref q2), (8, .ref q3), (9, .ref q4)]) (by decide) rfl
  have hE_2 := (sameF.rf (f := fs0)).set 10 (.int 0)
  generalize fs0.set 10 (.int 0) = fs_3 at hP hD hF_1 hE_2
  have hP : va_P (dC, dI) vwCl [(h0, .inr (14, fs_3)), (q1, .inl (cI, 4001, .inl f1)), (q2, .inl (cI, 4001, .inl f2)), (q3, .inl (cI, 4001, .inl f3)), (q4, .inl (cI, 4001, .inl f4))] H := hP
  have hD : va_D A [(h0, .inr (14, fs_3)), (q1, .inl (cI, 4001, .inl f1)), (q2, .inl (cI, 4001, .inl f2)), (q3, .inl (cI, 4001, .inl f3)), (q4, .inl (cI, 4001, .inl f4))] := hD
  refine lv_aload_n hx hb dX14_lexemes_5 rfl (lv_at hl 0 rfl) ?_
  refine lv_iconst (v := 0) hx hb dX14_lexemes_6 (by decide) ?_
  refine va_put (D := (dC, dI)) (ci := 14) (v := .int 0) (ty := .int) (C := RX14) (T := TX14) (N := 136) hx hb hts hin_X14 tyX14 tyX14_ok nmX14 hown hK hP hD hS 0 rfl rfl 13 (by decide) (hts (.fieldLink RX14 350 "NeedHouseModel" "names" "I") (List.mem_of_getElem? (i := 2) rfl)) (fun _ h9 => h9) rfl (by decide +kernel) rfl rfl (by rw [hF_1.1]; decide) dX14_lexemes_7 (fun H locs hP hD hS => ?_)
  have hP : va_P (dC, dI) vwCl [(h0, .inr (14, (fs_3.set 13 (.int 0)))), (q1, .inl (cI, 4001, .inl f1)), (q2, .inl (cI, 4001, .inl f2)), (q3, .inl (cI, 4001, .inl f3)), (q4, .inl (cI, 4001, .inl f4))] H := hP
  have hD : va_D A [(h0, .inr (14, (fs_3.set 13 (.int 0)))), (q1, .inl (cI, 4001, .inl f1)), (q2, .inl (cI, 4001, .inl f2)), (q3, .inl (cI, 4001, .inl f3)), (q4, .inl (cI, 4001, .inl f4))] := hD
  have hF_4 := hF_1.set 13 (.int 0) (l' := [(13, .int 0), (10, .int 0), (3, .int 0), (6, .ref q1), (7, .ref q2), (8, .ref q3), (9, .ref q4)]) (by decide) rfl
  have hE_5 := hE_2.set 13 (.int 0)
  generalize fs_3.set 13 (.int 0) = fs_6 at hP hD hF_4 hE_5
  have hP : va_P (dC, dI) vwCl [(h0, .inr (14, fs_6)), (q1, .inl (cI, 4001, .inl f1)), (q2, .inl (cI, 4001, .inl f2)), (q3, .inl (cI, 4001, .inl f3)), (q4, .inl (cI, 4001, .inl f4))] H := hP
  have hD : va_D A [(h0, .inr (14, fs_6)), (q1, .inl (cI, 4001, .inl f1)), (q2, .inl (cI, 4001, .inl f2)), (q3, .inl (cI, 4001, .inl f3)), (q4, .inl (cI, 4001, .inl f4))] := hD
  refine lv_iconst (v := 1) hx hb dX14_lexemes_10 (by decide) ?_
  refine lv_istore_n (lv' := [(1, .int 1), (0, .ref h0)]) hx hb dX14_lexemes_11 rfl hl (by decide) rfl (fun ls hl => ?_)
  refine lv_iconst (v := 0) hx hb dX14_lexemes_12 (by decide) ?_
  refine lv_istore_n (lv' := [(2, .int 0), (1, .int 1), (0, .ref h0)]) hx hb dX14_lexemes_13 rfl hl (by decide) rfl (fun ls hl => ?_)
  refine lv_iconst (v := 0) hx hb dX14_lexemes_14 (by decide) ?_
  refine lv_istore_n (lv' := [(3, .int 0), (2, .int 0), (1, .int 1), (0, .ref h0)]) hx hb dX14_lexemes_15 rfl hl (by decide) rfl (fun ls hl => ?_)
  refine lv_aload_n hx hb dX14_lexemes_16 rfl (lv_at hl 3 rfl) ?_
  refine lv_iload_n hx hb dX14_lexemes_17 rfl (lv_at hl 0 rfl) ?_
  have hPc := hP.sub (ws' := [(h0, .inr (14, fs_6))]) [0] rfl
  have hDc := hD.sub (ws' := [(h0, .inr (14, fs_6))]) [0] (by decide) rfl
  have hKc := hK.sub (tys' := []) [] rfl
  have hFc := va_free (wc := [(h0, .inr (14, fs_6))]) hD hS hA [0] rfl
  refine va_calli (va_runV (As := [.int 0]) (rest := []) ⟨hx, hb, hml, hown, hts⟩ (c_X14_byteAt l dC dI H.size h0 fs_6 (hF_4.sub [2] rfl)) (cwV 1 hts g_c_X14_lexemes_c_X14_byteAt_18 rfl rfl rfl (by decide +kernel) ⟨Nat.le_of_ble_eq_true rfl, Nat.le_of_ble_eq_true rfl⟩) ⟨fun a U g mk q => by obtain ⟨q0, q1, qP, qK, qD⟩ := q; exact ⟨q0, q1, qP, va_K.moved (u := U) (U := U.calling g mk a) (Vm.Alike.refl U.vm) qK, qD⟩, va_recv hKc hPc (ci := 14) (q0 := 0) rfl rfl, fun U hU hW => ⟨rfl, by rw [hU], by rw [hU]; exact hPc, va_K.moved hW.alike hKc, hDc.weaken (fun _ _ _ _ => trivial)⟩⟩ rfl rfl hl.1 rfl (lv_room (Nat.le_of_ble_eq_true rfl)) dX14_lexemes_18 ⟨show 0 + 0 ≤ 0 by decide, show 0 + 0 ≤ 0 by decide⟩) hS (fun q _ h => hFc q h) hFc (fun r_7 u t H1 locs ht hvm hw hB hz1 hk1 hS => ?_)
  obtain ⟨hP1, hK1, hD1⟩ := hB
  rw [ht] at hP1
  have hK1 := va_K.moved hvm.symm hK1
  try dsimp only at hw hP1 hK1 hD1
  have hr_9 := hw
  obtain ⟨hP, hD⟩ := va_join (wr := [(q1, .inl (cI, 4001, .inl f1)), (q2, .inl (cI, 4001, .inl f2)), (q3, .inl (cI, 4001, .inl f3)), (q4, .inl (cI, 4001, .inl f4))]) (w1 := [(h0, .inr (14, fs_6))]) hP hD [0] [1, 2, 3, 4] rfl rfl (by decide) (by decide) hk1 hFc hP1 hD1
  generalize H1 = H at hP hS ⊢
  have hK := (hK.sub (tys' := [(cI, .int)]) [0] rfl).app hK1
  have hK : va_K (dC, dI) vwCl [(cI, .int)] s := hK
  have hP : va_P (dC, dI) vwCl [(q1, .inl (cI, 4001, .inl f1)), (q2, .inl (cI, 4001, .inl f2)), (q3, .inl (cI, 4001, .inl f3)), (q4, .inl (cI, 4001, .inl f4)), (h0, .inr (14, fs_6))] H := hP
  have hD : va_D A [(q1, .inl (cI, 4001, .inl f1)), (q2, .inl (cI, 4001, .inl f2)), (q3, .inl (cI, 4001, .inl f3)), (q4, .inl (cI, 4001, .inl f4)), (h0, .inr (14, fs_6))] := hD
  subst hr_9
  refine lv_istore (lv' := [(4, .int (-1)), (3, .int 0), (2, .int 0), (1, .int 1), (0, .ref h0)]) hx hb dX14_lexemes_21 hl (by decide) rfl (fun ls hl => ?_)
  refine lv_iload hx hb dX14_lexemes_23 (lv_at hl 0 rfl) ?_
  refine lv_bipush (v := 32) hx hb dX14_lexemes_25 (by decide) ?_
  refine lv_icmp_ne (tgt := 36) hx hb dX14_lexemes_27 (by decide) (fun _ => ?_) (fun c_10 => absurd c_10 (by decide))
  refine lv_iload hx hb dX14_lexemes_36 (lv_at hl 0 rfl) ?_
  refine lv_bipush (v := 10) hx hb dX14_lexemes_38 (by decide) ?_
  refine lv_icmp_ne (tgt := 54) hx hb dX14_lexemes_40 (by decide) (fun _ => ?_) (fun c_11 => absurd c_11 (by decide))
  refine lv_iload hx hb dX14_lexemes_54 (lv_at hl 0 rfl) ?_
  refine lv_bipush (v := 45) hx hb dX14_lexemes_56 (by decide) ?_
  refine lv_icmp_ne (tgt := 98) hx hb dX14_lexemes_58 (by decide) (fun _ => ?_) (fun c_12 => absurd c_12 (by decide))
  refine lv_iload hx hb dX14_lexemes_98 (lv_at hl 0 rfl) ?_
  refine lv_if_ge (tgt := 113) hx hb dX14_lexemes_100 (by decide) (fun c_13 => absurd c_13 (by decide)) (fun _ => ?_)
  refine lv_aload_n hx hb dX14_lexemes_103 rfl (lv_at hl 4 rfl) ?_
  refine lv_bipush (v := 43) hx hb dX14_lexemes_104 (by decide) ?_
  refine lv_iconst (v := 0) hx hb dX14_lexemes_106 (by decide) ?_
  refine lv_iload_n hx hb dX14_lexemes_107 rfl (lv_at hl 3 rfl) ?_
  refine lv_iconst (v := 0) hx hb dX14_lexemes_108 (by decide) ?_
  have hPc := hP.sub (ws' := [(h0, .inr (14, fs_6)), (q1, .inl (cI, 4001, .inl f1)), (q2, .inl (cI, 4001, .inl f2)), (q3, .inl (cI, 4001, .inl f3)), (q4, .inl (cI, 4001, .inl f4))]) [4, 0, 1, 2, 3] rfl
  have hDc := hD.sub (ws' := [(h0, .inr (14, fs_6)), (q1, .inl (cI, 4001, .inl f1)), (q2, .inl (cI, 4001, .inl f2)), (q3, .inl (cI, 4001, .inl f3)), (q4, .inl (cI, 4001, .inl f4))]) [4, 0, 1, 2, 3] (by decide) rfl
  have hKc := hK.sub (tys' := [(cI, .int)]) [0] rfl
  have hFc := va_free (wc := [(h0, .inr (14, fs_6)), (q1, .inl (cI, 4001, .inl f1)), (q2, .inl (cI, 4001, .inl f2)), (q3, .inl (cI, 4001, .inl f3)), (q4, .inl (cI, 4001, .inl f4))]) hD hS hA [4, 0, 1, 2, 3] rfl
  refine va_callv (va_runV (As := [.int 43, .int 0, .int 1, .int 0]) (rest := []) ⟨hx, hb, hml, hown, hts⟩ (c_X14_token l dC dI H.size cI h0 fs_6 q1 f1 q2 f2 q3 f3 q4 f4 (hF_4.sub [1, 3, 4, 5, 6] rfl)) (cwV 4 hts g_c_X14_lexemes_c_X14_token_109 rfl rfl rfl (by decide +kernel) ⟨Nat.le_of_ble_eq_true rfl, Nat.le_of_ble_eq_true rfl⟩) ⟨fun a U g mk q => by obtain ⟨q0, q1, qP, qK, qD⟩ := q; exact ⟨q0, q1, qP, va_K.moved (u := U) (U := U.calling g mk a) (Vm.Alike.refl U.vm) qK, qD⟩, va_recv hKc hPc (ci := 14) (q0 := 0) rfl rfl, fun U hU hW => ⟨rfl, by rw [hU], by rw [hU]; exact hPc, va_K.moved hW.alike hKc, hDc.weaken (fun _ _ _ _ => trivial)⟩⟩ rfl rfl hl.1 rfl (lv_room (Nat.le_of_ble_eq_true rfl)) dX14_lexemes_109 ⟨show 0 + 0 ≤ 0 by decide, show 0 + 0 ≤ 0 by decide⟩) hS (fun q _ h => hFc q h) hFc (fun u t H1 locs ht hvm hw hB hz1 hk1 hS => ?_)
  obtain ⟨fs0z_16, f1z_17, f2z_18, f3z_19, f4z_20⟩ := u
  obtain ⟨hP1, hK1, hD1⟩ := hB
  rw [ht] at hP1
  have hK1 := va_K.moved hvm.symm hK1
  try dsimp only at hw hP1 hK1 hD1
  obtain ⟨hF_21, hE_22, hA_23, hA_24⟩ := hw
  obtain ⟨hP, hD⟩ := va_join (wr := []) (w1 := [(h0, .inr (14, fs0z_16)), (q1, .inl (cI, 4001, .inl f1z_17)), (q2, .inl (cI, 4001, .inl f2z_18)), (q3, .inl (cI, 4001, .inl f3z_19)), (q4, .inl (cI, 4001, .inl f4z_20))]) hP hD [4, 0, 1, 2, 3] [] rfl rfl (by decide) (by decide) hk1 hFc hP1 hD1
  generalize H1 = H at hP hS ⊢
  have hK := (hK.sub (tys' := []) [] rfl).app hK1
  have hK : va_K (dC, dI) vwCl [(cI, .int)] s := hK
  have hP : va_P (dC, dI) vwCl [(h0, .inr (14, fs0z_16)), (q1, .inl (cI, 4001, .inl f1z_17)), (q2, .inl (cI, 4001, .inl f2z_18)), (q3, .inl (cI, 4001, .inl f3z_19)), (q4, .inl (cI, 4001, .inl f4z_20))] H := hP
  have hD : va_D A [(h0, .inr (14, fs0z_16)), (q1, .inl (cI, 4001, .inl f1z_17)), (q2, .inl (cI, 4001, .inl f2z_18)), (q3, .inl (cI, 4001, .inl f3z_19)), (q4, .inl (cI, 4001, .inl f4z_20))] := hD
  have hF_25 := hF_4.same hE_22 (l' := [(13, .int 0), (3, .int 0), (6, .ref q1), (7, .ref q2), (8, .ref q3), (9, .ref q4)]) rfl
  have hF_26 := hF_21.app hF_25
  have hE_27 := hE_5.trans hE_22
  have hP9 := hP.sub (ws' := [(h0, .inr (14, fs0z_16)), (q1, .inl (cI, 4001, .inl f1z_17)), (q2, .inl (cI, 4001, .inl f2z_18)), (q3, .inl (cI, 4001, .inl f3z_19)), (q4, .inl (cI, 4001, .inl f4z_20))]) [0, 1, 2, 3, 4] rfl
  have hD9 := hD.sub (ws' := [(h0, .inr (14, fs0z_16)), (q1, .inl (cI, 4001, .inl f1z_17)), (q2, .inl (cI, 4001, .inl f2z_18)), (q3, .inl (cI, 4001, .inl f3z_19)), (q4, .inl (cI, 4001, .inl f4z_20))]) [0, 1, 2, 3, 4] (by decide) rfl
  have hK9 := hK.sub (tys' := [(cI, .int)]) [0] rfl
  exact W.vret hx hb hr (fun t ht hW => ⟨⟨((fs0z_16, f1z_17, f2z_18, f3z_19, f4z_20)), rfl, ⟨hF_26.sub [0, 1] rfl, hE_27.mono (by decide), hA_23, hA_24⟩, by rw [ht]; exact hP9, va_K.moved hW.alike hK9, hD9⟩, hS.F ht⟩) hS.2.2 dX14_lexemes_112
def pw_c_X14_layout : List Cond := .code yX14_layout cX14_layout 3 none :: ([.fieldLink RX14 95 "NeedHouseModel" "tSort" "[I", .fieldLink RX14 410 "NeedHouseModel" "t" "I", .fieldLink RX14 426 "NeedHouseModel" "endsDue" "I", .fieldLink RX14 429 "NeedHouseModel" "itemDue" "Z", .fieldLink RX14 404 "NeedHouseModel" "isLow" "Z", .fieldLink RX14 432 "NeedHouseModel" "blockDue" "Z", .fieldLink RX14 416 "NeedHouseModel" "blocks" "I", .fieldLink RX14 419 "NeedHouseModel" "opens" "I"] ++ (wsX140 ++ []))
set_option maxHeartbeats 4000000 in
set_option maxRecDepth 100000 in
theorem c_X14_layout (l : Launch) (dC : Nat → ClassId) (dI : Nat → Nat → Nat) (sz : Nat) (cI : ClassId) (h0 : Nat) (fs0 : List Value) (ed : Int32) (id : Int32) (il : Int32) (q1 : Nat) (f1 : Nat → Int32) (hF0 : hasF fs0 136 [(15, .int 0), (6, .ref q1), (23, .int 1), (20, .int 0), (17, .int 0), (21, .int ed), (22, .int id), (24, .int il)]) (hkf1_0 : f1 0 = 43) : Met l yX14_layout pw_c_X14_layout ({ frames := 0, cells := 0, slots := 0, locals := 0 }) (va_Pc [.ref h0] (fun U => U.heap.size = sz ∧ va_P (dC, dI) vwCl [(h0, .inr (14, fs0)), (q1, .inl (cI, 4001, .inl f1))] U.heap ∧ va_K (dC, dI) vwCl [(cI, .int)] U ∧ va_D (fun _ => True) [(h0, .inr (14, fs0)), (q1, .inl (cI, 4001, .inl f1))])) (va_Qv (fun (u : (List Value)) => sameF fs0 u [21, 22, 24]) (fun (u : (List Value)) (t : State) => va_P (dC, dI) vwCl [(h0, .inr (14, u)), (q1, .inl (cI, 4001, .inl f1))] t.heap ∧ va_K (dC, dI) vwCl [(cI, .int)] t ∧ va_D (va_A [(h0, .inr (14, fs0)), (q1, .inl (cI, 4001, .inl f1))] sz) [(h0, .inr (14, u)), (q1, .inl (cI, 4001, .inl f1))]) (va_A [(h0, .inr (14, fs0)), (q1, .inl (cI, 4001, .inl f1))] sz)) 0 0 (va_A [(h0, .inr (14, fs0)), (q1, .inl (cI, 4001, .inl f1))] sz) := by
  refine Met.ofW (cc := cX14_layout) (maxL := 3) (ret := none) (by decide) rfl ?_
  intro p e s m args below meth c s₁ B hml hv
  obtain ⟨rfl, hsz, hP, hK, hD0⟩ := hv
  have hx := B.exec
  have hb := B.bytes
  have hr := B.returns
  have hts := atoms_spec (ws := pw_c_X14_layout) B.pre
  have hown : s.vm.findClass RX14 = some m.cls := findClass_of_methodNamed B.named
  have hlocks := B.notSynchronized
  have hin_X14 : ∀ w ∈ u_ws RX14 TX14 136, w ∈ pw_c_X14_layout := fun w h => List.mem_cons_of_mem _ (List.mem_append_right _ (List.mem_append_left _ h))
  subst hsz
  have hD := hD0.self (sz := s.heap.size)
  generalize hAe : va_A [(h0, .inr (14, fs0)), (q1, .inl (cI, 4001, .inl f1))] s.heap.size = A at hD ⊢
  have hA : ∀ q : Nat, s.heap.size ≤ q → A q := fun q h => by rw [← hAe]; exact Or.inr h
  have hS : va_S A s.heap s.heap [] := va_S.rf
  have hP : va_P (dC, dI) vwCl [(h0, .inr (14, fs0)), (q1, .inl (cI, 4001, .inl f1))] s.heap := hP
  have hl := lv_entry ([.ref h0]) (n := 3) (Nat.le_of_ble_eq_true rfl)
  rw [lg_entry_eq]
  generalize (lg_sl ([.ref h0]) ++ List.replicate (3 - (lg_sl ([.ref h0])).length) Slot.unset).toArray = ls at hl ⊢
  have hl : lv_has ls 3 [(0, .ref h0)] := hl
  refine lv_aload_n hx hb dX14_layout_0 rfl (lv_at hl 0 rfl) ?_
  refine va_get (D := (dC, dI)) (ci := 14) (v := .ref q1) (C := RX14) (T := TX14) (N := 136) hx hb hts hin_X14 hown hK hP 0 rfl rfl 6 (by decide) (hts (.fieldLink RX14 95 "NeedHouseModel" "tSort" "[I") (List.mem_of_getElem? (i := 1) rfl)) (fun _ h9 => h9) (hF0.at 1 rfl) dX14_layout_1 ?_
  refine lv_aload_n hx hb dX14_layout_4 rfl (lv_at hl 0 rfl) ?_
  refine va_get (D := (dC, dI)) (ci := 14) (v := .int 0) (C := RX14) (T := TX14) (N := 136) hx hb hts hin_X14 hown hK hP 0 rfl rfl 15 (by decide) (hts (.fieldLink RX14 410 "NeedHouseModel" "t" "I") (List.mem_of_getElem? (i := 2) rfl)) (fun _ h9 => h9) (hF0.at 0 rfl) dX14_layout_5 ?_
  refine va_iald hx hb hK hP 1 0 rfl rfl (show vp_in (nI 0) 4001 from vp_in_nI (by decide) (by decide)) dX14_layout_8 ?_
  refine lv_topi (fun x_1 ex_1 => ?_)
  obtain rfl : x_1 = 43 := ex_1.trans (by rw [show (0 : Int32).toNatClampNeg = 0 from by decide]; exact hkf1_0)
  refine lv_istore_n (lv' := [(1, .int 43), (0, .ref h0)]) hx hb dX14_layout_9 rfl hl (by decide) rfl (fun ls hl => ?_)
  refine lv_aload_n hx hb dX14_layout_10 rfl (lv_at hl 1 rfl) ?_
  refine lv_iconst (v := 0) hx hb dX14_layout_11 (by decide) ?_
  refine va_put (D := (dC, dI)) (ci := 14) (v := .int 0) (ty := .int) (C := RX14) (T := TX14) (N := 136) hx hb hts hin_X14 tyX14 tyX14_ok nmX14 hown hK hP hD hS 0 rfl rfl 21 (by decide) (hts (.fieldLink RX14 426 "NeedHouseModel" "endsDue" "I") (List.mem_of_getElem? (i := 3) rfl)) (fun _ h9 => h9) rfl (by decide +kernel) rfl rfl (by rw [hF0.1]; decide) dX14_layout_12 (fun H locs hP hD hS => ?_)
  have hP : va_P (dC, dI) vwCl [(h0, .inr (14, (fs0.set 21 (.int 0)))), (q1, .inl (cI, 4001, .inl f1))] H := hP
  have hD : va_D A [(h0, .inr (14, (fs0.set 21 (.int 0)))), (q1, .inl (cI, 4001, .inl f1))] := hD
  have hF_2 := hF0.set 21 (.int 0) (l' := [(21, .int 0), (15, .int 0), (6, .ref q1), (23, .int 1), (20, .int 0), (17, .int 0), (22, .int id), (24, .int il)]) (by decide) rfl
  have hE_3 := (sameF.rf (f := fs0)).set 21 (.int 0)
  generalize fs0.set 21 (.int 0) = fs_4 at hP hD hF_2 hE_3
  have hP : va_P (dC, dI) vwCl [(h0, .inr (14, fs_4)), (q1, .inl (cI, 4001, .inl f1))] H := hP
  have hD : va_D A [(h0, .inr (14, fs_4)), (q1, .inl (cI, 4001, .inl f1))] := hD
  refine lv_aload_n hx hb dX14_layout_15 rfl (lv_at hl 1 rfl) ?_
  refine lv_iconst (v := 0) hx hb dX14_layout_16 (by decide) ?_
  refine va_put (D := (dC, dI)) (ci := 14) (v := .int 0) (ty := .boolean) (C := RX14) (T := TX14) (N := 136) hx hb hts hin_X14 tyX14 tyX14_ok nmX14 hown hK hP hD hS 0 rfl rfl 22 (by decide) (hts (.fieldLink RX14 429 "NeedHouseModel" "itemDue" "Z") (List.mem_of_getElem? (i := 4) rfl)) (fun _ h9 => h9) rfl (by decide +kernel) rfl rfl (by rw [hF_2.1]; decide) dX14_layout_17 (fun H locs hP hD hS => ?_)
  have hP : va_P (dC, dI) vwCl [(h0, .inr (14, (fs_4.set 22 (.int 0)))), (q1, .inl (cI, 4001, .inl f1))] H := hP
  have hD : va_D A [(h0, .inr (14, (fs_4.set 22 (.int 0)))), (q1, .inl (cI, 4001, .inl f1))] := hD
  have hF_5 := hF_2.set 22 (.int 0) (l' := [(22, .int 0), (21, .int 0), (15, .int 0), (6, .ref q1), (23, .int 1), (20, .int 0), (17, .int 0), (24, .int il)]) (by decide) rfl
  have hE_6 := hE_3.set 22 (.int 0)
  generalize fs_4.set 22 (.int 0) = fs_7 at hP hD hF_5 hE_6
  have hP : va_P (dC, dI) vwCl [(h0, .inr (14, fs_7)), (q1, .inl (cI, 4001, .inl f1))] H := hP
  have hD : va_D A [(h0, .inr (14, fs_7)), (q1, .inl (cI, 4001, .inl f1))] := hD
  refine lv_aload_n hx hb dX14_layout_20 rfl (lv_at hl 1 rfl) ?_
  refine lv_iconst (v := 0) hx hb dX14_layout_21 (by decide) ?_
  refine va_put (D := (dC, dI)) (ci := 14) (v := .int 0) (ty := .boolean) (C := RX14) (T := TX14) (N := 136) hx hb hts hin_X14 tyX14 tyX14_ok nmX14 hown hK hP hD hS 0 rfl rfl 24 (by decide) (hts (.fieldLink RX14 404 "NeedHouseModel" "isLow" "Z") (List.mem_of_getElem? (i := 5) rfl)) (fun _ h9 => h9) rfl (by decide +kernel) rfl rfl (by rw [hF_5.1]; decide) dX14_layout_22 (fun H locs hP hD hS => ?_)
  have hP : va_P (dC, dI) vwCl [(h0, .inr (14, (fs_7.set 24 (.int 0)))), (q1, .inl (cI, 4001, .inl f1))] H := hP
  have hD : va_D A [(h0, .inr (14, (fs_7.set 24 (.int 0)))), (q1, .inl (cI, 4001, .inl f1))] := hD
  have hF_8 := hF_5.set 24 (.int 0) (l' := [(24, .int 0), (22, .int 0), (21, .int 0), (15, .int 0), (6, .ref q1), (23, .int 1), (20, .int 0), (17, .int 0)]) (by decide) rfl
  have hE_9 := hE_6.set 24 (.int 0)
  generalize fs_7.set 24 (.int 0) = fs_10 at hP hD hF_8 hE_9
  have hP : va_P (dC, dI) vwCl [(h0, .inr (14, fs_10)), (q1, .inl (cI, 4001, .inl f1))] H := hP
  have hD : va_D A [(h0, .inr (14, fs_10)), (q1, .inl (cI, 4001, .inl f1))] := hD
  refine lv_iload_n hx hb dX14_layout_25 rfl (lv_at hl 0 rfl) ?_
  refine lv_bipush (v := 44) hx hb dX14_layout_26 (by decide) ?_
  refine lv_icmp_ne (tgt := 37) hx hb dX14_layout_28 (by decide) (fun _ => ?_) (fun c_11 => absurd c_11 (by decide))
  refine lv_iload_n hx hb dX14_layout_37 rfl (lv_at hl 0 rfl) ?_
  refine lv_bipush (v := 43) hx hb dX14_layout_38 (by decide) ?_
  refine lv_icmp_ne (tgt := 85) hx hb dX14_layout_40 (by decide) (fun c_12 => absurd c_12 (by decide)) (fun _ => ?_)
  refine lv_aload_n hx hb dX14_layout_43 rfl (lv_at hl 1 rfl) ?_
  refine va_get (D := (dC, dI)) (ci := 14) (v := .int 1) (C := RX14) (T := TX14) (N := 136) hx hb hts hin_X14 hown hK hP 0 rfl rfl 23 (by decide) (hts (.fieldLink RX14 432 "NeedHouseModel" "blockDue" "Z") (List.mem_of_getElem? (i := 6) rfl)) (fun _ h9 => h9) (hF_8.at 5 rfl) dX14_layout_44 ?_
  refine lv_if_eq (tgt := 57) hx hb dX14_layout_47 (by decide) (fun c_13 => absurd c_13 (by decide)) (fun _ => ?_)
  refine lv_aload_n hx hb dX14_layout_50 rfl (lv_at hl 1 rfl) ?_
  refine va_get (D := (dC, dI)) (ci := 14) (v := .int 0) (C := RX14) (T := TX14) (N := 136) hx hb hts hin_X14 hown hK hP 0 rfl rfl 20 (by decide) (hts (.fieldLink RX14 416 "NeedHouseModel" "blocks" "I") (List.mem_of_getElem? (i := 7) rfl)) (fun _ h9 => h9) (hF_8.at 6 rfl) dX14_layout_51 ?_
  refine lv_if_gt (tgt := 64) hx hb dX14_layout_54 (by decide) (fun c_14 => absurd c_14 (by decide)) (fun _ => ?_)
  refine lv_aload_n hx hb dX14_layout_57 rfl (lv_at hl 1 rfl) ?_
  refine va_get (D := (dC, dI)) (ci := 14) (v := .int 0) (C := RX14) (T := TX14) (N := 136) hx hb hts hin_X14 hown hK hP 0 rfl rfl 17 (by decide) (hts (.fieldLink RX14 419 "NeedHouseModel" "opens" "I") (List.mem_of_getElem? (i := 8) rfl)) (fun _ h9 => h9) (hF_8.at 7 rfl) dX14_layout_58 ?_
  refine lv_if_le (tgt := 70) hx hb dX14_layout_61 (by decide) (fun _ => ?_) (fun c_15 => absurd (by decide) c_15)
  refine lv_aload_n hx hb dX14_layout_70 rfl (lv_at hl 1 rfl) ?_
  refine va_get (D := (dC, dI)) (ci := 14) (v := .int 0) (C := RX14) (T := TX14) (N := 136) hx hb hts hin_X14 hown hK hP 0 rfl rfl 20 (by decide) (hts (.fieldLink RX14 416 "NeedHouseModel" "blocks" "I") (List.mem_of_getElem? (i := 7) rfl)) (fun _ h9 => h9) (hF_8.at 6 rfl) dX14_layout_71 ?_
  refine lv_if_le (tgt := 84) hx hb dX14_layout_74 (by decide) (fun _ => ?_) (fun c_16 => absurd (by decide) c_16)
  have hP9 := hP.sub (ws' := [(h0, .inr (14, fs_10)), (q1, .inl (cI, 4001, .inl f1))]) [0, 1] rfl
  have hD9 := hD.sub (ws' := [(h0, .inr (14, fs_10)), (q1, .inl (cI, 4001, .inl f1))]) [0, 1] (by decide) rfl
  have hK9 := hK.sub (tys' := [(cI, .int)]) [0] rfl
  exact W.vret hx hb hr (fun t ht hW => ⟨⟨(fs_10), rfl, hE_9.mono (by decide), by rw [ht]; exact hP9, va_K.moved hW.alike hK9, hD9⟩, hS.F ht⟩) hS.2.2 dX14_layout_84
def pw_c_X14_tells : List Cond := .code yX14_tells cX14_tells 3 none :: ([.fieldLink RX14 538 "NeedHouseModel" "bestToken" "I", .fieldLink RX14 541 "NeedHouseModel" "bestKind" "I"] ++ (wsX140 ++ []))
set_option maxHeartbeats 4000000 in
set_option maxRecDepth 100000 in
theorem c_X14_tells (l : Launch) (dC : Nat → ClassId) (dI : Nat → Nat → Nat) (sz : Nat) (h0 : Nat) (fs0 : List Value) (hF0 : hasF fs0 136 [(53, .int 1000000), (54, .int 0)]) : Met l yX14_tells pw_c_X14_tells ({ frames := 0, cells := 0, slots := 0, locals := 0 }) (va_Pc [.ref h0, .int 5, .int 0] (fun U => U.heap.size = sz ∧ va_P (dC, dI) vwCl [(h0, .inr (14, fs0))] U.heap ∧ va_K (dC, dI) vwCl [] U ∧ va_D (fun _ => True) [(h0, .inr (14, fs0))])) (va_Qv (fun (u : (List Value)) => hasF u 136 [(53, .int 0), (54, .int 5)] ∧ sameF fs0 u [53, 54]) (fun (u : (List Value)) (t : State) => va_P (dC, dI) vwCl [(h0, .inr (14, u))] t.heap ∧ va_K (dC, dI) vwCl [] t ∧ va_D (va_A [(h0, .inr (14, fs0))] sz) [(h0, .inr (14, u))]) (va_A [(h0, .inr (14, fs0))] sz)) 0 0 (va_A [(h0, .inr (14, fs0))] sz) := by
  refine Met.ofW (cc := cX14_tells) (maxL := 3) (ret := none) (by decide) rfl ?_
  intro p e s m args below meth c s₁ B hml hv
  obtain ⟨rfl, hsz, hP, hK, hD0⟩ := hv
  have hx := B.exec
  have hb := B.bytes
  have hr := B.returns
  have hts := atoms_spec (ws := pw_c_X14_tells) B.pre
  have hown : s.vm.findClass RX14 = some m.cls := findClass_of_methodNamed B.named
  have hlocks := B.notSynchronized
  have hin_X14 : ∀ w ∈ u_ws RX14 TX14 136, w ∈ pw_c_X14_tells := fun w h => List.mem_cons_of_mem _ (List.mem_append_right _ (List.mem_append_left _ h))
  subst hsz
  have hD := hD0.self (sz := s.heap.size)
  generalize hAe : va_A [(h0, .inr (14, fs0))] s.heap.size = A at hD ⊢
  have hA : ∀ q : Nat, s.heap.size ≤ q → A q := fun q h => by rw [← hAe]; exact Or.inr h
  have hS : va_S A s.heap s.heap [] := va_S.rf
  have hP : va_P (dC, dI) vwCl [(h0, .inr (14, fs0))] s.heap := hP
  have hl := lv_entry ([.ref h0, .int 5, .int 0]) (n := 3) (Nat.le_of_ble_eq_true rfl)
  rw [lg_entry_eq]
  generalize (lg_sl ([.ref h0, .int 5, .int 0]) ++ List.replicate (3 - (lg_sl ([.ref h0, .int 5, .int 0])).length) Slot.unset).toArray = ls at hl ⊢
  have hl : lv_has ls 3 [(0, .ref h0), (1, .int 5), (2, .int 0)] := hl
  refine lv_iload_n hx hb dX14_tells_0 rfl (lv_at hl 2 rfl) ?_
  refine lv_aload_n hx hb dX14_tells_1 rfl (lv_at hl 0 rfl) ?_
  refine va_get (D := (dC, dI)) (ci := 14) (v := .int 1000000) (C := RX14) (T := TX14) (N := 136) hx hb hts hin_X14 hown hK hP 0 rfl rfl 53 (by decide) (hts (.fieldLink RX14 538 "NeedHouseModel" "bestToken" "I") (List.mem_of_getElem? (i := 1) rfl)) (fun _ h9 => h9) (hF0.at 0 rfl) dX14_tells_2 ?_
  refine lv_icmp_lt (tgt := 24) hx hb dX14_tells_5 (by decide) (fun _ => ?_) (fun c_1 => absurd (by decide) c_1)
  refine lv_aload_n hx hb dX14_tells_24 rfl (lv_at hl 0 rfl) ?_
  refine lv_iload_n hx hb dX14_tells_25 rfl (lv_at hl 2 rfl) ?_
  refine va_put (D := (dC, dI)) (ci := 14) (v := .int 0) (ty := .int) (C := RX14) (T := TX14) (N := 136) hx hb hts hin_X14 tyX14 tyX14_ok nmX14 hown hK hP hD hS 0 rfl rfl 53 (by decide) (hts (.fieldLink RX14 538 "NeedHouseModel" "bestToken" "I") (List.mem_of_getElem? (i := 1) rfl)) (fun _ h9 => h9) rfl (by decide +kernel) rfl rfl (by rw [hF0.1]; decide) dX14_tells_26 (fun H locs hP hD hS => ?_)
  have hP : va_P (dC, dI) vwCl [(h0, .inr (14, (fs0.set 53 (.int 0))))] H := hP
  have hD : va_D A [(h0, .inr (14, (fs0.set 53 (.int 0))))] := hD
  have hF_2 := hF0.set 53 (.int 0) (l' := [(53, .int 0), (54, .int 0)]) (by decide) rfl
  have hE_3 := (sameF.rf (f := fs0)).set 53 (.int 0)
  generalize fs0.set 53 (.int 0) = fs_4 at hP hD hF_2 hE_3
  have hP : va_P (dC, dI) vwCl [(h0, .inr (14, fs_4))] H := hP
  have hD : va_D A [(h0, .inr (14, fs_4))] := hD
  refine lv_aload_n hx hb dX14_tells_29 rfl (lv_at hl 0 rfl) ?_
  refine lv_iload_n hx hb dX14_tells_30 rfl (lv_at hl 1 rfl) ?_
  refine va_put (D := (dC, dI)) (ci := 14) (v := .int 5) (ty := .int) (C := RX14) (T := TX14) (N := 136) hx hb hts hin_X14 tyX14 tyX14_ok nmX14 hown hK hP hD hS 0 rfl rfl 54 (by decide) (hts (.fieldLink RX14 541 "NeedHouseModel" "bestKind" "I") (List.mem_of_getElem? (i := 2) rfl)) (fun _ h9 => h9) rfl (by decide +kernel) rfl rfl (by rw [hF_2.1]; decide) dX14_tells_31 (fun H locs hP hD hS => ?_)
  have hP : va_P (dC, dI) vwCl [(h0, .inr (14, (fs_4.set 54 (.int 5))))] H := hP
  have hD : va_D A [(h0, .inr (14, (fs_4.set 54 (.int 5))))] := hD
  have hF_5 := hF_2.set 54 (.int 5) (l' := [(54, .int 5), (53, .int 0)]) (by decide) rfl
  have hE_6 := hE_3.set 54 (.int 5)
  generalize fs_4.set 54 (.int 5) = fs_7 at hP hD hF_5 hE_6
  have hP : va_P (dC, dI) vwCl [(h0, .inr (14, fs_7))] H := hP
  have hD : va_D A [(h0, .inr (14, fs_7))] := hD
  have hP9 := hP.sub (ws' := [(h0, .inr (14, fs_7))]) [0] rfl
  have hD9 := hD.sub (ws' := [(h0, .inr (14, fs_7))]) [0] (by decide) rfl
  have hK9 := hK.sub (tys' := []) [] rfl
  exact W.vret hx hb hr (fun t ht hW => ⟨⟨(fs_7), rfl, ⟨hF_5.sub [1, 0] rfl, hE_6.mono (by decide)⟩, by rw [ht]; exact hP9, va_K.moved hW.alike hK9, hD9⟩, hS.F ht⟩) hS.2.2 dX14_tells_34
def pw_c_X14_limit : List Cond := .code yX14_limit cX14_limit 2 none :: ([.fieldLink RX14 568 "NeedHouseModel" "tooMuch" "Z"] ++ (wsX140 ++ []))
set_option maxHeartbeats 4000000 in
set_option maxRecDepth 100000 in
theorem c_X14_limit (l : Launch) (dC : Nat → ClassId) (dI : Nat → Nat → Nat) (sz : Nat) (h0 : Nat) (fs0 : List Value) (hF0 : hasF fs0 136 [(55, .int 0)]) : Met l yX14_limit pw_c_X14_limit ({ frames := 0, cells := 0, slots := 0, locals := 0 }) (va_Pc [.ref h0, .int 0] (fun U => U.heap.size = sz ∧ va_P (dC, dI) vwCl [(h0, .inr (14, fs0))] U.heap ∧ va_K (dC, dI) vwCl [] U ∧ va_D (fun _ => True) [(h0, .inr (14, fs0))])) (va_Qv (fun (u : (List Value)) => hasF u 136 [(55, .int 0)] ∧ sameF fs0 u [55]) (fun (u : (List Value)) (t : State) => va_P (dC, dI) vwCl [(h0, .inr (14, u))] t.heap ∧ va_K (dC, dI) vwCl [] t ∧ va_D (va_A [(h0, .inr (14, fs0))] sz) [(h0, .inr (14, u))]) (va_A [(h0, .inr (14, fs0))] sz)) 0 0 (va_A [(h0, .inr (14, fs0))] sz) := by
  refine Met.ofW (cc := cX14_limit) (maxL := 2) (ret := none) (by decide) rfl ?_
  intro p e s m args below meth c s₁ B hml hv
  obtain ⟨rfl, hsz, hP, hK, hD0⟩ := hv
  have hx := B.exec
  have hb := B.bytes
  have hr := B.returns
  have hts := atoms_spec (ws := pw_c_X14_limit) B.pre
  have hown : s.vm.findClass RX14 = some m.cls := findClass_of_methodNamed B.named
  have hlocks := B.notSynchronized
  have hin_X14 : ∀ w ∈ u_ws RX14 TX14 136, w ∈ pw_c_X14_limit := fun w h => List.mem_cons_of_mem _ (List.mem_append_right _ (List.mem_append_left _ h))
  subst hsz
  have hD := hD0.self (sz := s.heap.size)
  generalize hAe : va_A [(h0, .inr (14, fs0))] s.heap.size = A at hD ⊢
  have hA : ∀ q : Nat, s.heap.size ≤ q → A q := fun q h => by rw [← hAe]; exact Or.inr h
  have hS : va_S A s.heap s.heap [] := va_S.rf
  have hP : va_P (dC, dI) vwCl [(h0, .inr (14, fs0))] s.heap := hP
  have hl := lv_entry ([.ref h0, .int 0]) (n := 2) (Nat.le_of_ble_eq_true rfl)
  rw [lg_entry_eq]
  generalize (lg_sl ([.ref h0, .int 0]) ++ List.replicate (2 - (lg_sl ([.ref h0, .int 0])).length) Slot.unset).toArray = ls at hl ⊢
  have hl : lv_has ls 2 [(0, .ref h0), (1, .int 0)] := hl
  refine lv_aload_n hx hb dX14_limit_0 rfl (lv_at hl 0 rfl) ?_
  refine lv_aload_n hx hb dX14_limit_1 rfl (lv_at hl 0 rfl) ?_
  refine va_get (D := (dC, dI)) (ci := 14) (v := .int 0) (C := RX14) (T := TX14) (N := 136) hx hb hts hin_X14 hown hK hP 0 rfl rfl 55 (by decide) (hts (.fieldLink RX14 568 "NeedHouseModel" "tooMuch" "Z") (List.mem_of_getElem? (i := 1) rfl)) (fun _ h9 => h9) (hF0.at 0 rfl) dX14_limit_2 ?_
  refine lv_if_ne (tgt := 12) hx hb dX14_limit_5 (by decide) (fun c_1 => absurd c_1 (by decide)) (fun _ => ?_)
  refine lv_iload_n hx hb dX14_limit_8 rfl (lv_at hl 1 rfl) ?_
  refine lv_if_eq (tgt := 16) hx hb dX14_limit_9 (by decide) (fun _ => ?_) (fun c_2 => absurd (by decide) c_2)
  refine lv_iconst (v := 0) hx hb dX14_limit_16 (by decide) ?_
  refine va_put (D := (dC, dI)) (ci := 14) (v := .int 0) (ty := .boolean) (C := RX14) (T := TX14) (N := 136) hx hb hts hin_X14 tyX14 tyX14_ok nmX14 hown hK hP hD hS 0 rfl rfl 55 (by decide) (hts (.fieldLink RX14 568 "NeedHouseModel" "tooMuch" "Z") (List.mem_of_getElem? (i := 1) rfl)) (fun _ h9 => h9) rfl (by decide +kernel) rfl rfl (by rw [hF0.1]; decide) dX14_limit_17 (fun H locs hP hD hS => ?_)
  have hP : va_P (dC, dI) vwCl [(h0, .inr (14, (fs0.set 55 (.int 0))))] H := hP
  have hD : va_D A [(h0, .inr (14, (fs0.set 55 (.int 0))))] := hD
  have hF_3 := hF0.set 55 (.int 0) (l' := [(55, .int 0)]) (by decide) rfl
  have hE_4 := (sameF.rf (f := fs0)).set 55 (.int 0)
  generalize fs0.set 55 (.int 0) = fs_5 at hP hD hF_3 hE_4
  have hP : va_P (dC, dI) vwCl [(h0, .inr (14, fs_5))] H := hP
  have hD : va_D A [(h0, .inr (14, fs_5))] := hD
  have hP9 := hP.sub (ws' := [(h0, .inr (14, fs_5))]) [0] rfl
  have hD9 := hD.sub (ws' := [(h0, .inr (14, fs_5))]) [0] (by decide) rfl
  have hK9 := hK.sub (tys' := []) [] rfl
  exact W.vret hx hb hr (fun t ht hW => ⟨⟨(fs_5), rfl, ⟨hF_3.sub [0] rfl, hE_4.mono (by decide)⟩, by rw [ht]; exact hP9, va_K.moved hW.alike hK9, hD9⟩, hS.F ht⟩) hS.2.2 dX14_limit_20
