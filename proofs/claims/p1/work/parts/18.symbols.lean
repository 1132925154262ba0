theorem dX2_newSymbol_0 : decode cX2_newSymbol 0 = .ok (.aload_n 0, 1) := by decide +kernel
theorem dX2_newSymbol_1 : decode cX2_newSymbol 1 = .ok (.getfield 106, 3) := by decide +kernel
theorem dX2_newSymbol_4 : decode cX2_newSymbol 4 = .ok (.sipush 2100, 3) := by decide +kernel
theorem dX2_newSymbol_7 : decode cX2_newSymbol 7 = .ok (.if_icmp .lt 5, 3) := by decide +kernel
theorem dX2_newSymbol_10 : decode cX2_newSymbol 10 = .ok (.iconst 0, 1) := by decide +kernel
theorem dX2_newSymbol_11 : decode cX2_newSymbol 11 = .ok (.ireturn, 1) := by decide +kernel
theorem dX2_newSymbol_12 : decode cX2_newSymbol 12 = .ok (.aload_n 0, 1) := by decide +kernel
theorem dX2_newSymbol_13 : decode cX2_newSymbol 13 = .ok (.getfield 24, 3) := by decide +kernel
theorem dX2_newSymbol_16 : decode cX2_newSymbol 16 = .ok (.aload_n 0, 1) := by decide +kernel
theorem dX2_newSymbol_17 : decode cX2_newSymbol 17 = .ok (.getfield 106, 3) := by decide +kernel
theorem dX2_newSymbol_20 : decode cX2_newSymbol 20 = .ok (.lload_n 2, 1) := by decide +kernel
theorem dX2_newSymbol_21 : decode cX2_newSymbol 21 = .ok (.lastore, 1) := by decide +kernel
theorem dX2_newSymbol_22 : decode cX2_newSymbol 22 = .ok (.aload_n 0, 1) := by decide +kernel
theorem dX2_newSymbol_23 : decode cX2_newSymbol 23 = .ok (.getfield 28, 3) := by decide +kernel
theorem dX2_newSymbol_26 : decode cX2_newSymbol 26 = .ok (.aload_n 0, 1) := by decide +kernel
theorem dX2_newSymbol_27 : decode cX2_newSymbol 27 = .ok (.getfield 106, 3) := by decide +kernel
theorem dX2_newSymbol_30 : decode cX2_newSymbol 30 = .ok (.lload 4, 2) := by decide +kernel
theorem dX2_newSymbol_32 : decode cX2_newSymbol 32 = .ok (.lastore, 1) := by decide +kernel
theorem dX2_newSymbol_33 : decode cX2_newSymbol 33 = .ok (.aload_n 0, 1) := by decide +kernel
theorem dX2_newSymbol_34 : decode cX2_newSymbol 34 = .ok (.dup, 1) := by decide +kernel
theorem dX2_newSymbol_35 : decode cX2_newSymbol 35 = .ok (.getfield 106, 3) := by decide +kernel
theorem dX2_newSymbol_38 : decode cX2_newSymbol 38 = .ok (.iconst 1, 1) := by decide +kernel
theorem dX2_newSymbol_39 : decode cX2_newSymbol 39 = .ok (.iadd, 1) := by decide +kernel
theorem dX2_newSymbol_40 : decode cX2_newSymbol 40 = .ok (.putfield 106, 3) := by decide +kernel
theorem dX2_newSymbol_43 : decode cX2_newSymbol 43 = .ok (.aload_n 0, 1) := by decide +kernel
theorem dX2_newSymbol_44 : decode cX2_newSymbol 44 = .ok (.getfield 31, 3) := by decide +kernel
theorem dX2_newSymbol_47 : decode cX2_newSymbol 47 = .ok (.iload_n 1, 1) := by decide +kernel
theorem dX2_newSymbol_48 : decode cX2_newSymbol 48 = .ok (.aload_n 0, 1) := by decide +kernel
theorem dX2_newSymbol_49 : decode cX2_newSymbol 49 = .ok (.getfield 106, 3) := by decide +kernel
theorem dX2_newSymbol_52 : decode cX2_newSymbol 52 = .ok (.iastore, 1) := by decide +kernel
theorem dX2_newSymbol_53 : decode cX2_newSymbol 53 = .ok (.aload_n 0, 1) := by decide +kernel
theorem dX2_newSymbol_54 : decode cX2_newSymbol 54 = .ok (.getfield 106, 3) := by decide +kernel
theorem dX2_newSymbol_57 : decode cX2_newSymbol 57 = .ok (.iconst 1, 1) := by decide +kernel
theorem dX2_newSymbol_58 : decode cX2_newSymbol 58 = .ok (.isub, 1) := by decide +kernel
theorem dX2_newSymbol_59 : decode cX2_newSymbol 59 = .ok (.ireturn, 1) := by decide +kernel
theorem dX2_symbolOf_0 : decode cX2_symbolOf 0 = .ok (.lload_n 1, 1) := by decide +kernel
theorem dX2_symbolOf_1 : decode cX2_symbolOf 1 = .ok (.ldc2_w 111, 3) := by decide +kernel
theorem dX2_symbolOf_4 : decode cX2_symbolOf 4 = .ok (.lmul, 1) := by decide +kernel
theorem dX2_symbolOf_5 : decode cX2_symbolOf 5 = .ok (.lload_n 3, 1) := by decide +kernel
theorem dX2_symbolOf_6 : decode cX2_symbolOf 6 = .ok (.ladd, 1) := by decide +kernel
theorem dX2_symbolOf_7 : decode cX2_symbolOf 7 = .ok (.ldc2_w 113, 3) := by decide +kernel
theorem dX2_symbolOf_10 : decode cX2_symbolOf 10 = .ok (.lmul, 1) := by decide +kernel
theorem dX2_symbolOf_11 : decode cX2_symbolOf 11 = .ok (.lstore 5, 2) := by decide +kernel
theorem dX2_symbolOf_13 : decode cX2_symbolOf 13 = .ok (.lload 5, 2) := by decide +kernel
theorem dX2_symbolOf_15 : decode cX2_symbolOf 15 = .ok (.bipush 51, 2) := by decide +kernel
theorem dX2_symbolOf_17 : decode cX2_symbolOf 17 = .ok (.lushr, 1) := by decide +kernel
theorem dX2_symbolOf_18 : decode cX2_symbolOf 18 = .ok (.l2i, 1) := by decide +kernel
theorem dX2_symbolOf_19 : decode cX2_symbolOf 19 = .ok (.istore 7, 2) := by decide +kernel
theorem dX2_symbolOf_21 : decode cX2_symbolOf 21 = .ok (.iconst 0, 1) := by decide +kernel
theorem dX2_symbolOf_22 : decode cX2_symbolOf 22 = .ok (.istore 8, 2) := by decide +kernel
theorem dX2_symbolOf_24 : decode cX2_symbolOf 24 = .ok (.iload 8, 2) := by decide +kernel
theorem dX2_symbolOf_26 : decode cX2_symbolOf 26 = .ok (.sipush 8192, 3) := by decide +kernel
theorem dX2_symbolOf_29 : decode cX2_symbolOf 29 = .ok (.if_icmp .ge 72, 3) := by decide +kernel
theorem dX2_symbolOf_32 : decode cX2_symbolOf 32 = .ok (.iload 7, 2) := by decide +kernel
theorem dX2_symbolOf_34 : decode cX2_symbolOf 34 = .ok (.iload 8, 2) := by decide +kernel
theorem dX2_symbolOf_36 : decode cX2_symbolOf 36 = .ok (.iadd, 1) := by decide +kernel
theorem dX2_symbolOf_37 : decode cX2_symbolOf 37 = .ok (.sipush 8191, 3) := by decide +kernel
theorem dX2_symbolOf_40 : decode cX2_symbolOf 40 = .ok (.iand, 1) := by decide +kernel
theorem dX2_symbolOf_41 : decode cX2_symbolOf 41 = .ok (.istore 9, 2) := by decide +kernel
theorem dX2_symbolOf_43 : decode cX2_symbolOf 43 = .ok (.aload_n 0, 1) := by decide +kernel
theorem dX2_symbolOf_44 : decode cX2_symbolOf 44 = .ok (.getfield 31, 3) := by decide +kernel
theorem dX2_symbolOf_47 : decode cX2_symbolOf 47 = .ok (.iload 9, 2) := by decide +kernel
theorem dX2_symbolOf_49 : decode cX2_symbolOf 49 = .ok (.iaload, 1) := by decide +kernel
theorem dX2_symbolOf_50 : decode cX2_symbolOf 50 = .ok (.iconst 1, 1) := by decide +kernel
theorem dX2_symbolOf_51 : decode cX2_symbolOf 51 = .ok (.isub, 1) := by decide +kernel
theorem dX2_symbolOf_52 : decode cX2_symbolOf 52 = .ok (.istore 10, 2) := by decide +kernel
theorem dX2_symbolOf_54 : decode cX2_symbolOf 54 = .ok (.iload 10, 2) := by decide +kernel
theorem dX2_symbolOf_56 : decode cX2_symbolOf 56 = .ok (.ifCond .ge 12, 3) := by decide +kernel
theorem dX2_symbolOf_59 : decode cX2_symbolOf 59 = .ok (.aload_n 0, 1) := by decide +kernel
theorem dX2_symbolOf_60 : decode cX2_symbolOf 60 = .ok (.iload 9, 2) := by decide +kernel
theorem dX2_symbolOf_62 : decode cX2_symbolOf 62 = .ok (.lload_n 1, 1) := by decide +kernel
theorem dX2_symbolOf_63 : decode cX2_symbolOf 63 = .ok (.lload_n 3, 1) := by decide +kernel
theorem dX2_symbolOf_64 : decode cX2_symbolOf 64 = .ok (.invokevirtual 115, 3) := by decide +kernel
theorem dX2_symbolOf_67 : decode cX2_symbolOf 67 = .ok (.ireturn, 1) := by decide +kernel
theorem dX2_symbolOf_68 : decode cX2_symbolOf 68 = .ok (.aload_n 0, 1) := by decide +kernel
theorem dX2_symbolOf_69 : decode cX2_symbolOf 69 = .ok (.getfield 24, 3) := by decide +kernel
theorem dX2_symbolOf_72 : decode cX2_symbolOf 72 = .ok (.iload 10, 2) := by decide +kernel
theorem dX2_symbolOf_74 : decode cX2_symbolOf 74 = .ok (.laload, 1) := by decide +kernel
theorem dX2_symbolOf_75 : decode cX2_symbolOf 75 = .ok (.lload_n 1, 1) := by decide +kernel
theorem dX2_symbolOf_76 : decode cX2_symbolOf 76 = .ok (.lcmp, 1) := by decide +kernel
theorem dX2_symbolOf_77 : decode cX2_symbolOf 77 = .ok (.ifCond .ne 18, 3) := by decide +kernel
theorem dX2_symbolOf_80 : decode cX2_symbolOf 80 = .ok (.aload_n 0, 1) := by decide +kernel
theorem dX2_symbolOf_81 : decode cX2_symbolOf 81 = .ok (.getfield 28, 3) := by decide +kernel
theorem dX2_symbolOf_84 : decode cX2_symbolOf 84 = .ok (.iload 10, 2) := by decide +kernel
theorem dX2_symbolOf_86 : decode cX2_symbolOf 86 = .ok (.laload, 1) := by decide +kernel
theorem dX2_symbolOf_87 : decode cX2_symbolOf 87 = .ok (.lload_n 3, 1) := by decide +kernel
theorem dX2_symbolOf_88 : decode cX2_symbolOf 88 = .ok (.lcmp, 1) := by decide +kernel
theorem dX2_symbolOf_89 : decode cX2_symbolOf 89 = .ok (.ifCond .ne 6, 3) := by decide +kernel
theorem dX2_symbolOf_92 : decode cX2_symbolOf 92 = .ok (.iload 10, 2) := by decide +kernel
theorem dX2_symbolOf_94 : decode cX2_symbolOf 94 = .ok (.ireturn, 1) := by decide +kernel
theorem dX2_symbolOf_95 : decode cX2_symbolOf 95 = .ok (.iinc 8 1, 3) := by decide +kernel
theorem dX2_symbolOf_98 : decode cX2_symbolOf 98 = .ok (.goto (-74), 3) := by decide +kernel
theorem dX2_symbolOf_101 : decode cX2_symbolOf 101 = .ok (.iconst 0, 1) := by decide +kernel
theorem dX2_symbolOf_102 : decode cX2_symbolOf 102 = .ok (.ireturn, 1) := by decide +kernel
theorem dX2_learnKnown_0 : decode cX2_learnKnown 0 = .ok (.aload_n 0, 1) := by decide +kernel
theorem dX2_learnKnown_1 : decode cX2_learnKnown 1 = .ok (.getfield 31, 3) := by decide +kernel
theorem dX2_learnKnown_4 : decode cX2_learnKnown 4 = .ok (.iconst 0, 1) := by decide +kernel
theorem dX2_learnKnown_5 : decode cX2_learnKnown 5 = .ok (.invokestatic 100, 3) := by decide +kernel
theorem dX2_learnKnown_8 : decode cX2_learnKnown 8 = .ok (.aload_n 0, 1) := by decide +kernel
theorem dX2_learnKnown_9 : decode cX2_learnKnown 9 = .ok (.iconst 0, 1) := by decide +kernel
theorem dX2_learnKnown_10 : decode cX2_learnKnown 10 = .ok (.putfield 106, 3) := by decide +kernel
theorem dX2_learnKnown_13 : decode cX2_learnKnown 13 = .ok (.lconst 0, 1) := by decide +kernel
theorem dX2_learnKnown_14 : decode cX2_learnKnown 14 = .ok (.lstore_n 1, 1) := by decide +kernel
theorem dX2_learnKnown_15 : decode cX2_learnKnown 15 = .ok (.iconst 0, 1) := by decide +kernel
theorem dX2_learnKnown_16 : decode cX2_learnKnown 16 = .ok (.istore_n 3, 1) := by decide +kernel
theorem dX2_learnKnown_17 : decode cX2_learnKnown 17 = .ok (.iconst 0, 1) := by decide +kernel
theorem dX2_learnKnown_18 : decode cX2_learnKnown 18 = .ok (.istore 4, 2) := by decide +kernel
theorem dX2_learnKnown_20 : decode cX2_learnKnown 20 = .ok (.iload 4, 2) := by decide +kernel
theorem dX2_learnKnown_22 : decode cX2_learnKnown 22 = .ok (.ldc 109, 2) := by decide +kernel
theorem dX2_learnKnown_24 : decode cX2_learnKnown 24 = .ok (.invokevirtual 73, 3) := by decide +kernel
theorem dX2_learnKnown_27 : decode cX2_learnKnown 27 = .ok (.if_icmp .ge 56, 3) := by decide +kernel
theorem dX2_learnKnown_30 : decode cX2_learnKnown 30 = .ok (.ldc 109, 2) := by decide +kernel
theorem dX2_learnKnown_32 : decode cX2_learnKnown 32 = .ok (.iload 4, 2) := by decide +kernel
theorem dX2_learnKnown_34 : decode cX2_learnKnown 34 = .ok (.invokevirtual 79, 3) := by decide +kernel
theorem dX2_learnKnown_37 : decode cX2_learnKnown 37 = .ok (.istore 5, 2) := by decide +kernel
theorem dX2_learnKnown_39 : decode cX2_learnKnown 39 = .ok (.iload 5, 2) := by decide +kernel
theorem dX2_learnKnown_41 : decode cX2_learnKnown 41 = .ok (.bipush 32, 2) := by decide +kernel
theorem dX2_learnKnown_43 : decode cX2_learnKnown 43 = .ok (.if_icmp .ne 17, 3) := by decide +kernel
theorem dX2_learnKnown_46 : decode cX2_learnKnown 46 = .ok (.aload_n 0, 1) := by decide +kernel
theorem dX2_learnKnown_47 : decode cX2_learnKnown 47 = .ok (.lload_n 1, 1) := by decide +kernel
theorem dX2_learnKnown_48 : decode cX2_learnKnown 48 = .ok (.lconst 0, 1) := by decide +kernel
theorem dX2_learnKnown_49 : decode cX2_learnKnown 49 = .ok (.invokevirtual 92, 3) := by decide +kernel
theorem dX2_learnKnown_52 : decode cX2_learnKnown 52 = .ok (.pop, 1) := by decide +kernel
theorem dX2_learnKnown_53 : decode cX2_learnKnown 53 = .ok (.lconst 0, 1) := by decide +kernel
theorem dX2_learnKnown_54 : decode cX2_learnKnown 54 = .ok (.lstore_n 1, 1) := by decide +kernel
theorem dX2_learnKnown_55 : decode cX2_learnKnown 55 = .ok (.iconst 0, 1) := by decide +kernel
theorem dX2_learnKnown_56 : decode cX2_learnKnown 56 = .ok (.istore_n 3, 1) := by decide +kernel
theorem dX2_learnKnown_57 : decode cX2_learnKnown 57 = .ok (.goto 20, 3) := by decide +kernel
theorem dX2_learnKnown_60 : decode cX2_learnKnown 60 = .ok (.lload_n 1, 1) := by decide +kernel
theorem dX2_learnKnown_61 : decode cX2_learnKnown 61 = .ok (.iload 5, 2) := by decide +kernel
theorem dX2_learnKnown_63 : decode cX2_learnKnown 63 = .ok (.i2l, 1) := by decide +kernel
theorem dX2_learnKnown_64 : decode cX2_learnKnown 64 = .ok (.bipush 56, 2) := by decide +kernel
theorem dX2_learnKnown_66 : decode cX2_learnKnown 66 = .ok (.bipush 8, 2) := by decide +kernel
theorem dX2_learnKnown_68 : decode cX2_learnKnown 68 = .ok (.iload_n 3, 1) := by decide +kernel
theorem dX2_learnKnown_69 : decode cX2_learnKnown 69 = .ok (.imul, 1) := by decide +kernel
theorem dX2_learnKnown_70 : decode cX2_learnKnown 70 = .ok (.isub, 1) := by decide +kernel
theorem dX2_learnKnown_71 : decode cX2_learnKnown 71 = .ok (.lshl, 1) := by decide +kernel
theorem dX2_learnKnown_72 : decode cX2_learnKnown 72 = .ok (.lor, 1) := by decide +kernel
theorem dX2_learnKnown_73 : decode cX2_learnKnown 73 = .ok (.lstore_n 1, 1) := by decide +kernel
theorem dX2_learnKnown_74 : decode cX2_learnKnown 74 = .ok (.iinc 3 1, 3) := by decide +kernel
theorem dX2_learnKnown_77 : decode cX2_learnKnown 77 = .ok (.iinc 4 1, 3) := by decide +kernel
theorem dX2_learnKnown_80 : decode cX2_learnKnown 80 = .ok (.goto (-60), 3) := by decide +kernel
theorem dX2_learnKnown_83 : decode cX2_learnKnown 83 = .ok (.return_, 1) := by decide +kernel
theorem dX2_scan_0 : decode cX2_scan 0 = .ok (.aload_n 0, 1) := by decide +kernel
theorem dX2_scan_1 : decode cX2_scan 1 = .ok (.iconst 0, 1) := by decide +kernel
theorem dX2_scan_2 : decode cX2_scan 2 = .ok (.putfield 34, 3) := by decide +kernel
theorem dX2_scan_5 : decode cX2_scan 5 = .ok (.aload_n 0, 1) := by decide +kernel
theorem dX2_scan_6 : decode cX2_scan 6 = .ok (.iconst 0, 1) := by decide +kernel
theorem dX2_scan_7 : decode cX2_scan 7 = .ok (.putfield 38, 3) := by decide +kernel
theorem dX2_scan_10 : decode cX2_scan 10 = .ok (.aload_n 0, 1) := by decide +kernel
theorem dX2_scan_11 : decode cX2_scan 11 = .ok (.invokevirtual 41, 3) := by decide +kernel
theorem dX2_scan_14 : decode cX2_scan 14 = .ok (.iconst 0, 1) := by decide +kernel
theorem dX2_scan_15 : decode cX2_scan 15 = .ok (.istore_n 3, 1) := by decide +kernel
theorem dX2_scan_16 : decode cX2_scan 16 = .ok (.iconst 1, 1) := by decide +kernel
theorem dX2_scan_17 : decode cX2_scan 17 = .ok (.istore 4, 2) := by decide +kernel
theorem dX2_scan_19 : decode cX2_scan 19 = .ok (.iconst 0, 1) := by decide +kernel
theorem dX2_scan_20 : decode cX2_scan 20 = .ok (.istore 5, 2) := by decide +kernel
theorem dX2_scan_22 : decode cX2_scan 22 = .ok (.iconst 0, 1) := by decide +kernel
theorem dX2_scan_23 : decode cX2_scan 23 = .ok (.istore 6, 2) := by decide +kernel
theorem dX2_scan_25 : decode cX2_scan 25 = .ok (.iload 6, 2) := by decide +kernel
theorem dX2_scan_27 : decode cX2_scan 27 = .ok (.sipush 4000, 3) := by decide +kernel
theorem dX2_scan_30 : decode cX2_scan 30 = .ok (.if_icmp .gt 133, 3) := by decide +kernel
theorem dX2_scan_33 : decode cX2_scan 33 = .ok (.iload_n 3, 1) := by decide +kernel
theorem dX2_scan_34 : decode cX2_scan 34 = .ok (.iload_n 2, 1) := by decide +kernel
theorem dX2_scan_35 : decode cX2_scan 35 = .ok (.if_icmp .ge 128, 3) := by decide +kernel
theorem dX2_scan_38 : decode cX2_scan 38 = .ok (.aload_n 1, 1) := by decide +kernel
theorem dX2_scan_39 : decode cX2_scan 39 = .ok (.iload_n 3, 1) := by decide +kernel
theorem dX2_scan_40 : decode cX2_scan 40 = .ok (.baload, 1) := by decide +kernel
theorem dX2_scan_41 : decode cX2_scan 41 = .ok (.istore 7, 2) := by decide +kernel
theorem dX2_scan_43 : decode cX2_scan 43 = .ok (.iload 7, 2) := by decide +kernel
theorem dX2_scan_45 : decode cX2_scan 45 = .ok (.bipush 10, 2) := by decide +kernel
theorem dX2_scan_47 : decode cX2_scan 47 = .ok (.if_icmp .ne 15, 3) := by decide +kernel
theorem dX2_scan_50 : decode cX2_scan 50 = .ok (.iinc 3 1, 3) := by decide +kernel
theorem dX2_scan_53 : decode cX2_scan 53 = .ok (.iinc 4 1, 3) := by decide +kernel
theorem dX2_scan_56 : decode cX2_scan 56 = .ok (.iload_n 3, 1) := by decide +kernel
theorem dX2_scan_57 : decode cX2_scan 57 = .ok (.istore 5, 2) := by decide +kernel
theorem dX2_scan_59 : decode cX2_scan 59 = .ok (.goto 98, 3) := by decide +kernel
theorem dX2_scan_62 : decode cX2_scan 62 = .ok (.iload 7, 2) := by decide +kernel
theorem dX2_scan_64 : decode cX2_scan 64 = .ok (.bipush 32, 2) := by decide +kernel
theorem dX2_scan_66 : decode cX2_scan 66 = .ok (.if_icmp .ne 9, 3) := by decide +kernel
theorem dX2_scan_69 : decode cX2_scan 69 = .ok (.iinc 3 1, 3) := by decide +kernel
theorem dX2_scan_72 : decode cX2_scan 72 = .ok (.goto 85, 3) := by decide +kernel
theorem dX2_scan_75 : decode cX2_scan 75 = .ok (.aload_n 1, 1) := by decide +kernel
theorem dX2_scan_76 : decode cX2_scan 76 = .ok (.iload_n 3, 1) := by decide +kernel
theorem dX2_scan_77 : decode cX2_scan 77 = .ok (.iload_n 2, 1) := by decide +kernel
theorem dX2_scan_78 : decode cX2_scan 78 = .ok (.bipush 45, 2) := by decide +kernel
theorem dX2_scan_80 : decode cX2_scan 80 = .ok (.bipush 45, 2) := by decide +kernel
theorem dX2_scan_82 : decode cX2_scan 82 = .ok (.invokestatic 44, 3) := by decide +kernel
theorem dX2_scan_85 : decode cX2_scan 85 = .ok (.ifCond .eq 13, 3) := by decide +kernel
theorem dX2_scan_88 : decode cX2_scan 88 = .ok (.aload_n 1, 1) := by decide +kernel
theorem dX2_scan_89 : decode cX2_scan 89 = .ok (.iload_n 3, 1) := by decide +kernel
theorem dX2_scan_90 : decode cX2_scan 90 = .ok (.iload_n 2, 1) := by decide +kernel
theorem dX2_scan_91 : decode cX2_scan 91 = .ok (.invokestatic 48, 3) := by decide +kernel
theorem dX2_scan_94 : decode cX2_scan 94 = .ok (.istore_n 3, 1) := by decide +kernel
theorem dX2_scan_95 : decode cX2_scan 95 = .ok (.goto 62, 3) := by decide +kernel
theorem dX2_scan_98 : decode cX2_scan 98 = .ok (.aload_n 0, 1) := by decide +kernel
theorem dX2_scan_99 : decode cX2_scan 99 = .ok (.getfield 15, 3) := by decide +kernel
theorem dX2_scan_102 : decode cX2_scan 102 = .ok (.aload_n 0, 1) := by decide +kernel
theorem dX2_scan_103 : decode cX2_scan 103 = .ok (.getfield 34, 3) := by decide +kernel
theorem dX2_scan_106 : decode cX2_scan 106 = .ok (.iload 4, 2) := by decide +kernel
theorem dX2_scan_108 : decode cX2_scan 108 = .ok (.iastore, 1) := by decide +kernel
theorem dX2_scan_109 : decode cX2_scan 109 = .ok (.aload_n 0, 1) := by decide +kernel
theorem dX2_scan_110 : decode cX2_scan 110 = .ok (.getfield 18, 3) := by decide +kernel
theorem dX2_scan_113 : decode cX2_scan 113 = .ok (.aload_n 0, 1) := by decide +kernel
theorem dX2_scan_114 : decode cX2_scan 114 = .ok (.getfield 34, 3) := by decide +kernel
theorem dX2_scan_117 : decode cX2_scan 117 = .ok (.iload_n 3, 1) := by decide +kernel
theorem dX2_scan_118 : decode cX2_scan 118 = .ok (.iload 5, 2) := by decide +kernel
theorem dX2_scan_120 : decode cX2_scan 120 = .ok (.isub, 1) := by decide +kernel
theorem dX2_scan_121 : decode cX2_scan 121 = .ok (.iastore, 1) := by decide +kernel
theorem dX2_scan_122 : decode cX2_scan 122 = .ok (.aload_n 0, 1) := by decide +kernel
theorem dX2_scan_123 : decode cX2_scan 123 = .ok (.aload_n 1, 1) := by decide +kernel
theorem dX2_scan_124 : decode cX2_scan 124 = .ok (.iload_n 3, 1) := by decide +kernel
theorem dX2_scan_125 : decode cX2_scan 125 = .ok (.iload_n 2, 1) := by decide +kernel
theorem dX2_scan_126 : decode cX2_scan 126 = .ok (.invokevirtual 52, 3) := by decide +kernel
theorem dX2_scan_129 : decode cX2_scan 129 = .ok (.istore_n 3, 1) := by decide +kernel
theorem dX2_scan_130 : decode cX2_scan 130 = .ok (.aload_n 0, 1) := by decide +kernel
theorem dX2_scan_131 : decode cX2_scan 131 = .ok (.dup, 1) := by decide +kernel
theorem dX2_scan_132 : decode cX2_scan 132 = .ok (.getfield 34, 3) := by decide +kernel
theorem dX2_scan_135 : decode cX2_scan 135 = .ok (.iconst 1, 1) := by decide +kernel
theorem dX2_scan_136 : decode cX2_scan 136 = .ok (.iadd, 1) := by decide +kernel
theorem dX2_scan_137 : decode cX2_scan 137 = .ok (.putfield 34, 3) := by decide +kernel
theorem dX2_scan_140 : decode cX2_scan 140 = .ok (.aload_n 0, 1) := by decide +kernel
theorem dX2_scan_141 : decode cX2_scan 141 = .ok (.getfield 11, 3) := by decide +kernel
theorem dX2_scan_144 : decode cX2_scan 144 = .ok (.aload_n 0, 1) := by decide +kernel
theorem dX2_scan_145 : decode cX2_scan 145 = .ok (.getfield 34, 3) := by decide +kernel
theorem dX2_scan_148 : decode cX2_scan 148 = .ok (.iconst 1, 1) := by decide +kernel
theorem dX2_scan_149 : decode cX2_scan 149 = .ok (.isub, 1) := by decide +kernel
theorem dX2_scan_150 : decode cX2_scan 150 = .ok (.iaload, 1) := by decide +kernel
theorem dX2_scan_151 : decode cX2_scan 151 = .ok (.iconst 1, 1) := by decide +kernel
theorem dX2_scan_152 : decode cX2_scan 152 = .ok (.if_icmp .ne 5, 3) := by decide +kernel
theorem dX2_scan_155 : decode cX2_scan 155 = .ok (.iload_n 2, 1) := by decide +kernel
theorem dX2_scan_156 : decode cX2_scan 156 = .ok (.istore_n 3, 1) := by decide +kernel
theorem dX2_scan_157 : decode cX2_scan 157 = .ok (.iinc 6 1, 3) := by decide +kernel
theorem dX2_scan_160 : decode cX2_scan 160 = .ok (.goto (-135), 3) := by decide +kernel
theorem dX2_scan_163 : decode cX2_scan 163 = .ok (.aload_n 0, 1) := by decide +kernel
theorem dX2_scan_164 : decode cX2_scan 164 = .ok (.getfield 11, 3) := by decide +kernel
theorem dX2_scan_167 : decode cX2_scan 167 = .ok (.aload_n 0, 1) := by decide +kernel
theorem dX2_scan_168 : decode cX2_scan 168 = .ok (.getfield 34, 3) := by decide +kernel
theorem dX2_scan_171 : decode cX2_scan 171 = .ok (.iconst 0, 1) := by decide +kernel
theorem dX2_scan_172 : decode cX2_scan 172 = .ok (.iastore, 1) := by decide +kernel
theorem dX2_scan_173 : decode cX2_scan 173 = .ok (.aload_n 0, 1) := by decide +kernel
theorem dX2_scan_174 : decode cX2_scan 174 = .ok (.getfield 15, 3) := by decide +kernel
theorem dX2_scan_177 : decode cX2_scan 177 = .ok (.aload_n 0, 1) := by decide +kernel
theorem dX2_scan_178 : decode cX2_scan 178 = .ok (.getfield 34, 3) := by decide +kernel
theorem dX2_scan_181 : decode cX2_scan 181 = .ok (.iload 4, 2) := by decide +kernel
theorem dX2_scan_183 : decode cX2_scan 183 = .ok (.iastore, 1) := by decide +kernel
theorem dX2_scan_184 : decode cX2_scan 184 = .ok (.aload_n 0, 1) := by decide +kernel
theorem dX2_scan_185 : decode cX2_scan 185 = .ok (.getfield 18, 3) := by decide +kernel
theorem dX2_scan_188 : decode cX2_scan 188 = .ok (.aload_n 0, 1) := by decide +kernel
theorem dX2_scan_189 : decode cX2_scan 189 = .ok (.getfield 34, 3) := by decide +kernel
theorem dX2_scan_192 : decode cX2_scan 192 = .ok (.iconst 0, 1) := by decide +kernel
theorem dX2_scan_193 : decode cX2_scan 193 = .ok (.iastore, 1) := by decide +kernel
theorem dX2_scan_194 : decode cX2_scan 194 = .ok (.aload_n 0, 1) := by decide +kernel
theorem dX2_scan_195 : decode cX2_scan 195 = .ok (.getfield 21, 3) := by decide +kernel
theorem dX2_scan_198 : decode cX2_scan 198 = .ok (.aload_n 0, 1) := by decide +kernel
theorem dX2_scan_199 : decode cX2_scan 199 = .ok (.getfield 34, 3) := by decide +kernel
theorem dX2_scan_202 : decode cX2_scan 202 = .ok (.iconst 0, 1) := by decide +kernel
theorem dX2_scan_203 : decode cX2_scan 203 = .ok (.iastore, 1) := by decide +kernel
theorem dX2_scan_204 : decode cX2_scan 204 = .ok (.return_, 1) := by decide +kernel
theorem goodIn_nil {big : List Cond} : GoodIn big [] := fun _ h => nomatch h
theorem goodIn_fl {big L : List Cond} (h : ∀ w ∈ L.filter goodWord, w ∈ big) : GoodIn big (L.filter goodWord) := fun w hw => ⟨h w hw, good_of_word (List.mem_filter.mp hw).2⟩
/-- a callee's words that end in the words of a throw -/
theorem goodIn_vs {big pre A vs : List Cond} {f : Cond} (h1 : GoodIn big (pre ++ (f :: A))) (h2 : GoodIn big vs) : GoodIn big (pre ++ (f :: (A ++ vs))) := by
  intro w hw
  rcases List.mem_append.mp hw with h | h
  · exact h1 w (List.mem_append_left _ h)
  · rcases List.mem_cons.mp h with rfl | h
    · exact h1 _ (List.mem_append_right _ List.mem_cons_self)
    · rcases List.mem_append.mp h with h | h
      · exact h1 w (List.mem_append_right _ (List.mem_cons_of_mem _ h))
      · exact h2 w h
section LQ
variable {p : Program} {l : Launch} {e : Env} {R : Room} {s : State} {m : MethodId} {args : Array Value} {below : List Frame} {meth : Method} {c : Code} {H : Heap} {locs : List Loc} {cells slots : Nat} {Q : State → Prop}
/-- two longs compared; which way it came out is not told -/
theorem lq_cmp {cc : ByteArray} {pc : Nat} {ls : Array Slot} {rest : List Value} {x y : Int64} (hexec : p.tables.exec = Jvm.exec) (hb : c.code = cc) (hdg : decode cc pc = .ok (.lcmp, 1))
    (k : ∀ z : Int32, W p l e R s m args below meth c H locs cells slots Q (F0 m (pc + 1) ls (.int z :: rest))) : W p l e R s m args below meth c H locs cells slots Q (F0 m pc ls (.long y :: .long x :: rest)) := by
  intro T hT X
  by_cases h1 : y < x
  · obtain ⟨t, a, b⟩ := k 1 T hT X
    refine ⟨t, ?_, b⟩
    jvm_step X.here [X.here.top, hexec, hb, hdg, h1]
    exact a
  · by_cases h2 : x = y
    · obtain ⟨t, a, b⟩ := k 0 T hT X
      refine ⟨t, ?_, b⟩
      jvm_step X.here [X.here.top, hexec, hb, hdg, h1, h2]
      exact a
    · obtain ⟨t, a, b⟩ := k (-1) T hT X
      refine ⟨t, ?_, b⟩
      jvm_step X.here [X.here.top, hexec, hb, hdg, h1, h2]
      exact a
end LQ
/-- the table of symbols: no place holds more than there are -/
def tbI (k : Nat) (f : Nat → Int32) : Prop := ∀ j, j < 8192 → ∃ a, a ≤ k ∧ f j = nI a
theorem tbI_add {k sl : Nat} {f : Nat → Int32} (h : tbI k f) : tbI (k + 1) (upd f sl (nI (k + 1))) := by
  intro j hj
  by_cases e : j = sl
  · subst e; exact ⟨k + 1, Nat.le_refl _, pk_us⟩
  · obtain ⟨a, ha, g⟩ := h j hj
    exact ⟨a, by omega, by rw [pk_un e]; exact g⟩
theorem tbI_0 {f : Nat → Int32} (h : ∀ j, j < 8192 → f j = 0) : tbI 0 f := fun j hj => ⟨0, Nat.le_refl _, (h j hj).trans (by decide +kernel)⟩
theorem and_8191 (x : Int32) : ∃ a : Nat, a < 8192 ∧ x &&& 8191 = nI a := by
  refine ⟨(x &&& 8191).toBitVec.toNat, ?_, ?_⟩
  · have h : (x &&& 8191).toBitVec.toNat = x.toBitVec.toNat &&& 8191 := by rw [Int32.toBitVec_and, BitVec.toNat_and]; rfl
    rw [h]
    exact Nat.lt_of_le_of_lt Nat.and_le_right (by decide)
  · apply Int32.toBitVec_inj.mp
    show _ = BitVec.ofNat 32 _
    rw [BitVec.ofNat_toNat, BitVec.setWidth_eq]

def pw_c_X2_newSymbol : List Cond := .code yX2_newSymbol cX2_newSymbol 6 (some .int) :: ([.fieldLink RX2 106 "NeedHouse$Lexemes" "symbols" "I", .fieldLink RX2 24 "NeedHouse$Lexemes" "head" "[J", .fieldLink RX2 28 "NeedHouse$Lexemes" "tail" "[J", .fieldLink RX2 31 "NeedHouse$Lexemes" "table" "[I"] ++ (wsX20 ++ []))
set_option maxHeartbeats 4000000 in
set_option maxRecDepth 100000 in
theorem c_X2_newSymbol (l : Launch) (dC : Nat → ClassId) (dI : Nat → Nat → Nat) (sz : Nat) (cI : ClassId) (cL : ClassId) (h0 : Nat) (fs0 : List Value) (tb : Nat) (ft : Nat → Int32) (hd : Nat) (fh : Nat → Int64) (tl : Nat) (fl : Nat → Int64) (k : Nat) (sl : Nat) (p1 : Int64) (p2 : Int64) (hF0 : hasF fs0 12 [(9, .int (nI k)), (4, .ref hd), (5, .ref tl), (6, .ref tb)]) (hk : k ≤ 200) (htb : tbI k ft) (hsl : sl < 8192) : Met l yX2_newSymbol pw_c_X2_newSymbol ({ frames := 0, cells := 0, slots := 0, locals := 0 }) (va_Pc [.ref h0, .int (nI sl), .long p1, .long p2] (fun U => U.heap.size = sz ∧ va_P (dC, dI) vwCl [(h0, .inr (2, fs0)), (tb, .inl (cI, 8192, .inl ft)), (hd, .inl (cL, 2100, .inr (.inl fh))), (tl, .inl (cL, 2100, .inr (.inl fl)))] U.heap ∧ va_K (dC, dI) vwCl [(cI, .int), (cL, .long)] U ∧ va_D (fun _ => True) [(h0, .inr (2, fs0)), (tb, .inl (cI, 8192, .inl ft)), (hd, .inl (cL, 2100, .inr (.inl fh))), (tl, .inl (cL, 2100, .inr (.inl fl)))])) (va_Qi (fun (r : Int32) (u : (List Value) × (Nat → Int32) × (Nat → Int64) × (Nat → Int64) × (Nat)) => hasF u.1 12 [(9, .int (nI u.2.2.2.2))] ∧ sameF fs0 u.1 [9] ∧ u.2.2.2.2 ≤ k + 1 ∧ tbI u.2.2.2.2 u.2.1) (fun (u : (List Value) × (Nat → Int32) × (Nat → Int64) × (Nat → Int64) × (Nat)) (t : State) => va_P (dC, dI) vwCl [(h0, .inr (2, u.1)), (tb, .inl (cI, 8192, .inl u.2.1)), (hd, .inl (cL, 2100, .inr (.inl u.2.2.1))), (tl, .inl (cL, 2100, .inr (.inl u.2.2.2.1)))] t.heap ∧ va_K (dC, dI) vwCl [(cI, .int), (cL, .long)] t ∧ va_D (va_A [(h0, .inr (2, fs0)), (tb, .inl (cI, 8192, .inl ft)), (hd, .inl (cL, 2100, .inr (.inl fh))), (tl, .inl (cL, 2100, .inr (.inl fl)))] sz) [(h0, .inr (2, u.1)), (tb, .inl (cI, 8192, .inl u.2.1)), (hd, .inl (cL, 2100, .inr (.inl u.2.2.1))), (tl, .inl (cL, 2100, .inr (.inl u.2.2.2.1)))]) (va_A [(h0, .inr (2, fs0)), (tb, .inl (cI, 8192, .inl ft)), (hd, .inl (cL, 2100, .inr (.inl fh))), (tl, .inl (cL, 2100, .inr (.inl fl)))] sz)) 0 0 (va_A [(h0, .inr (2, fs0)), (tb, .inl (cI, 8192, .inl ft)), (hd, .inl (cL, 2100, .inr (.inl fh))), (tl, .inl (cL, 2100, .inr (.inl fl)))] sz) := by
  refine Met.ofW (cc := cX2_newSymbol) (maxL := 6) (ret := (some .int)) (by decide) rfl ?_
  intro p e s m args below meth c s₁ B hml hv
  obtain ⟨rfl, hsz, hP, hK, hD0⟩ := hv
  have hx := B.exec
  have hb := B.bytes
  have hr := B.returns
  have hts := atoms_spec (ws := pw_c_X2_newSymbol) B.pre
  have hown : s.vm.findClass RX2 = some m.cls := findClass_of_methodNamed B.named
  have hlocks := B.notSynchronized
  have hin_X2 : ∀ w ∈ u_ws RX2 TX2 12, w ∈ pw_c_X2_newSymbol := fun w h => List.mem_cons_of_mem _ (List.mem_append_right _ (List.mem_append_left _ h))
  subst hsz
  have hD := hD0.self (sz := s.heap.size)
  generalize hAe : va_A [(h0, .inr (2, fs0)), (tb, .inl (cI, 8192, .inl ft)), (hd, .inl (cL, 2100, .inr (.inl fh))), (tl, .inl (cL, 2100, .inr (.inl fl)))] s.heap.size = A at hD ⊢
  have hA : ∀ q : Nat, s.heap.size ≤ q → A q := fun q h => by rw [← hAe]; exact Or.inr h
  have hS : va_S A s.heap s.heap [] := va_S.rf
  have hP : va_P (dC, dI) vwCl [(h0, .inr (2, fs0)), (tb, .inl (cI, 8192, .inl ft)), (hd, .inl (cL, 2100, .inr (.inl fh))), (tl, .inl (cL, 2100, .inr (.inl fl)))] s.heap := hP
  have hl := lv_entry ([.ref h0, .int (nI sl), .long p1, .long p2]) (n := 6) (Nat.le_of_ble_eq_true rfl)
  rw [lg_entry_eq]
  generalize (lg_sl ([.ref h0, .int (nI sl), .long p1, .long p2]) ++ List.replicate (6 - (lg_sl ([.ref h0, .int (nI sl), .long p1, .long p2])).length) Slot.unset).toArray = ls at hl ⊢
  have hl : lv_has ls 6 [(0, .ref h0), (1, .int (nI sl)), (2, .long p1), (4, .long p2)] := hl
  refine lv_aload_n hx hb dX2_newSymbol_0 rfl (lv_at hl 0 rfl) ?_
  refine va_get (D := (dC, dI)) (ci := 2) (v := .int (nI k)) (C := RX2) (T := TX2) (N := 12) hx hb hts hin_X2 hown hK hP 0 rfl rfl 9 (by decide) (hts (.fieldLink RX2 106 "NeedHouse$Lexemes" "symbols" "I") (List.mem_of_getElem? (i := 1) rfl)) (fun _ h9 => h9) (hF0.at 0 rfl) dX2_newSymbol_1 ?_
  refine lv_sipush (v := 2100) hx hb dX2_newSymbol_4 (by decide) ?_
  refine lv_icmp_lt (tgt := 12) hx hb dX2_newSymbol_7 (by decide) (fun _ => ?_) (fun c_1 => absurd (nI_lt (b := 2100) (by omega) (by decide)) c_1)
  refine lv_aload_n hx hb dX2_newSymbol_12 rfl (lv_at hl 0 rfl) ?_
  refine va_get (D := (dC, dI)) (ci := 2) (v := .ref hd) (C := RX2) (T := TX2) (N := 12) hx hb hts hin_X2 hown hK hP 0 rfl rfl 4 (by decide) (hts (.fieldLink RX2 24 "NeedHouse$Lexemes" "head" "[J") (List.mem_of_getElem? (i := 2) rfl)) (fun _ h9 => h9) (hF0.at 1 rfl) dX2_newSymbol_13 ?_
  refine lv_aload_n hx hb dX2_newSymbol_16 rfl (lv_at hl 0 rfl) ?_
  refine va_get (D := (dC, dI)) (ci := 2) (v := .int (nI k)) (C := RX2) (T := TX2) (N := 12) hx hb hts hin_X2 hown hK hP 0 rfl rfl 9 (by decide) (hts (.fieldLink RX2 106 "NeedHouse$Lexemes" "symbols" "I") (List.mem_of_getElem? (i := 1) rfl)) (fun _ h9 => h9) (hF0.at 0 rfl) dX2_newSymbol_17 ?_
  refine lv_lload_n hx hb dX2_newSymbol_20 rfl (lv_at hl 2 rfl) ?_
  refine va_last hx hb hK hP hD hS 2 1 rfl rfl (vp_in_nI (by omega) (by decide)) dX2_newSymbol_21 (fun H locs hP hD hS => ?_)
  have hP : va_P (dC, dI) vwCl [(h0, .inr (2, fs0)), (tb, .inl (cI, 8192, .inl ft)), (hd, .inl (cL, 2100, .inr (.inl (vp_updL fh (nI k : Int32).toNatClampNeg p1)))), (tl, .inl (cL, 2100, .inr (.inl fl)))] H := hP
  have hD : va_D A [(h0, .inr (2, fs0)), (tb, .inl (cI, 8192, .inl ft)), (hd, .inl (cL, 2100, .inr (.inl (vp_updL fh (nI k : Int32).toNatClampNeg p1)))), (tl, .inl (cL, 2100, .inr (.inl fl)))] := hD
  generalize vp_updL fh (nI k : Int32).toNatClampNeg p1 = f_2 at hP hD
  have hP : va_P (dC, dI) vwCl [(h0, .inr (2, fs0)), (tb, .inl (cI, 8192, .inl ft)), (hd, .inl (cL, 2100, .inr (.inl f_2))), (tl, .inl (cL, 2100, .inr (.inl fl)))] H := hP
  have hD : va_D A [(h0, .inr (2, fs0)), (tb, .inl (cI, 8192, .inl ft)), (hd, .inl (cL, 2100, .inr (.inl f_2))), (tl, .inl (cL, 2100, .inr (.inl fl)))] := hD
  refine lv_aload_n hx hb dX2_newSymbol_22 rfl (lv_at hl 0 rfl) ?_
  refine va_get (D := (dC, dI)) (ci := 2) (v := .ref tl) (C := RX2) (T := TX2) (N := 12) hx hb hts hin_X2 hown hK hP 0 rfl rfl 5 (by decide) (hts (.fieldLink RX2 28 "NeedHouse$Lexemes" "tail" "[J") (List.mem_of_getElem? (i := 3) rfl)) (fun _ h9 => h9) (hF0.at 2 rfl) dX2_newSymbol_23 ?_
  refine lv_aload_n hx hb dX2_newSymbol_26 rfl (lv_at hl 0 rfl) ?_
  refine va_get (D := (dC, dI)) (ci := 2) (v := .int (nI k)) (C := RX2) (T := TX2) (N := 12) hx hb hts hin_X2 hown hK hP 0 rfl rfl 9 (by decide) (hts (.fieldLink RX2 106 "NeedHouse$Lexemes" "symbols" "I") (List.mem_of_getElem? (i := 1) rfl)) (fun _ h9 => h9) (hF0.at 0 rfl) dX2_newSymbol_27 ?_
  refine lv_lload hx hb dX2_newSymbol_30 (lv_at hl 3 rfl) ?_
  refine va_last hx hb hK hP hD hS 3 1 rfl rfl (vp_in_nI (by omega) (by decide)) dX2_newSymbol_32 (fun H locs hP hD hS => ?_)
  have hP : va_P (dC, dI) vwCl [(h0, .inr (2, fs0)), (tb, .inl (cI, 8192, .inl ft)), (hd, .inl (cL, 2100, .inr (.inl f_2))), (tl, .inl (cL, 2100, .inr (.inl (vp_updL fl (nI k : Int32).toNatClampNeg p2))))] H := hP
  have hD : va_D A [(h0, .inr (2, fs0)), (tb, .inl (cI, 8192, .inl ft)), (hd, .inl (cL, 2100, .inr (.inl f_2))), (tl, .inl (cL, 2100, .inr (.inl (vp_updL fl (nI k : Int32).toNatClampNeg p2))))] := hD
  generalize vp_updL fl (nI k : Int32).toNatClampNeg p2 = f_3 at hP hD
  have hP : va_P (dC, dI) vwCl [(h0, .inr (2, fs0)), (tb, .inl (cI, 8192, .inl ft)), (hd, .inl (cL, 2100, .inr (.inl f_2))), (tl, .inl (cL, 2100, .inr (.inl f_3)))] H := hP
  have hD : va_D A [(h0, .inr (2, fs0)), (tb, .inl (cI, 8192, .inl ft)), (hd, .inl (cL, 2100, .inr (.inl f_2))), (tl, .inl (cL, 2100, .inr (.inl f_3)))] := hD
  refine lv_aload_n hx hb dX2_newSymbol_33 rfl (lv_at hl 0 rfl) ?_
  refine lv_dup hx hb dX2_newSymbol_34 rfl ?_
  refine va_get (D := (dC, dI)) (ci := 2) (v := .int (nI k)) (C := RX2) (T := TX2) (N := 12) hx hb hts hin_X2 hown hK hP 0 rfl rfl 9 (by decide) (hts (.fieldLink RX2 106 "NeedHouse$Lexemes" "symbols" "I") (List.mem_of_getElem? (i := 1) rfl)) (fun _ h9 => h9) (hF0.at 0 rfl) dX2_newSymbol_35 ?_
  refine lv_iconst (v := 1) hx hb dX2_newSymbol_38 (by decide) ?_
  refine lv_iadd hx hb dX2_newSymbol_39 ?_
  refine lv_topi (fun x_4 ex_4 => ?_)
  obtain rfl : x_4 = (nI (k + 1)) := ex_4.trans (by first | exact nI_1 _ | exact nI_add _ _)
  refine va_put (D := (dC, dI)) (ci := 2) (v := .int (nI (k + 1))) (ty := .int) (C := RX2) (T := TX2) (N := 12) hx hb hts hin_X2 tyX2 tyX2_ok nmX2 hown hK hP hD hS 0 rfl rfl 9 (by decide) (hts (.fieldLink RX2 106 "NeedHouse$Lexemes" "symbols" "I") (List.mem_of_getElem? (i := 1) rfl)) (fun _ h9 => h9) rfl (by decide +kernel) rfl rfl (by rw [hF0.1]; decide) dX2_newSymbol_40 (fun H locs hP hD hS => ?_)
  have hP : va_P (dC, dI) vwCl [(h0, .inr (2, (fs0.set 9 (.int (nI (k + 1)))))), (tb, .inl (cI, 8192, .inl ft)), (hd, .inl (cL, 2100, .inr (.inl f_2))), (tl, .inl (cL, 2100, .inr (.inl f_3)))] H := hP
  have hD : va_D A [(h0, .inr (2, (fs0.set 9 (.int (nI (k + 1)))))), (tb, .inl (cI, 8192, .inl ft)), (hd, .inl (cL, 2100, .inr (.inl f_2))), (tl, .inl (cL, 2100, .inr (.inl f_3)))] := hD
  have hF_5 := hF0.set 9 (.int (nI (k + 1))) (l' := [(9, .int (nI (k + 1))), (4, .ref hd), (5, .ref tl), (6, .ref tb)]) (by decide) rfl
  have hE_6 := (sameF.rf (f := fs0)).set 9 (.int (nI (k + 1)))
  generalize fs0.set 9 (.int (nI (k + 1))) = fs_7 at hP hD hF_5 hE_6
  have hP : va_P (dC, dI) vwCl [(h0, .inr (2, fs_7)), (tb, .inl (cI, 8192, .inl ft)), (hd, .inl (cL, 2100, .inr (.inl f_2))), (tl, .inl (cL, 2100, .inr (.inl f_3)))] H := hP
  have hD : va_D A [(h0, .inr (2, fs_7)), (tb, .inl (cI, 8192, .inl ft)), (hd, .inl (cL, 2100, .inr (.inl f_2))), (tl, .inl (cL, 2100, .inr (.inl f_3)))] := hD
  refine lv_aload_n hx hb dX2_newSymbol_43 rfl (lv_at hl 0 rfl) ?_
  refine va_get (D := (dC, dI)) (ci := 2) (v := .ref tb) (C := RX2) (T := TX2) (N := 12) hx hb hts hin_X2 hown hK hP 0 rfl rfl 6 (by decide) (hts (.fieldLink RX2 31 "NeedHouse$Lexemes" "table" "[I") (List.mem_of_getElem? (i := 4) rfl)) (fun _ h9 => h9) (hF_5.at 3 rfl) dX2_newSymbol_44 ?_
  refine lv_iload_n hx hb dX2_newSymbol_47 rfl (lv_at hl 1 rfl) ?_
  refine lv_aload_n hx hb dX2_newSymbol_48 rfl (lv_at hl 0 rfl) ?_
  refine va_get (D := (dC, dI)) (ci := 2) (v := .int (nI (k + 1))) (C := RX2) (T := TX2) (N := 12) hx hb hts hin_X2 hown hK hP 0 rfl rfl 9 (by decide) (hts (.fieldLink RX2 106 "NeedHouse$Lexemes" "symbols" "I") (List.mem_of_getElem? (i := 1) rfl)) (fun _ h9 => h9) (hF_5.at 0 rfl) dX2_newSymbol_49 ?_
  refine va_iast hx hb hK hP hD hS 1 0 rfl rfl (vp_in_nI (by omega) (by decide)) dX2_newSymbol_52 (fun H locs hP hD hS => ?_)
  have hP : va_P (dC, dI) vwCl [(h0, .inr (2, fs_7)), (tb, .inl (cI, 8192, .inl (upd ft (nI sl : Int32).toNatClampNeg (nI (k + 1))))), (hd, .inl (cL, 2100, .inr (.inl f_2))), (tl, .inl (cL, 2100, .inr (.inl f_3)))] H := hP
  have hD : va_D A [(h0, .inr (2, fs_7)), (tb, .inl (cI, 8192, .inl (upd ft (nI sl : Int32).toNatClampNeg (nI (k + 1))))), (hd, .inl (cL, 2100, .inr (.inl f_2))), (tl, .inl (cL, 2100, .inr (.inl f_3)))] := hD
  refine lv_aload_n hx hb dX2_newSymbol_53 rfl (lv_at hl 0 rfl) ?_
  refine va_get (D := (dC, dI)) (ci := 2) (v := .int (nI (k + 1))) (C := RX2) (T := TX2) (N := 12) hx hb hts hin_X2 hown hK hP 0 rfl rfl 9 (by decide) (hts (.fieldLink RX2 106 "NeedHouse$Lexemes" "symbols" "I") (List.mem_of_getElem? (i := 1) rfl)) (fun _ h9 => h9) (hF_5.at 0 rfl) dX2_newSymbol_54 ?_
  refine lv_iconst (v := 1) hx hb dX2_newSymbol_57 (by decide) ?_
  refine lv_isub hx hb dX2_newSymbol_58 ?_
  refine lv_topi (fun x_8 ex_8 => ?_)
  obtain rfl : x_8 = (nI k) := ex_8.trans (nI_pred _)
  have hP9 := hP.sub (ws' := [(h0, .inr (2, fs_7)), (tb, .inl (cI, 8192, .inl (upd ft (nI sl : Int32).toNatClampNeg (nI (k + 1))))), (hd, .inl (cL, 2100, .inr (.inl f_2))), (tl, .inl (cL, 2100, .inr (.inl f_3)))]) [0, 1, 2, 3] rfl
  have hD9 := hD.sub (ws' := [(h0, .inr (2, fs_7)), (tb, .inl (cI, 8192, .inl (upd ft (nI sl : Int32).toNatClampNeg (nI (k + 1))))), (hd, .inl (cL, 2100, .inr (.inl f_2))), (tl, .inl (cL, 2100, .inr (.inl f_3)))]) [0, 1, 2, 3] (by decide) rfl
  have hK9 := hK.sub (tys' := [(cI, .int), (cL, .long)]) [0, 1] rfl
  exact W.iret (v := (nI k)) hx hb hr (fun t ht hW => ⟨⟨(nI k), ((fs_7, (upd ft (nI sl : Int32).toNatClampNeg (nI (k + 1))), f_2, f_3, (k + 1))), rfl, ⟨hF_5.sub [0] rfl, hE_6.mono (by decide), Nat.le_refl _, by rw [nI_clamp (by omega)]; exact tbI_add htb⟩, by rw [ht]; exact hP9, va_K.moved hW.alike hK9, hD9⟩, hS.F ht⟩) hS.2.2 dX2_newSymbol_59
def pw_c_X2_symbolOf : List Cond := .code yX2_symbolOf cX2_symbolOf 11 (some .int) :: ([.constantLong RX2 111 (31), .constantLong RX2 113 (-7046029254386353131), .fieldLink RX2 31 "NeedHouse$Lexemes" "table" "[I", .methodLink RX2 115 yX2_newSymbol, .instanceMethod yX2_newSymbol, .selects RX2 yX2_newSymbol yX2_newSymbol, .initialized RX2, .code yX2_newSymbol cX2_newSymbol 6 (some .int), .fieldLink RX2 106 "NeedHouse$Lexemes" "symbols" "I", .fieldLink RX2 24 "NeedHouse$Lexemes" "head" "[J", .fieldLink RX2 28 "NeedHouse$Lexemes" "tail" "[J"] ++ (wsX20 ++ []))
set_option maxRecDepth 20000 in
theorem g_c_X2_symbolOf_c_X2_newSymbol_64 : GoodIn pw_c_X2_symbolOf (wsV RX2 115 RX2 yX2_newSymbol pw_c_X2_newSymbol) := goodIn_r _ [4, 5, 6, 7, 8, 9, 10, 11, 3, 12, 13, 14, 15, 16, 17, 18, 19, 20, 21, 22, 23] rfl (by decide +kernel)
set_option maxHeartbeats 4000000 in
set_option maxRecDepth 100000 in
theorem c_X2_symbolOf (l : Launch) (dC : Nat → ClassId) (dI : Nat → Nat → Nat) (sz : Nat) (cI : ClassId) (cL : ClassId) (h0 : Nat) (fs0 : List Value) (tb : Nat) (ft : Nat → Int32) (hd : Nat) (fh : Nat → Int64) (tl : Nat) (fl : Nat → Int64) (k : Nat) (p1 : Int64) (p2 : Int64) (hF0 : hasF fs0 12 [(9, .int (nI k)), (4, .ref hd), (5, .ref tl), (6, .ref tb)]) (hk : k ≤ 200) (htb : tbI k ft) : Met l yX2_symbolOf pw_c_X2_symbolOf ({ frames := 1, cells := 0, slots := 0, locals := 25 }) (va_Pc [.ref h0, .long p1, .long p2] (fun U => U.heap.size = sz ∧ va_P (dC, dI) vwCl [(h0, .inr (2, fs0)), (tb, .inl (cI, 8192, .inl ft)), (hd, .inl (cL, 2100, .inr (.inl fh))), (tl, .inl (cL, 2100, .inr (.inl fl)))] U.heap ∧ va_K (dC, dI) vwCl [(cI, .int), (cL, .long)] U ∧ va_D (fun _ => True) [(h0, .inr (2, fs0)), (tb, .inl (cI, 8192, .inl ft)), (hd, .inl (cL, 2100, .inr (.inl fh))), (tl, .inl (cL, 2100, .inr (.inl fl)))])) (va_Qi (fun (r : Int32) (u : (List Value) × (Nat → Int32) × (Nat → Int64) × (Nat → Int64) × (Nat)) => hasF u.1 12 [(9, .int (nI u.2.2.2.2))] ∧ sameF fs0 u.1 [9] ∧ u.2.2.2.2 ≤ k + 1 ∧ tbI u.2.2.2.2 u.2.1) (fun (u : (List Value) × (Nat → Int32) × (Nat → Int64) × (Nat → Int64) × (Nat)) (t : State) => va_P (dC, dI) vwCl [(h0, .inr (2, u.1)), (tb, .inl (cI, 8192, .inl u.2.1)), (hd, .inl (cL, 2100, .inr (.inl u.2.2.1))), (tl, .inl (cL, 2100, .inr (.inl u.2.2.2.1)))] t.heap ∧ va_K (dC, dI) vwCl [(cI, .int), (cL, .long)] t ∧ va_D (va_A [(h0, .inr (2, fs0)), (tb, .inl (cI, 8192, .inl ft)), (hd, .inl (cL, 2100, .inr (.inl fh))), (tl, .inl (cL, 2100, .inr (.inl fl)))] sz) [(h0, .inr (2, u.1)), (tb, .inl (cI, 8192, .inl u.2.1)), (hd, .inl (cL, 2100, .inr (.inl u.2.2.1))), (tl, .inl (cL, 2100, .inr (.inl u.2.2.2.1)))]) (va_A [(h0, .inr (2, fs0)), (tb, .inl (cI, 8192, .inl ft)), (hd, .inl (cL, 2100, .inr (.inl fh))), (tl, .inl (cL, 2100, .inr (.inl fl)))] sz)) 0 0 (va_A [(h0, .inr (2, fs0)), (tb, .inl (cI, 8192, .inl ft)), (hd, .inl (cL, 2100, .inr (.inl fh))), (tl, .inl (cL, 2100, .inr (.inl fl)))] sz) := by
  refine Met.ofW (cc := cX2_symbolOf) (maxL := 11) (ret := (some .int)) (by decide) rfl ?_
  intro p e s m args below meth c s₁ B hml hv
  obtain ⟨rfl, hsz, hP, hK, hD0⟩ := hv
  have hx := B.exec
  have hb := B.bytes
  have hr := B.returns
  have hts := atoms_spec (ws := pw_c_X2_symbolOf) B.pre
  have hown : s.vm.findClass RX2 = some m.cls := findClass_of_methodNamed B.named
  have hlocks := B.notSynchronized
  have hin_X2 : ∀ w ∈ u_ws RX2 TX2 12, w ∈ pw_c_X2_symbolOf := fun w h => List.mem_cons_of_mem _ (List.mem_append_right _ (List.mem_append_left _ h))
  subst hsz
  have hD := hD0.self (sz := s.heap.size)
  generalize hAe : va_A [(h0, .inr (2, fs0)), (tb, .inl (cI, 8192, .inl ft)), (hd, .inl (cL, 2100, .inr (.inl fh))), (tl, .inl (cL, 2100, .inr (.inl fl)))] s.heap.size = A at hD ⊢
  have hA : ∀ q : Nat, s.heap.size ≤ q → A q := fun q h => by rw [← hAe]; exact Or.inr h
  have hS : va_S A s.heap s.heap [] := va_S.rf
  have hP : va_P (dC, dI) vwCl [(h0, .inr (2, fs0)), (tb, .inl (cI, 8192, .inl ft)), (hd, .inl (cL, 2100, .inr (.inl fh))), (tl, .inl (cL, 2100, .inr (.inl fl)))] s.heap := hP
  have hl := lv_entry ([.ref h0, .long p1, .long p2]) (n := 11) (Nat.le_of_ble_eq_true rfl)
  rw [lg_entry_eq]
  generalize (lg_sl ([.ref h0, .long p1, .long p2]) ++ List.replicate (11 - (lg_sl ([.ref h0, .long p1, .long p2])).length) Slot.unset).toArray = ls at hl ⊢
  have hl : lv_has ls 11 [(0, .ref h0), (1, .long p1), (3, .long p2)] := hl
  refine lv_lload_n hx hb dX2_symbolOf_0 rfl (lv_at hl 1 rfl) ?_
  refine lv_ldc2 (v := 31) hx hb hown (hts (.constantLong RX2 111 (31)) (List.mem_of_getElem? (i := 1) rfl)) dX2_symbolOf_1 ?_
  refine lv_lmul hx hb dX2_symbolOf_4 ?_
  refine lv_topl (fun x_1 ex_1 => ?_)
  refine lv_lload_n hx hb dX2_symbolOf_5 rfl (lv_at hl 2 rfl) ?_
  refine lv_ladd hx hb dX2_symbolOf_6 ?_
  refine lv_topl (fun x_2 ex_2 => ?_)
  refine lv_ldc2 (v := (-7046029254386353131)) hx hb hown (hts (.constantLong RX2 113 (-7046029254386353131)) (List.mem_of_getElem? (i := 2) rfl)) dX2_symbolOf_7 ?_
  refine lv_lmul hx hb dX2_symbolOf_10 ?_
  refine lv_topl (fun x_3 ex_3 => ?_)
  refine lv_lstore (lv' := [(5, .long x_3), (0, .ref h0), (1, .long p1), (3, .long p2)]) hx hb dX2_symbolOf_11 hl (by decide) rfl (fun ls hl => ?_)
  refine lv_lload hx hb dX2_symbolOf_13 (lv_at hl 0 rfl) ?_
  refine lv_bipush (v := 51) hx hb dX2_symbolOf_15 (by decide) ?_
  obtain ⟨x_4, ex_4⟩ : ∃ z, ((x_3 : Int64).toUInt64 >>> ((51 : Int32).toInt64.toUInt64 &&& Int64.toUInt64 63)).toInt64 = z := ⟨_, rfl⟩
  refine lv_lushr (v := x_4) hx hb dX2_symbolOf_17 ex_4 ?_
  obtain ⟨x_5, ex_5⟩ : ∃ z, (x_4 : Int64).toInt32 = z := ⟨_, rfl⟩
  refine lv_l2i (v := x_5) hx hb dX2_symbolOf_18 ex_5 ?_
  refine lv_istore (lv' := [(7, .int x_5), (5, .long x_3), (0, .ref h0), (1, .long p1), (3, .long p2)]) hx hb dX2_symbolOf_19 hl (by decide) rfl (fun ls hl => ?_)
  refine lv_iconst (v := 0) hx hb dX2_symbolOf_21 (by decide) ?_
  refine lv_istore (lv' := [(8, .int 0), (7, .int x_5), (5, .long x_3), (0, .ref h0), (1, .long p1), (3, .long p2)]) hx hb dX2_symbolOf_22 hl (by decide) rfl (fun ls hl => ?_)
  obtain ⟨H, hHe⟩ : ∃ z : Heap, z = s.heap := ⟨_, rfl⟩
  have hS : va_S A s.heap H [] := by rw [hHe]; exact hS
  have hP : va_P (dC, dI) vwCl [(h0, .inr (2, fs0)), (tb, .inl (cI, 8192, .inl ft)), (hd, .inl (cL, 2100, .inr (.inl fh))), (tl, .inl (cL, 2100, .inr (.inl fl)))] H := by rw [hHe]; exact hP
  rw [← hHe]
  clear hHe
  generalize ([] : List Loc) = locs at hS ⊢
  obtain ⟨i, hq_i⟩ : ∃ z : Nat, z = 0 := ⟨_, rfl⟩
  have hP : va_P (dC, dI) vwCl [(h0, .inr (2, fs0)), (tb, .inl (cI, 8192, .inl ft)), (hd, .inl (cL, 2100, .inr (.inl fh))), (tl, .inl (cL, 2100, .inr (.inl fl)))] H := by (try rw [hq_i]); exact hP
  have hD : va_D A [(h0, .inr (2, fs0)), (tb, .inl (cI, 8192, .inl ft)), (hd, .inl (cL, 2100, .inr (.inl fh))), (tl, .inl (cL, 2100, .inr (.inl fl)))] := by (try rw [hq_i]); exact hD
  have hl : lv_has ls 11 [(8, .int (nI i)), (7, .int x_5), (5, .long x_3), (0, .ref h0), (1, .long p1), (3, .long p2)] := by (try rw [hq_i]); exact hl
  have hi : i ≤ 8192 := by omega
  obtain ⟨fu_6, hfu_6⟩ : ∃ z : Nat, 8192 - i < z := ⟨_, Nat.lt_succ_self _⟩
  clear hq_i
  revert hl
  revert hS
  revert hD
  revert hP
  revert hi
  revert hfu_6
  generalize ls = ls_, locs = locs_, H = H_
  revert ls_
  revert locs_
  revert H_
  revert i
  induction fu_6 with
  | zero => intros; exact absurd (by assumption) (Nat.not_lt_zero _)
  | succ fu_6 ih_7 =>
    intro i H locs ls hfu_6 hi hP hD hS hl
    refine lv_iload hx hb dX2_symbolOf_24 (lv_at hl 0 rfl) ?_
    refine lv_sipush (v := 8192) hx hb dX2_symbolOf_26 (by decide) ?_
    refine lv_icmp_ge (tgt := 101) hx hb dX2_symbolOf_29 (by decide) (fun c_8 => ?_) (fun c_8 => ?_)
    ·
      refine lv_iconst (v := 0) hx hb dX2_symbolOf_101 (by decide) ?_
      have hP9 := hP.sub (ws' := [(h0, .inr (2, fs0)), (tb, .inl (cI, 8192, .inl ft)), (hd, .inl (cL, 2100, .inr (.inl fh))), (tl, .inl (cL, 2100, .inr (.inl fl)))]) [0, 1, 2, 3] rfl
      have hD9 := hD.sub (ws' := [(h0, .inr (2, fs0)), (tb, .inl (cI, 8192, .inl ft)), (hd, .inl (cL, 2100, .inr (.inl fh))), (tl, .inl (cL, 2100, .inr (.inl fl)))]) [0, 1, 2, 3] (by decide) rfl
      have hK9 := hK.sub (tys' := [(cI, .int), (cL, .long)]) [0, 1] rfl
      exact W.iret (v := 0) hx hb hr (fun t ht hW => ⟨⟨0, ((fs0, ft, fh, fl, k)), rfl, ⟨hF0.sub [0] rfl, (sameF.rf (f := fs0)).mono (by decide), Nat.le_succ _, htb⟩, by rw [ht]; exact hP9, va_K.moved hW.alike hK9, hD9⟩, hS.F ht⟩) hS.2.2 dX2_symbolOf_102
    ·
      have hlt : i < 8192 := by rcases Nat.lt_or_ge i 8192 with q | q; exact q; exact absurd (nI_le q (by omega)) c_8
      refine lv_iload hx hb dX2_symbolOf_32 (lv_at hl 1 rfl) ?_
      refine lv_iload hx hb dX2_symbolOf_34 (lv_at hl 0 rfl) ?_
      refine lv_iadd hx hb dX2_symbolOf_36 ?_
      refine lv_topi (fun x_9 ex_9 => ?_)
      refine lv_sipush (v := 8191) hx hb dX2_symbolOf_37 (by decide) ?_
      refine lv_iand hx hb dX2_symbolOf_40 ?_
      obtain ⟨sl, hsl, esl⟩ := and_8191 x_9
      rw [esl]
      refine lv_istore (lv' := [(9, .int (nI sl)), (8, .int (nI i)), (7, .int x_5), (5, .long x_3), (0, .ref h0), (1, .long p1), (3, .long p2)]) hx hb dX2_symbolOf_41 hl (by decide) rfl (fun ls hl => ?_)
      refine lv_aload_n hx hb dX2_symbolOf_43 rfl (lv_at hl 4 rfl) ?_
      refine va_get (D := (dC, dI)) (ci := 2) (v := .ref tb) (C := RX2) (T := TX2) (N := 12) hx hb hts hin_X2 hown hK hP 0 rfl rfl 6 (by decide) (hts (.fieldLink RX2 31 "NeedHouse$Lexemes" "table" "[I") (List.mem_of_getElem? (i := 3) rfl)) (fun _ h9 => h9) (hF0.at 3 rfl) dX2_symbolOf_44 ?_
      refine lv_iload hx hb dX2_symbolOf_47 (lv_at hl 0 rfl) ?_
      refine va_iald hx hb hK hP 1 0 rfl rfl (vp_in_nI (by omega) (by decide)) dX2_symbolOf_49 ?_
      refine lv_topi (fun x_10 ex_10 => ?_)
      obtain ⟨a_11, ha_11, ga_11⟩ := htb sl hsl
      obtain rfl : x_10 = nI a_11 := ex_10.trans (by rw [nI_clamp (by omega)]; exact ga_11)
      cases a_11 with
      | zero =>
        refine lv_iconst (v := 1) hx hb dX2_symbolOf_50 (by decide) ?_
        refine lv_isub hx hb dX2_symbolOf_51 ?_
        refine lv_topi (fun x_12 ex_12 => ?_)
        obtain rfl : x_12 = (-1) := ex_12.trans (by decide +kernel)
        refine lv_istore (lv' := [(10, .int (-1)), (9, .int (nI sl)), (8, .int (nI i)), (7, .int x_5), (5, .long x_3), (0, .ref h0), (1, .long p1), (3, .long p2)]) hx hb dX2_symbolOf_52 hl (by decide) rfl (fun ls hl => ?_)
        refine lv_iload hx hb dX2_symbolOf_54 (lv_at hl 0 rfl) ?_
        refine lv_if_ge (tgt := 68) hx hb dX2_symbolOf_56 (by decide) (fun c_13 => absurd c_13 (by decide)) (fun _ => ?_)
        refine lv_aload_n hx hb dX2_symbolOf_59 rfl (lv_at hl 5 rfl) ?_
        refine lv_iload hx hb dX2_symbolOf_60 (lv_at hl 1 rfl) ?_
        refine lv_lload_n hx hb dX2_symbolOf_62 rfl (lv_at hl 6 rfl) ?_
        refine lv_lload_n hx hb dX2_symbolOf_63 rfl (lv_at hl 7 rfl) ?_
        have hPc := hP.sub (ws' := [(h0, .inr (2, fs0)), (tb, .inl (cI, 8192, .inl ft)), (hd, .inl (cL, 2100, .inr (.inl fh))), (tl, .inl (cL, 2100, .inr (.inl fl)))]) [0, 1, 2, 3] rfl
        have hDc := hD.sub (ws' := [(h0, .inr (2, fs0)), (tb, .inl (cI, 8192, .inl ft)), (hd, .inl (cL, 2100, .inr (.inl fh))), (tl, .inl (cL, 2100, .inr (.inl fl)))]) [0, 1, 2, 3] (by decide) rfl
        have hKc := hK.sub (tys' := [(cI, .int), (cL, .long)]) [0, 1] rfl
        have hFc := va_free (wc := [(h0, .inr (2, fs0)), (tb, .inl (cI, 8192, .inl ft)), (hd, .inl (cL, 2100, .inr (.inl fh))), (tl, .inl (cL, 2100, .inr (.inl fl)))]) hD hS hA [0, 1, 2, 3] rfl
        refine va_calli (va_runV (As := [.int (nI sl), .long p1, .long p2]) (rest := []) ⟨hx, hb, hml, hown, hts⟩ (c_X2_newSymbol l dC dI H.size cI cL h0 fs0 tb ft hd fh tl fl k sl p1 p2 (hF0.sub [0, 1, 2, 3] rfl) (by omega) (htb) (hsl)) (cwV 3 hts g_c_X2_symbolOf_c_X2_newSymbol_64 rfl rfl rfl (by decide +kernel) ⟨Nat.le_of_ble_eq_true rfl, Nat.le_of_ble_eq_true rfl⟩) ⟨fun a U g mk q => by obtain ⟨q0, q1, qP, qK, qD⟩ := q; exact ⟨q0, q1, qP, va_K.moved (u := U) (U := U.calling g mk a) (Vm.Alike.refl U.vm) qK, qD⟩, va_recv hKc hPc (ci := 2) (q0 := 0) rfl rfl, fun U hU hW => ⟨rfl, by rw [hU], by rw [hU]; exact hPc, va_K.moved hW.alike hKc, hDc.weaken (fun _ _ _ _ => trivial)⟩⟩ rfl rfl hl.1 rfl (lv_room (Nat.le_of_ble_eq_true rfl)) dX2_symbolOf_64 ⟨show 0 + 0 ≤ 0 by decide, show 0 + 0 ≤ 0 by decide⟩) hS (fun q _ h => hFc q h) hFc (fun r_14 u t H1 locs ht hvm hw hB hz1 hk1 hS => ?_)
        obtain ⟨fs0z_16, ftz_17, fhz_18, flz_19, K1_20⟩ := u
        obtain ⟨hP1, hK1, hD1⟩ := hB
        rw [ht] at hP1
        have hK1 := va_K.moved hvm.symm hK1
        try dsimp only at hw hP1 hK1 hD1
        obtain ⟨hF_21, hE_22, hX_23, hX_24⟩ := hw
        obtain ⟨hP, hD⟩ := va_join (wr := []) (w1 := [(h0, .inr (2, fs0z_16)), (tb, .inl (cI, 8192, .inl ftz_17)), (hd, .inl (cL, 2100, .inr (.inl fhz_18))), (tl, .inl (cL, 2100, .inr (.inl flz_19)))]) hP hD [0, 1, 2, 3] [] rfl rfl (by decide) (by decide) hk1 hFc hP1 hD1
        generalize H1 = H at hP hS ⊢
        have hK := (hK.sub (tys' := []) [] rfl).app hK1
        have hK : va_K (dC, dI) vwCl [(cI, .int), (cL, .long)] s := hK
        have hP : va_P (dC, dI) vwCl [(h0, .inr (2, fs0z_16)), (tb, .inl (cI, 8192, .inl ftz_17)), (hd, .inl (cL, 2100, .inr (.inl fhz_18))), (tl, .inl (cL, 2100, .inr (.inl flz_19)))] H := hP
        have hD : va_D A [(h0, .inr (2, fs0z_16)), (tb, .inl (cI, 8192, .inl ftz_17)), (hd, .inl (cL, 2100, .inr (.inl fhz_18))), (tl, .inl (cL, 2100, .inr (.inl flz_19)))] := hD
        have hF_25 := hF0.same hE_22 (l' := [(4, .ref hd), (5, .ref tl), (6, .ref tb)]) rfl
        have hF_26 := hF_21.app hF_25
        have hE_27 := (sameF.rf (f := fs0)).trans hE_22
        have hP9 := hP.sub (ws' := [(h0, .inr (2, fs0z_16)), (tb, .inl (cI, 8192, .inl ftz_17)), (hd, .inl (cL, 2100, .inr (.inl fhz_18))), (tl, .inl (cL, 2100, .inr (.inl flz_19)))]) [0, 1, 2, 3] rfl
        have hD9 := hD.sub (ws' := [(h0, .inr (2, fs0z_16)), (tb, .inl (cI, 8192, .inl ftz_17)), (hd, .inl (cL, 2100, .inr (.inl fhz_18))), (tl, .inl (cL, 2100, .inr (.inl flz_19)))]) [0, 1, 2, 3] (by decide) rfl
        have hK9 := hK.sub (tys' := [(cI, .int), (cL, .long)]) [0, 1] rfl
        exact W.iret (v := r_14) hx hb hr (fun t ht hW => ⟨⟨r_14, ((fs0z_16, ftz_17, fhz_18, flz_19, K1_20)), rfl, ⟨hF_26.sub [0] rfl, hE_27.mono (by decide), hX_23, hX_24⟩, by rw [ht]; exact hP9, va_K.moved hW.alike hK9, hD9⟩, hS.F ht⟩) hS.2.2 dX2_symbolOf_67
      | succ b9 =>
        refine lv_iconst (v := 1) hx hb dX2_symbolOf_50 (by decide) ?_
        refine lv_isub hx hb dX2_symbolOf_51 ?_
        refine lv_topi (fun x_28 ex_28 => ?_)
        obtain rfl : x_28 = (nI b9) := ex_28.trans (nI_pred _)
        refine lv_istore (lv' := [(10, .int (nI b9)), (9, .int (nI sl)), (8, .int (nI i)), (7, .int x_5), (5, .long x_3), (0, .ref h0), (1, .long p1), (3, .long p2)]) hx hb dX2_symbolOf_52 hl (by decide) rfl (fun ls hl => ?_)
        refine lv_iload hx hb dX2_symbolOf_54 (lv_at hl 0 rfl) ?_
        refine lv_if_ge (tgt := 68) hx hb dX2_symbolOf_56 (by decide) (fun _ => ?_) (fun c_29 => absurd (nI_pos' (by omega)) c_29)
        refine lv_aload_n hx hb dX2_symbolOf_68 rfl (lv_at hl 5 rfl) ?_
        refine va_get (D := (dC, dI)) (ci := 2) (v := .ref hd) (C := RX2) (T := TX2) (N := 12) hx hb hts hin_X2 hown hK hP 0 rfl rfl 4 (by decide) (hts (.fieldLink RX2 24 "NeedHouse$Lexemes" "head" "[J") (List.mem_of_getElem? (i := 10) rfl)) (fun _ h9 => h9) (hF0.at 1 rfl) dX2_symbolOf_69 ?_
        refine lv_iload hx hb dX2_symbolOf_72 (lv_at hl 0 rfl) ?_
        refine va_lald hx hb hK hP 2 1 rfl rfl (vp_in_nI (by omega) (by decide)) dX2_symbolOf_74 ?_
        refine lv_topl (fun x_30 ex_30 => ?_)
        refine lv_lload_n hx hb dX2_symbolOf_75 rfl (lv_at hl 6 rfl) ?_
        refine lq_cmp hx hb dX2_symbolOf_76 (fun x_31 => ?_)
        refine lv_if_ne (tgt := 95) hx hb dX2_symbolOf_77 (by decide) (fun c_32 => ?_) (fun c_32 => ?_)
        ·
          refine lv_iinc (v := (nI (i + 1))) (lv' := [(8, .int (nI (i + 1))), (10, .int (nI b9)), (9, .int (nI sl)), (7, .int x_5), (5, .long x_3), (0, .ref h0), (1, .long p1), (3, .long p2)]) hx hb dX2_symbolOf_95 hl (k := 2) rfl (by first | exact nI_1 _ | exact nI_add _ _) (by decide) rfl (fun ls hl => ?_)
          refine lv_goto (tgt := 24) hx hb dX2_symbolOf_98 (by decide) ?_
          refine ih_7 (i + 1)  _ _ ls ?_ (by omega) (hP.sub (ws' := [(h0, .inr (2, fs0)), (tb, .inl (cI, 8192, .inl ft)), (hd, .inl (cL, 2100, .inr (.inl fh))), (tl, .inl (cL, 2100, .inr (.inl fl)))]) [0, 1, 2, 3] rfl) (hD.sub (ws' := [(h0, .inr (2, fs0)), (tb, .inl (cI, 8192, .inl ft)), (hd, .inl (cL, 2100, .inr (.inl fh))), (tl, .inl (cL, 2100, .inr (.inl fl)))]) [0, 1, 2, 3] (by decide) rfl) hS (lv_sub hl [0, 3, 4, 5, 6, 7] rfl)
          omega
        ·
          refine lv_aload_n hx hb dX2_symbolOf_80 rfl (lv_at hl 5 rfl) ?_
          refine va_get (D := (dC, dI)) (ci := 2) (v := .ref tl) (C := RX2) (T := TX2) (N := 12) hx hb hts hin_X2 hown hK hP 0 rfl rfl 5 (by decide) (hts (.fieldLink RX2 28 "NeedHouse$Lexemes" "tail" "[J") (List.mem_of_getElem? (i := 11) rfl)) (fun _ h9 => h9) (hF0.at 2 rfl) dX2_symbolOf_81 ?_
          refine lv_iload hx hb dX2_symbolOf_84 (lv_at hl 0 rfl) ?_
          refine va_lald hx hb hK hP 3 1 rfl rfl (vp_in_nI (by omega) (by decide)) dX2_symbolOf_86 ?_
          refine lv_topl (fun x_33 ex_33 => ?_)
          refine lv_lload_n hx hb dX2_symbolOf_87 rfl (lv_at hl 7 rfl) ?_
          refine lq_cmp hx hb dX2_symbolOf_88 (fun x_34 => ?_)
          refine lv_if_ne (tgt := 95) hx hb dX2_symbolOf_89 (by decide) (fun c_35 => ?_) (fun c_35 => ?_)
          ·
            refine lv_iinc (v := (nI (i + 1))) (lv' := [(8, .int (nI (i + 1))), (10, .int (nI b9)), (9, .int (nI sl)), (7, .int x_5), (5, .long x_3), (0, .ref h0), (1, .long p1), (3, .long p2)]) hx hb dX2_symbolOf_95 hl (k := 2) rfl (by first | exact nI_1 _ | exact nI_add _ _) (by decide) rfl (fun ls hl => ?_)
            refine lv_goto (tgt := 24) hx hb dX2_symbolOf_98 (by decide) ?_
            refine ih_7 (i + 1)  _ _ ls ?_ (by omega) (hP.sub (ws' := [(h0, .inr (2, fs0)), (tb, .inl (cI, 8192, .inl ft)), (hd, .inl (cL, 2100, .inr (.inl fh))), (tl, .inl (cL, 2100, .inr (.inl fl)))]) [0, 1, 2, 3] rfl) (hD.sub (ws' := [(h0, .inr (2, fs0)), (tb, .inl (cI, 8192, .inl ft)), (hd, .inl (cL, 2100, .inr (.inl fh))), (tl, .inl (cL, 2100, .inr (.inl fl)))]) [0, 1, 2, 3] (by decide) rfl) hS (lv_sub hl [0, 3, 4, 5, 6, 7] rfl)
            omega
          ·
            refine lv_iload hx hb dX2_symbolOf_92 (lv_at hl 0 rfl) ?_
            have hP9 := hP.sub (ws' := [(h0, .inr (2, fs0)), (tb, .inl (cI, 8192, .inl ft)), (hd, .inl (cL, 2100, .inr (.inl fh))), (tl, .inl (cL, 2100, .inr (.inl fl)))]) [0, 1, 2, 3] rfl
            have hD9 := hD.sub (ws' := [(h0, .inr (2, fs0)), (tb, .inl (cI, 8192, .inl ft)), (hd, .inl (cL, 2100, .inr (.inl fh))), (tl, .inl (cL, 2100, .inr (.inl fl)))]) [0, 1, 2, 3] (by decide) rfl
            have hK9 := hK.sub (tys' := [(cI, .int), (cL, .long)]) [0, 1] rfl
            exact W.iret (v := (nI b9)) hx hb hr (fun t ht hW => ⟨⟨(nI b9), ((fs0, ft, fh, fl, k)), rfl, ⟨hF0.sub [0] rfl, (sameF.rf (f := fs0)).mono (by decide), Nat.le_succ _, htb⟩, by rw [ht]; exact hP9, va_K.moved hW.alike hK9, hD9⟩, hS.F ht⟩) hS.2.2 dX2_symbolOf_94
def pw_c_X2_learnKnown : List Cond := .code yX2_learnKnown cX2_learnKnown 6 none :: ([.fieldLink RX2 31 "NeedHouse$Lexemes" "table" "[I", .methodLink RX2 100 yJ7_fill_53178, .static yJ7_fill_53178, .initialized RJ7, .code yJ7_fill_53178 cJ7_fill_53178 4 none, .fieldLink RX2 106 "NeedHouse$Lexemes" "symbols" "I", .methodLink RX2 73 yJ0_length_8abf5, .instanceMethod yJ0_length_8abf5, .selects RJ0 yJ0_length_8abf5 yJ0_length_8abf5, .initialized RJ0, .code yJ0_length_8abf5 cJ0_length_8abf5 1 (some .int), .fieldLink RJ0 9 "java/lang/String" "value" "[B", .methodLink RJ0 335 yJ0_coder_7d493, .instanceMethod yJ0_coder_7d493, .selects RJ0 yJ0_coder_7d493 yJ0_coder_7d493, .code yJ0_coder_7d493 cJ0_coder_7d493 1 (some .byte), .fieldLink RJ0 38 "java/lang/String" "COMPACT_STRINGS" "Z", .fieldLink RJ0 15 "java/lang/String" "coder" "B", .methodLink RX2 79 yJ0_charAt_5068e, .instanceMethod yJ0_charAt_5068e, .selects RJ0 yJ0_charAt_5068e yJ0_charAt_5068e, .code yJ0_charAt_5068e cJ0_charAt_5068e 2 (some .char), .methodLink RJ0 492 yJ0_isLatin1_aae02, .instanceMethod yJ0_isLatin1_aae02, .selects RJ0 yJ0_isLatin1_aae02 yJ0_isLatin1_aae02, .code yJ0_isLatin1_aae02 cJ0_isLatin1_aae02 1 (some .boolean), .methodLink RJ0 495 yJ1_charAt_3b067, .static yJ1_charAt_3b067, .initialized RJ1, .code yJ1_charAt_3b067 cJ1_charAt_3b067 2 (some .char), .methodLink RJ1 9 yJ0_checkIndex_df160, .static yJ0_checkIndex_df160, .code yJ0_checkIndex_df160 cJ0_checkIndex_df160 2 none, .fieldLink RJ0 1053 "jdk/internal/util/Preconditions" "SIOOBE_FORMATTER" "Ljava/util/function/BiFunction;", .methodLink RJ0 1059 yJ3_checkIndex_8e157, .static yJ3_checkIndex_8e157, .initialized RJ3, .code yJ3_checkIndex_8e157 cJ3_checkIndex_8e157 3 (some .int), .methodLink RX2 92 yX2_symbolOf, .instanceMethod yX2_symbolOf, .selects RX2 yX2_symbolOf yX2_symbolOf, .initialized RX2, .code yX2_symbolOf cX2_symbolOf 11 (some .int), .constantLong RX2 111 (31), .constantLong RX2 113 (-7046029254386353131), .methodLink RX2 115 yX2_newSymbol, .instanceMethod yX2_newSymbol, .selects RX2 yX2_newSymbol yX2_newSymbol, .code yX2_newSymbol cX2_newSymbol 6 (some .int), .fieldLink RX2 24 "NeedHouse$Lexemes" "head" "[J", .fieldLink RX2 28 "NeedHouse$Lexemes" "tail" "[J"] ++ (wsX20 ++ []))
set_option maxRecDepth 20000 in
theorem g_c_X2_learnKnown_c_J7_fill_53178_5 : GoodIn pw_c_X2_learnKnown (va_wsS RX2 100 yJ7_fill_53178 pw_c_J7_fill_53178) := goodIn_r _ [2, 3, 4, 5] rfl (by decide +kernel)
set_option maxRecDepth 20000 in
theorem g_c_X2_learnKnown_c_J0_length_8abf5_24 : GoodIn pw_c_X2_learnKnown (wsV RX2 73 RJ0 yJ0_length_8abf5 pw_c_J0_length_8abf5) := goodIn_r _ [7, 8, 9, 10, 11, 12, 13, 14, 15, 10, 16, 17, 18] rfl (by decide +kernel)
set_option maxRecDepth 20000 in
theorem g_c_X2_learnKnown_c_J0_charAt_5068e_34 : GoodIn pw_c_X2_learnKnown (wsV RX2 79 RJ0 yJ0_charAt_5068e pw_c_J0_charAt_5068e) := goodIn_r _ [19, 20, 21, 10, 22, 23, 24, 25, 10, 26, 17, 18, 12, 27, 28, 29, 30, 31, 32, 33, 34, 35, 36, 37, 38] rfl (by decide +kernel)
set_option maxRecDepth 20000 in
theorem g_c_X2_learnKnown_c_X2_symbolOf_49 : GoodIn pw_c_X2_learnKnown (wsV RX2 92 RX2 yX2_symbolOf pw_c_X2_symbolOf) := goodIn_r _ [39, 40, 41, 42, 43, 44, 45, 1, 46, 47, 48, 42, 49, 6, 50, 51, 52, 53, 54, 55, 56, 57, 58, 59, 60, 61, 62, 63] rfl (by decide +kernel)
set_option maxHeartbeats 4000000 in
set_option maxRecDepth 100000 in
theorem c_X2_learnKnown (l : Launch) (dC : Nat → ClassId) (dI : Nat → Nat → Nat) (sz : Nat) (cI : ClassId) (cL : ClassId) (h0 : Nat) (fs0 : List Value) (z1 : Int32) (tb : Nat) (ft : Nat → Int32) (hd : Nat) (fh : Nat → Int64) (tl : Nat) (fl : Nat → Int64) (qs : Nat) (qv : Nat) (g : Nat → Int32) (hF0 : hasF fs0 12 [(9, .int z1), (4, .ref hd), (5, .ref tl), (6, .ref tb)]) : Met l yX2_learnKnown pw_c_X2_learnKnown ({ frames := 4, cells := 0, slots := 0, locals := 85 }) (va_Pc [.ref h0] (fun U => U.heap.size = sz ∧ va_P (dC, dI) vwCl [(h0, .inr (2, fs0)), (tb, .inl (cI, 8192, .inl ft)), (hd, .inl (cL, 2100, .inr (.inl fh))), (tl, .inl (cL, 2100, .inr (.inl fl)))] U.heap ∧ va_K (dC, dI) vwCl [(cI, .int), (cL, .long)] U ∧ va_D (fun _ => True) [(h0, .inr (2, fs0)), (tb, .inl (cI, 8192, .inl ft)), (hd, .inl (cL, 2100, .inr (.inl fh))), (tl, .inl (cL, 2100, .inr (.inl fl)))] ∧ vk_R RX2 109 "data let in if then else case of say main Int Bool False True " qs U ∧ strO qs qv 62 g (va_A [(h0, .inr (2, fs0)), (tb, .inl (cI, 8192, .inl ft)), (hd, .inl (cL, 2100, .inr (.inl fh))), (tl, .inl (cL, 2100, .inr (.inl fl)))] sz) U U.heap ∧ jdkO (va_A [(h0, .inr (2, fs0)), (tb, .inl (cI, 8192, .inl ft)), (hd, .inl (cL, 2100, .inr (.inl fh))), (tl, .inl (cL, 2100, .inr (.inl fl)))] sz) U U.heap)) (va_Qv (fun (u : (List Value) × (Nat → Int32) × (Nat → Int64) × (Nat → Int64)) => sameF fs0 u.1 [9]) (fun (u : (List Value) × (Nat → Int32) × (Nat → Int64) × (Nat → Int64)) (t : State) => va_P (dC, dI) vwCl [(h0, .inr (2, u.1)), (tb, .inl (cI, 8192, .inl u.2.1)), (hd, .inl (cL, 2100, .inr (.inl u.2.2.1))), (tl, .inl (cL, 2100, .inr (.inl u.2.2.2)))] t.heap ∧ va_K (dC, dI) vwCl [(cI, .int), (cL, .long)] t ∧ va_D (va_A [(h0, .inr (2, fs0)), (tb, .inl (cI, 8192, .inl ft)), (hd, .inl (cL, 2100, .inr (.inl fh))), (tl, .inl (cL, 2100, .inr (.inl fl)))] sz) [(h0, .inr (2, u.1)), (tb, .inl (cI, 8192, .inl u.2.1)), (hd, .inl (cL, 2100, .inr (.inl u.2.2.1))), (tl, .inl (cL, 2100, .inr (.inl u.2.2.2)))]) (va_A [(h0, .inr (2, fs0)), (tb, .inl (cI, 8192, .inl ft)), (hd, .inl (cL, 2100, .inr (.inl fh))), (tl, .inl (cL, 2100, .inr (.inl fl)))] sz)) 0 0 (va_A [(h0, .inr (2, fs0)), (tb, .inl (cI, 8192, .inl ft)), (hd, .inl (cL, 2100, .inr (.inl fh))), (tl, .inl (cL, 2100, .inr (.inl fl)))] sz) := by
  refine Met.ofW (cc := cX2_learnKnown) (maxL := 6) (ret := none) (by decide) rfl ?_
  intro p e s m args below meth c s₁ B hml hv
  obtain ⟨rfl, hsz, hP, hK, hD0, hRk, hStr, hJ⟩ := hv
  have hx := B.exec
  have hb := B.bytes
  have hr := B.returns
  have hts := atoms_spec (ws := pw_c_X2_learnKnown) B.pre
  have hown : s.vm.findClass RX2 = some m.cls := findClass_of_methodNamed B.named
  have hlocks := B.notSynchronized
  have hin_X2 : ∀ w ∈ u_ws RX2 TX2 12, w ∈ pw_c_X2_learnKnown := fun w h => List.mem_cons_of_mem _ (List.mem_append_right _ (List.mem_append_left _ h))
  subst hsz
  have hD := hD0.self (sz := s.heap.size)
  generalize hAe : va_A [(h0, .inr (2, fs0)), (tb, .inl (cI, 8192, .inl ft)), (hd, .inl (cL, 2100, .inr (.inl fh))), (tl, .inl (cL, 2100, .inr (.inl fl)))] s.heap.size = A at hD hStr hJ ⊢
  have hA : ∀ q : Nat, s.heap.size ≤ q → A q := fun q h => by rw [← hAe]; exact Or.inr h
  have hS : va_S A s.heap s.heap [] := va_S.rf
  have hP : va_P (dC, dI) vwCl [(h0, .inr (2, fs0)), (tb, .inl (cI, 8192, .inl ft)), (hd, .inl (cL, 2100, .inr (.inl fh))), (tl, .inl (cL, 2100, .inr (.inl fl)))] s.heap := hP
  have hl := lv_entry ([.ref h0]) (n := 6) (Nat.le_of_ble_eq_true rfl)
  rw [lg_entry_eq]
  generalize (lg_sl ([.ref h0]) ++ List.replicate (6 - (lg_sl ([.ref h0])).length) Slot.unset).toArray = ls at hl ⊢
  have hl : lv_has ls 6 [(0, .ref h0)] := hl
  refine lv_aload_n hx hb dX2_learnKnown_0 rfl (lv_at hl 0 rfl) ?_
  refine va_get (D := (dC, dI)) (ci := 2) (v := .ref tb) (C := RX2) (T := TX2) (N := 12) hx hb hts hin_X2 hown hK hP 0 rfl rfl 6 (by decide) (hts (.fieldLink RX2 31 "NeedHouse$Lexemes" "table" "[I") (List.mem_of_getElem? (i := 1) rfl)) (fun _ h9 => h9) (hF0.at 3 rfl) dX2_learnKnown_1 ?_
  refine lv_iconst (v := 0) hx hb dX2_learnKnown_4 (by decide) ?_
  have hPc := hP.sub (ws' := [(tb, .inl (cI, 8192, .inl ft))]) [1] rfl
  have hDc := hD.sub (ws' := [(tb, .inl (cI, 8192, .inl ft))]) [1] (by decide) rfl
  have hKc := hK.sub (tys' := [(cI, .int)]) [0] rfl
  have hFc := va_free (wc := [(tb, .inl (cI, 8192, .inl ft))]) hD hS hA [1] rfl
  refine va_callv (va_runS (As := [.ref tb, .int 0]) (rest := []) ⟨hx, hb, hml, hown, hts⟩ (c_J7_fill_53178 l dC dI s.heap.size tb cI 8192 ft 0 (by decide)) (va_cwS 2 hts g_c_X2_learnKnown_c_J7_fill_53178_5 rfl rfl rfl (by decide +kernel) ⟨Nat.le_of_ble_eq_true rfl, Nat.le_of_ble_eq_true rfl⟩) ⟨fun a U g mk q => by obtain ⟨q0, q1, qP, qK, qD⟩ := q; exact ⟨q0, q1, qP, va_K.moved (u := U) (U := U.calling g mk a) (Vm.Alike.refl U.vm) qK, qD⟩, fun U hU hW => ⟨rfl, by rw [hU], by rw [hU]; exact hPc, va_K.moved hW.alike hKc, hDc.weaken (fun _ _ _ _ => trivial)⟩⟩ rfl rfl hl.1 rfl (lv_room (Nat.le_of_ble_eq_true rfl)) dX2_learnKnown_5 ⟨show 0 + 0 ≤ 0 by decide, show 0 + 0 ≤ 0 by decide⟩) hS (fun q _ h => hFc q h) hFc (fun u t H1 locs ht hvm hw hB hz1 hk1 hS => ?_)
  obtain ⟨fz_3, rfl⟩ : ∃ z, z = u := ⟨_, rfl⟩
  obtain ⟨hP1, hK1, hD1⟩ := hB
  rw [ht] at hP1
  have hK1 := va_K.moved hvm.symm hK1
  try dsimp only at hw hP1 hK1 hD1
  have hX_4 := hw
  obtain ⟨hP, hD⟩ := va_join (wr := [(h0, .inr (2, fs0)), (hd, .inl (cL, 2100, .inr (.inl fh))), (tl, .inl (cL, 2100, .inr (.inl fl)))]) (w1 := [(tb, .inl (cI, 8192, .inl fz_3))]) hP hD [1] [0, 2, 3] rfl rfl (by decide) (by decide) hk1 hFc hP1 hD1
  generalize H1 = H at hP hS ⊢
  have hK := (hK.sub (tys' := [(cL, .long)]) [1] rfl).app hK1
  have hK : va_K (dC, dI) vwCl [(cL, .long), (cI, .int)] s := hK
  have hP : va_P (dC, dI) vwCl [(h0, .inr (2, fs0)), (hd, .inl (cL, 2100, .inr (.inl fh))), (tl, .inl (cL, 2100, .inr (.inl fl))), (tb, .inl (cI, 8192, .inl fz_3))] H := hP
  have hD : va_D A [(h0, .inr (2, fs0)), (hd, .inl (cL, 2100, .inr (.inl fh))), (tl, .inl (cL, 2100, .inr (.inl fl))), (tb, .inl (cI, 8192, .inl fz_3))] := hD
  refine lv_aload_n hx hb dX2_learnKnown_8 rfl (lv_at hl 0 rfl) ?_
  refine lv_iconst (v := 0) hx hb dX2_learnKnown_9 (by decide) ?_
  refine va_put (D := (dC, dI)) (ci := 2) (v := .int 0) (ty := .int) (C := RX2) (T := TX2) (N := 12) hx hb hts hin_X2 tyX2 tyX2_ok nmX2 hown hK hP hD hS 0 rfl rfl 9 (by decide) (hts (.fieldLink RX2 106 "NeedHouse$Lexemes" "symbols" "I") (List.mem_of_getElem? (i := 6) rfl)) (fun _ h9 => h9) rfl (by decide +kernel) rfl rfl (by rw [hF0.1]; decide) dX2_learnKnown_10 (fun H locs hP hD hS => ?_)
  have hP : va_P (dC, dI) vwCl [(h0, .inr (2, (fs0.set 9 (.int 0)))), (hd, .inl (cL, 2100, .inr (.inl fh))), (tl, .inl (cL, 2100, .inr (.inl fl))), (tb, .inl (cI, 8192, .inl fz_3))] H := hP
  have hD : va_D A [(h0, .inr (2, (fs0.set 9 (.int 0)))), (hd, .inl (cL, 2100, .inr (.inl fh))), (tl, .inl (cL, 2100, .inr (.inl fl))), (tb, .inl (cI, 8192, .inl fz_3))] := hD
  have hF_5 := hF0.set 9 (.int 0) (l' := [(9, .int 0), (4, .ref hd), (5, .ref tl), (6, .ref tb)]) (by decide) rfl
  have hE_6 := (sameF.rf (f := fs0)).set 9 (.int 0)
  generalize fs0.set 9 (.int 0) = fs_7 at hP hD hF_5 hE_6
  have hP : va_P (dC, dI) vwCl [(h0, .inr (2, fs_7)), (hd, .inl (cL, 2100, .inr (.inl fh))), (tl, .inl (cL, 2100, .inr (.inl fl))), (tb, .inl (cI, 8192, .inl fz_3))] H := hP
  have hD : va_D A [(h0, .inr (2, fs_7)), (hd, .inl (cL, 2100, .inr (.inl fh))), (tl, .inl (cL, 2100, .inr (.inl fl))), (tb, .inl (cI, 8192, .inl fz_3))] := hD
  refine lv_lconst (v := 0) hx hb dX2_learnKnown_13 (by decide) ?_
  refine lv_lstore_n (lv' := [(1, .long 0), (0, .ref h0)]) hx hb dX2_learnKnown_14 rfl hl (by decide) rfl (fun ls hl => ?_)
  refine lv_iconst (v := 0) hx hb dX2_learnKnown_15 (by decide) ?_
  refine lv_istore_n (lv' := [(3, .int 0), (1, .long 0), (0, .ref h0)]) hx hb dX2_learnKnown_16 rfl hl (by decide) rfl (fun ls hl => ?_)
  refine lv_iconst (v := 0) hx hb dX2_learnKnown_17 (by decide) ?_
  refine lv_istore (lv' := [(4, .int 0), (3, .int 0), (1, .long 0), (0, .ref h0)]) hx hb dX2_learnKnown_18 hl (by decide) rfl (fun ls hl => ?_)
  have hF_8 : hasF fs_7 12 [(9, .int (nI 0)), (4, .ref hd), (5, .ref tl), (6, .ref tb)] := hF_5
  obtain ⟨f_9, hq_f_9⟩ : ∃ z, z = fz_3 := ⟨_, rfl⟩
  obtain ⟨f_10, hq_f_10⟩ : ∃ z, z = fh := ⟨_, rfl⟩
  obtain ⟨f_11, hq_f_11⟩ : ∃ z, z = fl := ⟨_, rfl⟩
  obtain ⟨fs_12, hq_fs_12⟩ : ∃ z, z = fs_7 := ⟨_, rfl⟩
  obtain ⟨i, hq_i⟩ : ∃ z : Nat, z = 0 := ⟨_, rfl⟩
  obtain ⟨lt, hq_lt⟩ : ∃ z : Int64, z = 0 := ⟨_, rfl⟩
  obtain ⟨kk, hq_kk⟩ : ∃ z : Int32, z = 0 := ⟨_, rfl⟩
  obtain ⟨K, hq_K⟩ : ∃ z : Nat, z = 0 := ⟨_, rfl⟩
  have hP : va_P (dC, dI) vwCl [(h0, .inr (2, fs_12)), (hd, .inl (cL, 2100, .inr (.inl f_10))), (tl, .inl (cL, 2100, .inr (.inl f_11))), (tb, .inl (cI, 8192, .inl f_9))] H := by (try rw [hq_f_9]); (try rw [hq_f_10]); (try rw [hq_f_11]); (try rw [hq_fs_12]); (try rw [hq_i]); (try rw [hq_lt]); (try rw [hq_kk]); (try rw [hq_K]); exact hP
  have hD : va_D A [(h0, .inr (2, fs_12)), (hd, .inl (cL, 2100, .inr (.inl f_10))), (tl, .inl (cL, 2100, .inr (.inl f_11))), (tb, .inl (cI, 8192, .inl f_9))] := by (try rw [hq_f_9]); (try rw [hq_f_10]); (try rw [hq_f_11]); (try rw [hq_fs_12]); (try rw [hq_i]); (try rw [hq_lt]); (try rw [hq_kk]); (try rw [hq_K]); exact hD
  have hl : lv_has ls 6 [(4, .int (nI i)), (3, .int kk), (1, .long lt), (0, .ref h0)] := by (try rw [hq_f_9]); (try rw [hq_f_10]); (try rw [hq_f_11]); (try rw [hq_fs_12]); (try rw [hq_i]); (try rw [hq_lt]); (try rw [hq_kk]); (try rw [hq_K]); exact hl
  have hi : i ≤ 62 := by (try rw [hq_f_9]); (try rw [hq_f_10]); (try rw [hq_f_11]); omega
  have hK9 : K ≤ i := by (try rw [hq_f_9]); (try rw [hq_f_10]); (try rw [hq_f_11]); omega
  have htb : tbI K f_9 := by (try rw [hq_f_9]); (try rw [hq_f_10]); (try rw [hq_f_11]); (try rw [hq_K]); exact tbI_0 hX_4
  have hF_13 : hasF fs_12 12 [(9, .int (nI K)), (4, .ref hd), (5, .ref tl), (6, .ref tb)] := by (try rw [hq_f_9]); (try rw [hq_f_10]); (try rw [hq_f_11]); (try rw [hq_fs_12]); (try rw [hq_i]); (try rw [hq_lt]); (try rw [hq_kk]); (try rw [hq_K]); exact hF_8
  have hE_14 : sameF fs0 fs_12 [9] := by (try rw [hq_f_9]); (try rw [hq_f_10]); (try rw [hq_f_11]); (try rw [hq_fs_12]); (try rw [hq_i]); (try rw [hq_lt]); (try rw [hq_kk]); (try rw [hq_K]); exact hE_6
  obtain ⟨fu_15, hfu_15⟩ : ∃ z : Nat, 62 - i < z := ⟨_, Nat.lt_succ_self _⟩
  clear hq_K
  clear hq_kk
  clear hq_lt
  clear hq_i
  clear hq_fs_12
  clear hq_f_11
  clear hq_f_10
  clear hq_f_9
  revert hl
  revert hS
  revert hD
  revert hP
  revert hE_14
  revert hF_13
  revert htb
  revert hK9
  revert hi
  revert hfu_15
  generalize ls = ls_, locs = locs_, H = H_
  revert ls_
  revert locs_
  revert H_
  revert fs_12
  revert f_11
  revert f_10
  revert f_9
  revert K
  revert kk
  revert lt
  revert i
  induction fu_15 with
  | zero => intros; exact absurd (by assumption) (Nat.not_lt_zero _)
  | succ fu_15 ih_16 =>
    intro i lt kk K f_9 f_10 f_11 fs_12 H locs ls hfu_15 hi hK9 htb hF_13 hE_14 hP hD hS hl
    refine lv_iload hx hb dX2_learnKnown_20 (lv_at hl 0 rfl) ?_
    refine va_ldcS hx hb hown hRk dX2_learnKnown_22 ?_
    have hPc := hP.sub (ws' := []) [] rfl
    have hDc := hD.sub (ws' := []) [] (by decide) rfl
    have hKc := hK.sub (tys' := []) [] rfl
    have hFc := va_free (wc := []) hD hS hA [] rfl
    refine va_calli (va_runV (As := []) (rest := [.int (nI i)]) ⟨hx, hb, hml, hown, hts⟩ (c_J0_length_8abf5 l dC dI H.size qs qv 62 g ) (cwV 0 hts g_c_X2_learnKnown_c_J0_length_8abf5_24 rfl rfl rfl (by decide +kernel) ⟨Nat.le_of_ble_eq_true rfl, Nat.le_of_ble_eq_true rfl⟩) ⟨fun a U g mk q => by obtain ⟨q0, q1, qP, qK, qD, hStr, hJ⟩ := q; exact ⟨q0, q1, qP, va_K.moved (u := U) (U := U.calling g mk a) (Vm.Alike.refl U.vm) qK, qD, hStr.moved (Vm.Alike.refl U.vm), hJ.moved (Vm.Alike.refl U.vm)⟩, by obtain ⟨cell, h1, h2, h3, -⟩ := hStr.1.kept hS.2.1; exact ⟨cell, h1, h2, h3⟩, fun U hU hW => ⟨rfl, by rw [hU], by rw [hU]; exact hPc, va_K.moved hW.alike hKc, hDc.weaken (fun _ _ _ _ => trivial), by rw [hU]; exact ((hStr.kept hS.2.1).narrow hFc).moved hW.alike, by rw [hU]; exact ((hJ.kept hS.2.1).narrow hFc).moved hW.alike⟩⟩ rfl rfl hl.1 rfl (lv_room (Nat.le_of_ble_eq_true rfl)) dX2_learnKnown_24 ⟨show 0 + 0 ≤ 0 by decide, show 0 + 0 ≤ 0 by decide⟩) hS (fun q _ h => hFc q h) hFc (fun r_17 u t H1 locs ht hvm hw hB hz1 hk1 hS => ?_)
    obtain ⟨hP1, hK1, hD1⟩ := hB
    rw [ht] at hP1
    have hK1 := va_K.moved hvm.symm hK1
    try dsimp only at hw hP1 hK1 hD1
    have hr_19 := hw
    obtain ⟨hP, hD⟩ := va_join (wr := [(h0, .inr (2, fs_12)), (hd, .inl (cL, 2100, .inr (.inl f_10))), (tl, .inl (cL, 2100, .inr (.inl f_11))), (tb, .inl (cI, 8192, .inl f_9))]) (w1 := []) hP hD [] [0, 1, 2, 3] rfl rfl (by decide) (by decide) hk1 hFc hP1 hD1
    generalize H1 = H at hP hS ⊢
    have hK := (hK.sub (tys' := [(cL, .long), (cI, .int)]) [0, 1] rfl).app hK1
    have hK : va_K (dC, dI) vwCl [(cL, .long), (cI, .int)] s := hK
    have hP : va_P (dC, dI) vwCl [(h0, .inr (2, fs_12)), (hd, .inl (cL, 2100, .inr (.inl f_10))), (tl, .inl (cL, 2100, .inr (.inl f_11))), (tb, .inl (cI, 8192, .inl f_9))] H := hP
    have hD : va_D A [(h0, .inr (2, fs_12)), (hd, .inl (cL, 2100, .inr (.inl f_10))), (tl, .inl (cL, 2100, .inr (.inl f_11))), (tb, .inl (cI, 8192, .inl f_9))] := hD
    subst hr_19
    refine lv_icmp_ge (tgt := 83) hx hb dX2_learnKnown_27 (by decide) (fun c_20 => ?_) (fun c_20 => ?_)
    ·
      have hP9 := hP.sub (ws' := [(h0, .inr (2, fs_12)), (tb, .inl (cI, 8192, .inl f_9)), (hd, .inl (cL, 2100, .inr (.inl f_10))), (tl, .inl (cL, 2100, .inr (.inl f_11)))]) [0, 3, 1, 2] rfl
      have hD9 := hD.sub (ws' := [(h0, .inr (2, fs_12)), (tb, .inl (cI, 8192, .inl f_9)), (hd, .inl (cL, 2100, .inr (.inl f_10))), (tl, .inl (cL, 2100, .inr (.inl f_11)))]) [0, 3, 1, 2] (by decide) rfl
      have hK9 := hK.sub (tys' := [(cI, .int), (cL, .long)]) [1, 0] rfl
      exact W.vret hx hb hr (fun t ht hW => ⟨⟨((fs_12, f_9, f_10, f_11)), rfl, hE_14.mono (by decide), by rw [ht]; exact hP9, va_K.moved hW.alike hK9, hD9⟩, hS.F ht⟩) hS.2.2 dX2_learnKnown_83
    ·
      have hlt : i < 62 := by rcases Nat.lt_or_ge i 62 with q | q; exact q; exact absurd (nI_le q (by omega)) c_20
      refine va_ldcS hx hb hown hRk dX2_learnKnown_30 ?_
      refine lv_iload hx hb dX2_learnKnown_32 (lv_at hl 0 rfl) ?_
      have hPc := hP.sub (ws' := []) [] rfl
      have hDc := hD.sub (ws' := []) [] (by decide) rfl
      have hKc := hK.sub (tys' := []) [] rfl
      have hFc := va_free (wc := []) hD hS hA [] rfl
      refine va_calli (va_runV (As := [.int (nI i)]) (rest := []) ⟨hx, hb, hml, hown, hts⟩ (c_J0_charAt_5068e l dC dI H.size qs qv 62 g i (hlt)) (cwV 1 hts g_c_X2_learnKnown_c_J0_charAt_5068e_34 rfl rfl rfl (by decide +kernel) ⟨Nat.le_of_ble_eq_true rfl, Nat.le_of_ble_eq_true rfl⟩) ⟨fun a U g mk q => by obtain ⟨q0, q1, qP, qK, qD, hStr, hJ⟩ := q; exact ⟨q0, q1, qP, va_K.moved (u := U) (U := U.calling g mk a) (Vm.Alike.refl U.vm) qK, qD, hStr.moved (Vm.Alike.refl U.vm), hJ.moved (Vm.Alike.refl U.vm)⟩, by obtain ⟨cell, h1, h2, h3, -⟩ := hStr.1.kept hS.2.1; exact ⟨cell, h1, h2, h3⟩, fun U hU hW => ⟨rfl, by rw [hU], by rw [hU]; exact hPc, va_K.moved hW.alike hKc, hDc.weaken (fun _ _ _ _ => trivial), by rw [hU]; exact ((hStr.kept hS.2.1).narrow hFc).moved hW.alike, by rw [hU]; exact ((hJ.kept hS.2.1).narrow hFc).moved hW.alike⟩⟩ rfl rfl hl.1 rfl (lv_room (Nat.le_of_ble_eq_true rfl)) dX2_learnKnown_34 ⟨show 0 + 0 ≤ 0 by decide, show 0 + 0 ≤ 0 by decide⟩) hS (fun q _ h => hFc q h) hFc (fun r_21 u t H1 locs ht hvm hw hB hz1 hk1 hS => ?_)
      obtain ⟨hP1, hK1, hD1⟩ := hB
      rw [ht] at hP1
      have hK1 := va_K.moved hvm.symm hK1
      try dsimp only at hw hP1 hK1 hD1
      have hr_23 := hw
      obtain ⟨hP, hD⟩ := va_join (wr := [(h0, .inr (2, fs_12)), (hd, .inl (cL, 2100, .inr (.inl f_10))), (tl, .inl (cL, 2100, .inr (.inl f_11))), (tb, .inl (cI, 8192, .inl f_9))]) (w1 := []) hP hD [] [0, 1, 2, 3] rfl rfl (by decide) (by decide) hk1 hFc hP1 hD1
      generalize H1 = H at hP hS ⊢
      have hK := (hK.sub (tys' := [(cL, .long), (cI, .int)]) [0, 1] rfl).app hK1
      have hK : va_K (dC, dI) vwCl [(cL, .long), (cI, .int)] s := hK
      have hP : va_P (dC, dI) vwCl [(h0, .inr (2, fs_12)), (hd, .inl (cL, 2100, .inr (.inl f_10))), (tl, .inl (cL, 2100, .inr (.inl f_11))), (tb, .inl (cI, 8192, .inl f_9))] H := hP
      have hD : va_D A [(h0, .inr (2, fs_12)), (hd, .inl (cL, 2100, .inr (.inl f_10))), (tl, .inl (cL, 2100, .inr (.inl f_11))), (tb, .inl (cI, 8192, .inl f_9))] := hD
      subst hr_23
      refine lv_istore (lv' := [(5, .int (g i &&& 255)), (4, .int (nI i)), (3, .int kk), (1, .long lt), (0, .ref h0)]) hx hb dX2_learnKnown_37 hl (by decide) rfl (fun ls hl => ?_)
      refine lv_iload hx hb dX2_learnKnown_39 (lv_at hl 0 rfl) ?_
      refine lv_bipush (v := 32) hx hb dX2_learnKnown_41 (by decide) ?_
      refine lv_icmp_ne (tgt := 60) hx hb dX2_learnKnown_43 (by decide) (fun c_24 => ?_) (fun c_24 => ?_)
      ·
        refine lv_lload_n hx hb dX2_learnKnown_60 rfl (lv_at hl 3 rfl) ?_
        refine lv_iload hx hb dX2_learnKnown_61 (lv_at hl 0 rfl) ?_
        obtain ⟨x_25, ex_25⟩ : ∃ z, ((g i &&& 255) : Int32).toInt64 = z := ⟨_, rfl⟩
        refine lv_i2l (v := x_25) hx hb dX2_learnKnown_63 ex_25 ?_
        refine lv_bipush (v := 56) hx hb dX2_learnKnown_64 (by decide) ?_
        refine lv_bipush (v := 8) hx hb dX2_learnKnown_66 (by decide) ?_
        refine lv_iload_n hx hb dX2_learnKnown_68 rfl (lv_at hl 2 rfl) ?_
        refine lv_imul hx hb dX2_learnKnown_69 ?_
        refine lv_topi (fun x_26 ex_26 => ?_)
        refine lv_isub hx hb dX2_learnKnown_70 ?_
        refine lv_topi (fun x_27 ex_27 => ?_)
        obtain ⟨x_28, ex_28⟩ : ∃ z, (x_25 : Int64) <<< ((x_27 : Int32).toInt64 &&& 63) = z := ⟨_, rfl⟩
        refine lv_lshl (v := x_28) hx hb dX2_learnKnown_71 ex_28 ?_
        refine lv_lor hx hb dX2_learnKnown_72 ?_
        refine lv_topl (fun x_29 ex_29 => ?_)
        refine lv_lstore_n (lv' := [(1, .long x_29), (5, .int (g i &&& 255)), (4, .int (nI i)), (3, .int kk), (0, .ref h0)]) hx hb dX2_learnKnown_73 rfl hl (by decide) rfl (fun ls hl => ?_)
        refine lv_iinc (v := (kk + 1)) (lv' := [(3, .int (kk + 1)), (1, .long x_29), (5, .int (g i &&& 255)), (4, .int (nI i)), (0, .ref h0)]) hx hb dX2_learnKnown_74 hl (k := 3) rfl (rfl) (by decide) rfl (fun ls hl => ?_)
        refine lv_iinc (v := (nI (i + 1))) (lv' := [(4, .int (nI (i + 1))), (3, .int (kk + 1)), (1, .long x_29), (5, .int (g i &&& 255)), (0, .ref h0)]) hx hb dX2_learnKnown_77 hl (k := 3) rfl (by first | exact nI_1 _ | exact nI_add _ _) (by decide) rfl (fun ls hl => ?_)
        refine lv_goto (tgt := 20) hx hb dX2_learnKnown_80 (by decide) ?_
        refine ih_16 (i + 1) (x_29) ((kk + 1)) (K) (f_9) (f_10) (f_11) (fs_12) _ _ ls ?_ (by omega) (by omega) (htb) (hF_13.sub [0, 1, 2, 3] rfl) (hE_14.mono (by decide)) (hP.sub (ws' := [(h0, .inr (2, (fs_12))), (hd, .inl (cL, 2100, .inr (.inl (f_10)))), (tl, .inl (cL, 2100, .inr (.inl (f_11)))), (tb, .inl (cI, 8192, .inl (f_9)))]) [0, 1, 2, 3] rfl) (hD.sub (ws' := [(h0, .inr (2, (fs_12))), (hd, .inl (cL, 2100, .inr (.inl (f_10)))), (tl, .inl (cL, 2100, .inr (.inl (f_11)))), (tb, .inl (cI, 8192, .inl (f_9)))]) [0, 1, 2, 3] (by decide) rfl) hS (lv_sub hl [0, 1, 2, 4] rfl)
        omega
      ·
        refine lv_aload_n hx hb dX2_learnKnown_46 rfl (lv_at hl 4 rfl) ?_
        refine lv_lload_n hx hb dX2_learnKnown_47 rfl (lv_at hl 3 rfl) ?_
        refine lv_lconst (v := 0) hx hb dX2_learnKnown_48 (by decide) ?_
        have hPc := hP.sub (ws' := [(h0, .inr (2, fs_12)), (tb, .inl (cI, 8192, .inl f_9)), (hd, .inl (cL, 2100, .inr (.inl f_10))), (tl, .inl (cL, 2100, .inr (.inl f_11)))]) [0, 3, 1, 2] rfl
        have hDc := hD.sub (ws' := [(h0, .inr (2, fs_12)), (tb, .inl (cI, 8192, .inl f_9)), (hd, .inl (cL, 2100, .inr (.inl f_10))), (tl, .inl (cL, 2100, .inr (.inl f_11)))]) [0, 3, 1, 2] (by decide) rfl
        have hKc := hK.sub (tys' := [(cI, .int), (cL, .long)]) [1, 0] rfl
        have hFc := va_free (wc := [(h0, .inr (2, fs_12)), (tb, .inl (cI, 8192, .inl f_9)), (hd, .inl (cL, 2100, .inr (.inl f_10))), (tl, .inl (cL, 2100, .inr (.inl f_11)))]) hD hS hA [0, 3, 1, 2] rfl
        refine va_calli (va_runV (As := [.long lt, .long 0]) (rest := []) ⟨hx, hb, hml, hown, hts⟩ (c_X2_symbolOf l dC dI H.size cI cL h0 fs_12 tb f_9 hd f_10 tl f_11 K lt 0 (hF_13.sub [0, 1, 2, 3] rfl) (by omega) (htb)) (cwV 2 hts g_c_X2_learnKnown_c_X2_symbolOf_49 rfl rfl rfl (by decide +kernel) ⟨Nat.le_of_ble_eq_true rfl, Nat.le_of_ble_eq_true rfl⟩) ⟨fun a U g mk q => by obtain ⟨q0, q1, qP, qK, qD⟩ := q; exact ⟨q0, q1, qP, va_K.moved (u := U) (U := U.calling g mk a) (Vm.Alike.refl U.vm) qK, qD⟩, va_recv hKc hPc (ci := 2) (q0 := 0) rfl rfl, fun U hU hW => ⟨rfl, by rw [hU], by rw [hU]; exact hPc, va_K.moved hW.alike hKc, hDc.weaken (fun _ _ _ _ => trivial)⟩⟩ rfl rfl hl.1 rfl (lv_room (Nat.le_of_ble_eq_true rfl)) dX2_learnKnown_49 ⟨show 0 + 0 ≤ 0 by decide, show 0 + 0 ≤ 0 by decide⟩) hS (fun q _ h => hFc q h) hFc (fun r_30 u t H1 locs ht hvm hw hB hz1 hk1 hS => ?_)
        obtain ⟨fs0z_32, ftz_33, fhz_34, flz_35, K1_36⟩ := u
        obtain ⟨hP1, hK1, hD1⟩ := hB
        rw [ht] at hP1
        have hK1 := va_K.moved hvm.symm hK1
        try dsimp only at hw hP1 hK1 hD1
        obtain ⟨hF_37, hE_38, hX_39, hX_40⟩ := hw
        obtain ⟨hP, hD⟩ := va_join (wr := []) (w1 := [(h0, .inr (2, fs0z_32)), (tb, .inl (cI, 8192, .inl ftz_33)), (hd, .inl (cL, 2100, .inr (.inl fhz_34))), (tl, .inl (cL, 2100, .inr (.inl flz_35)))]) hP hD [0, 3, 1, 2] [] rfl rfl (by decide) (by decide) hk1 hFc hP1 hD1
        generalize H1 = H at hP hS ⊢
        have hK := (hK.sub (tys' := []) [] rfl).app hK1
        have hK : va_K (dC, dI) vwCl [(cI, .int), (cL, .long)] s := hK
        have hP : va_P (dC, dI) vwCl [(h0, .inr (2, fs0z_32)), (tb, .inl (cI, 8192, .inl ftz_33)), (hd, .inl (cL, 2100, .inr (.inl fhz_34))), (tl, .inl (cL, 2100, .inr (.inl flz_35)))] H := hP
        have hD : va_D A [(h0, .inr (2, fs0z_32)), (tb, .inl (cI, 8192, .inl ftz_33)), (hd, .inl (cL, 2100, .inr (.inl fhz_34))), (tl, .inl (cL, 2100, .inr (.inl flz_35)))] := hD
        have hF_41 := hF_13.same hE_38 (l' := [(4, .ref hd), (5, .ref tl), (6, .ref tb)]) rfl
        have hF_42 := hF_37.app hF_41
        have hE_43 := hE_14.trans hE_38
        have hK8 := hX_39
        refine lv_pop hx hb dX2_learnKnown_52 rfl ?_
        refine lv_lconst (v := 0) hx hb dX2_learnKnown_53 (by decide) ?_
        refine lv_lstore_n (lv' := [(1, .long 0), (5, .int (g i &&& 255)), (4, .int (nI i)), (3, .int kk), (0, .ref h0)]) hx hb dX2_learnKnown_54 rfl hl (by decide) rfl (fun ls hl => ?_)
        refine lv_iconst (v := 0) hx hb dX2_learnKnown_55 (by decide) ?_
        refine lv_istore_n (lv' := [(3, .int 0), (1, .long 0), (5, .int (g i &&& 255)), (4, .int (nI i)), (0, .ref h0)]) hx hb dX2_learnKnown_56 rfl hl (by decide) rfl (fun ls hl => ?_)
        refine lv_goto (tgt := 77) hx hb dX2_learnKnown_57 (by decide) ?_
        refine lv_iinc (v := (nI (i + 1))) (lv' := [(4, .int (nI (i + 1))), (3, .int 0), (1, .long 0), (5, .int (g i &&& 255)), (0, .ref h0)]) hx hb dX2_learnKnown_77 hl (k := 3) rfl (by first | exact nI_1 _ | exact nI_add _ _) (by decide) rfl (fun ls hl => ?_)
        refine lv_goto (tgt := 20) hx hb dX2_learnKnown_80 (by decide) ?_
        refine ih_16 (i + 1) (0) (0) (K1_36) (ftz_33) (fhz_34) (flz_35) (fs0z_32) _ _ ls ?_ (by omega) (by omega) (hX_40) (hF_42.sub [0, 1, 2, 3] rfl) (hE_43.mono (by decide)) (hP.sub (ws' := [(h0, .inr (2, (fs0z_32))), (hd, .inl (cL, 2100, .inr (.inl (fhz_34)))), (tl, .inl (cL, 2100, .inr (.inl (flz_35)))), (tb, .inl (cI, 8192, .inl (ftz_33)))]) [0, 2, 3, 1] rfl) (hD.sub (ws' := [(h0, .inr (2, (fs0z_32))), (hd, .inl (cL, 2100, .inr (.inl (fhz_34)))), (tl, .inl (cL, 2100, .inr (.inl (flz_35)))), (tb, .inl (cI, 8192, .inl (ftz_33)))]) [0, 2, 3, 1] (by decide) rfl) hS (lv_sub hl [0, 1, 2, 4] rfl)
        omega
def pw_c_X2_scan : List Cond := .code yX2_scan cX2_scan 8 none :: ([.fieldLink RX2 34 "NeedHouse$Lexemes" "size" "I", .fieldLink RX2 38 "NeedHouse$Lexemes" "faultKind" "I", .methodLink RX2 41 yX2_learnKnown, .instanceMethod yX2_learnKnown, .selects RX2 yX2_learnKnown yX2_learnKnown, .initialized RX2, .code yX2_learnKnown cX2_learnKnown 6 none, .fieldLink RX2 31 "NeedHouse$Lexemes" "table" "[I", .methodLink RX2 100 yJ7_fill_53178, .static yJ7_fill_53178, .initialized RJ7, .code yJ7_fill_53178 cJ7_fill_53178 4 none, .fieldLink RX2 106 "NeedHouse$Lexemes" "symbols" "I", .methodLink RX2 73 yJ0_length_8abf5, .instanceMethod yJ0_length_8abf5, .selects RJ0 yJ0_length_8abf5 yJ0_length_8abf5, .initialized RJ0, .code yJ0_length_8abf5 cJ0_length_8abf5 1 (some .int), .fieldLink RJ0 9 "java/lang/String" "value" "[B", .methodLink RJ0 335 yJ0_coder_7d493, .instanceMethod yJ0_coder_7d493, .selects RJ0 yJ0_coder_7d493 yJ0_coder_7d493, .code yJ0_coder_7d493 cJ0_coder_7d493 1 (some .byte), .fieldLink RJ0 38 "java/lang/String" "COMPACT_STRINGS" "Z", .fieldLink RJ0 15 "java/lang/String" "coder" "B", .methodLink RX2 79 yJ0_charAt_5068e, .instanceMethod yJ0_charAt_5068e, .selects RJ0 yJ0_charAt_5068e yJ0_charAt_5068e, .code yJ0_charAt_5068e cJ0_charAt_5068e 2 (some .char), .methodLink RJ0 492 yJ0_isLatin1_aae02, .instanceMethod yJ0_isLatin1_aae02, .selects RJ0 yJ0_isLatin1_aae02 yJ0_isLatin1_aae02, .code yJ0_isLatin1_aae02 cJ0_isLatin1_aae02 1 (some .boolean), .methodLink RJ0 495 yJ1_charAt_3b067, .static yJ1_charAt_3b067, .initialized RJ1, .code yJ1_charAt_3b067 cJ1_charAt_3b067 2 (some .char), .methodLink RJ1 9 yJ0_checkIndex_df160, .static yJ0_checkIndex_df160, .code yJ0_checkIndex_df160 cJ0_checkIndex_df160 2 none, .fieldLink RJ0 1053 "jdk/internal/util/Preconditions" "SIOOBE_FORMATTER" "Ljava/util/function/BiFunction;", .methodLink RJ0 1059 yJ3_checkIndex_8e157, .static yJ3_checkIndex_8e157, .initialized RJ3, .code yJ3_checkIndex_8e157 cJ3_checkIndex_8e157 3 (some .int), .methodLink RX2 92 yX2_symbolOf, .instanceMethod yX2_symbolOf, .selects RX2 yX2_symbolOf yX2_symbolOf, .code yX2_symbolOf cX2_symbolOf 11 (some .int), .constantLong RX2 111 (31), .constantLong RX2 113 (-7046029254386353131), .methodLink RX2 115 yX2_newSymbol, .instanceMethod yX2_newSymbol, .selects RX2 yX2_newSymbol yX2_newSymbol, .code yX2_newSymbol cX2_newSymbol 6 (some .int), .fieldLink RX2 24 "NeedHouse$Lexemes" "head" "[J", .fieldLink RX2 28 "NeedHouse$Lexemes" "tail" "[J", .fieldLink RX2 11 "NeedHouse$Lexemes" "kind" "[I", .fieldLink RX2 15 "NeedHouse$Lexemes" "line" "[I", .fieldLink RX2 18 "NeedHouse$Lexemes" "column" "[I", .fieldLink RX2 21 "NeedHouse$Lexemes" "value" "[I"] ++ (wsX20 ++ []))
set_option maxRecDepth 20000 in
theorem g_c_X2_scan_c_X2_learnKnown_11 : GoodIn pw_c_X2_scan (wsV RX2 41 RX2 yX2_learnKnown pw_c_X2_learnKnown) := goodIn_r _ [3, 4, 5, 6, 7, 8, 9, 10, 11, 12, 13, 14, 15, 16, 17, 18, 19, 20, 21, 22, 23, 24, 25, 26, 27, 28, 29, 30, 31, 32, 33, 34, 35, 36, 37, 38, 39, 40, 41, 42, 43, 44, 45, 46, 47, 48, 6, 49, 50, 51, 52, 53, 54, 55, 56, 57, 62, 63, 64, 65, 66, 67, 68, 69, 70, 71, 72, 73] rfl (by decide +kernel)
set_option maxHeartbeats 4000000 in
set_option maxRecDepth 100000 in
theorem c_X2_scan (l : Launch) (dC : Nat → ClassId) (dI : Nat → Nat → Nat) (sz : Nat) (cI : ClassId) (cL : ClassId) (h0 : Nat) (fs0 : List Value) (z1 : Int32) (z2 : Int32) (z3 : Int32) (k1 : Nat) (g1 : Nat → Int32) (k3 : Nat) (g3 : Nat → Int32) (k2 : Nat) (g2 : Nat → Int32) (k4 : Nat) (g4 : Nat → Int32) (tb : Nat) (ft : Nat → Int32) (hd : Nat) (fh : Nat → Int64) (tl : Nat) (fl : Nat → Int64) (qs : Nat) (qv : Nat) (g : Nat → Int32) (qt : Nat) (hF0 : hasF fs0 12 [(9, .int z1), (7, .int z2), (10, .int z3), (0, .ref k1), (1, .ref k3), (2, .ref k2), (3, .ref k4), (4, .ref hd), (5, .ref tl), (6, .ref tb)]) : Met l yX2_scan pw_c_X2_scan ({ frames := 5, cells := 0, slots := 0, locals := 110 }) (va_Pc [.ref h0, .ref qt, .int 0] (fun U => U.heap.size = sz ∧ va_P (dC, dI) vwCl [(h0, .inr (2, fs0)), (k1, .inl (cI, 4004, .inl g1)), (k3, .inl (cI, 4004, .inl g3)), (k2, .inl (cI, 4004, .inl g2)), (k4, .inl (cI, 4004, .inl g4)), (tb, .inl (cI, 8192, .inl ft)), (hd, .inl (cL, 2100, .inr (.inl fh))), (tl, .inl (cL, 2100, .inr (.inl fl)))] U.heap ∧ va_K (dC, dI) vwCl [(cI, .int), (cL, .long)] U ∧ va_D (fun _ => True) [(h0, .inr (2, fs0)), (k1, .inl (cI, 4004, .inl g1)), (k3, .inl (cI, 4004, .inl g3)), (k2, .inl (cI, 4004, .inl g2)), (k4, .inl (cI, 4004, .inl g4)), (tb, .inl (cI, 8192, .inl ft)), (hd, .inl (cL, 2100, .inr (.inl fh))), (tl, .inl (cL, 2100, .inr (.inl fl)))] ∧ vk_R RX2 109 "data let in if then else case of say main Int Bool False True " qs U ∧ strO qs qv 62 g (va_A [(h0, .inr (2, fs0)), (k1, .inl (cI, 4004, .inl g1)), (k3, .inl (cI, 4004, .inl g3)), (k2, .inl (cI, 4004, .inl g2)), (k4, .inl (cI, 4004, .inl g4)), (tb, .inl (cI, 8192, .inl ft)), (hd, .inl (cL, 2100, .inr (.inl fh))), (tl, .inl (cL, 2100, .inr (.inl fl)))] sz) U U.heap ∧ jdkO (va_A [(h0, .inr (2, fs0)), (k1, .inl (cI, 4004, .inl g1)), (k3, .inl (cI, 4004, .inl g3)), (k2, .inl (cI, 4004, .inl g2)), (k4, .inl (cI, 4004, .inl g4)), (tb, .inl (cI, 8192, .inl ft)), (hd, .inl (cL, 2100, .inr (.inl fh))), (tl, .inl (cL, 2100, .inr (.inl fl)))] sz) U U.heap)) (va_Qv (fun (u : (List Value) × (Nat → Int32) × (Nat → Int32) × (Nat → Int32) × (Nat → Int32) × (Nat → Int32) × (Nat → Int64) × (Nat → Int64)) => hasF u.1 12 [(7, .int 0), (10, .int 0)] ∧ sameF fs0 u.1 [9, 7, 10] ∧ u.2.1 0 = 0 ∧ u.2.2.1 0 = 1 ∧ u.2.2.2.1 0 = 0) (fun (u : (List Value) × (Nat → Int32) × (Nat → Int32) × (Nat → Int32) × (Nat → Int32) × (Nat → Int32) × (Nat → Int64) × (Nat → Int64)) (t : State) => va_P (dC, dI) vwCl [(h0, .inr (2, u.1)), (k1, .inl (cI, 4004, .inl u.2.1)), (k3, .inl (cI, 4004, .inl u.2.2.1)), (k2, .inl (cI, 4004, .inl u.2.2.2.1)), (k4, .inl (cI, 4004, .inl u.2.2.2.2.1)), (tb, .inl (cI, 8192, .inl u.2.2.2.2.2.1)), (hd, .inl (cL, 2100, .inr (.inl u.2.2.2.2.2.2.1))), (tl, .inl (cL, 2100, .inr (.inl u.2.2.2.2.2.2.2)))] t.heap ∧ va_K (dC, dI) vwCl [(cI, .int), (cL, .long)] t ∧ va_D (va_A [(h0, .inr (2, fs0)), (k1, .inl (cI, 4004, .inl g1)), (k3, .inl (cI, 4004, .inl g3)), (k2, .inl (cI, 4004, .inl g2)), (k4, .inl (cI, 4004, .inl g4)), (tb, .inl (cI, 8192, .inl ft)), (hd, .inl (cL, 2100, .inr (.inl fh))), (tl, .inl (cL, 2100, .inr (.inl fl)))] sz) [(h0, .inr (2, u.1)), (k1, .inl (cI, 4004, .inl u.2.1)), (k3, .inl (cI, 4004, .inl u.2.2.1)), (k2, .inl (cI, 4004, .inl u.2.2.2.1)), (k4, .inl (cI, 4004, .inl u.2.2.2.2.1)), (tb, .inl (cI, 8192, .inl u.2.2.2.2.2.1)), (hd, .inl (cL, 2100, .inr (.inl u.2.2.2.2.2.2.1))), (tl, .inl (cL, 2100, .inr (.inl u.2.2.2.2.2.2.2)))]) (va_A [(h0, .inr (2, fs0)), (k1, .inl (cI, 4004, .inl g1)), (k3, .inl (cI, 4004, .inl g3)), (k2, .inl (cI, 4004, .inl g2)), (k4, .inl (cI, 4004, .inl g4)), (tb, .inl (cI, 8192, .inl ft)), (hd, .inl (cL, 2100, .inr (.inl fh))), (tl, .inl (cL, 2100, .inr (.inl fl)))] sz)) 0 0 (va_A [(h0, .inr (2, fs0)), (k1, .inl (cI, 4004, .inl g1)), (k3, .inl (cI, 4004, .inl g3)), (k2, .inl (cI, 4004, .inl g2)), (k4, .inl (cI, 4004, .inl g4)), (tb, .inl (cI, 8192, .inl ft)), (hd, .inl (cL, 2100, .inr (.inl fh))), (tl, .inl (cL, 2100, .inr (.inl fl)))] sz) := by
  refine Met.ofW (cc := cX2_scan) (maxL := 8) (ret := none) (by decide) rfl ?_
  intro p e s m args below meth c s₁ B hml hv
  obtain ⟨rfl, hsz, hP, hK, hD0, hRk, hStr, hJ⟩ := hv
  have hx := B.exec
  have hb := B.bytes
  have hr := B.returns
  have hts := atoms_spec (ws := pw_c_X2_scan) B.pre
  have hown : s.vm.findClass RX2 = some m.cls := findClass_of_methodNamed B.named
  have hlocks := B.notSynchronized
  have hin_X2 : ∀ w ∈ u_ws RX2 TX2 12, w ∈ pw_c_X2_scan := fun w h => List.mem_cons_of_mem _ (List.mem_append_right _ (List.mem_append_left _ h))
  subst hsz
  have hD := hD0.self (sz := s.heap.size)
  generalize hAe : va_A [(h0, .inr (2, fs0)), (k1, .inl (cI, 4004, .inl g1)), (k3, .inl (cI, 4004, .inl g3)), (k2, .inl (cI, 4004, .inl g2)), (k4, .inl (cI, 4004, .inl g4)), (tb, .inl (cI, 8192, .inl ft)), (hd, .inl (cL, 2100, .inr (.inl fh))), (tl, .inl (cL, 2100, .inr (.inl fl)))] s.heap.size = A at hD hStr hJ ⊢
  have hA : ∀ q : Nat, s.heap.size ≤ q → A q := fun q h => by rw [← hAe]; exact Or.inr h
  have hS : va_S A s.heap s.heap [] := va_S.rf
  have hP : va_P (dC, dI) vwCl [(h0, .inr (2, fs0)), (k1, .inl (cI, 4004, .inl g1)), (k3, .inl (cI, 4004, .inl g3)), (k2, .inl (cI, 4004, .inl g2)), (k4, .inl (cI, 4004, .inl g4)), (tb, .inl (cI, 8192, .inl ft)), (hd, .inl (cL, 2100, .inr (.inl fh))), (tl, .inl (cL, 2100, .inr (.inl fl)))] s.heap := hP
  have hl := lv_entry ([.ref h0, .ref qt, .int 0]) (n := 8) (Nat.le_of_ble_eq_true rfl)
  rw [lg_entry_eq]
  generalize (lg_sl ([.ref h0, .ref qt, .int 0]) ++ List.replicate (8 - (lg_sl ([.ref h0, .ref qt, .int 0])).length) Slot.unset).toArray = ls at hl ⊢
  have hl : lv_has ls 8 [(0, .ref h0), (1, .ref qt), (2, .int 0)] := hl
  refine lv_aload_n hx hb dX2_scan_0 rfl (lv_at hl 0 rfl) ?_
  refine lv_iconst (v := 0) hx hb dX2_scan_1 (by decide) ?_
  refine va_put (D := (dC, dI)) (ci := 2) (v := .int 0) (ty := .int) (C := RX2) (T := TX2) (N := 12) hx hb hts hin_X2 tyX2 tyX2_ok nmX2 hown hK hP hD hS 0 rfl rfl 7 (by decide) (hts (.fieldLink RX2 34 "NeedHouse$Lexemes" "size" "I") (List.mem_of_getElem? (i := 1) rfl)) (fun _ h9 => h9) rfl (by decide +kernel) rfl rfl (by rw [hF0.1]; decide) dX2_scan_2 (fun H locs hP hD hS => ?_)
  have hP : va_P (dC, dI) vwCl [(h0, .inr (2, (fs0.set 7 (.int 0)))), (k1, .inl (cI, 4004, .inl g1)), (k3, .inl (cI, 4004, .inl g3)), (k2, .inl (cI, 4004, .inl g2)), (k4, .inl (cI, 4004, .inl g4)), (tb, .inl (cI, 8192, .inl ft)), (hd, .inl (cL, 2100, .inr (.inl fh))), (tl, .inl (cL, 2100, .inr (.inl fl)))] H := hP
  have hD : va_D A [(h0, .inr (2, (fs0.set 7 (.int 0)))), (k1, .inl (cI, 4004, .inl g1)), (k3, .inl (cI, 4004, .inl g3)), (k2, .inl (cI, 4004, .inl g2)), (k4, .inl (cI, 4004, .inl g4)), (tb, .inl (cI, 8192, .inl ft)), (hd, .inl (cL, 2100, .inr (.inl fh))), (tl, .inl (cL, 2100, .inr (.inl fl)))] := hD
  have hF_1 := hF0.set 7 (.int 0) (l' := [(7, .int 0), (9, .int z1), (10, .int z3), (0, .ref k1), (1, .ref k3), (2, .ref k2), (3, .ref k4), (4, .ref hd), (5, .ref tl), (6, .ref tb)]) (by decide) rfl
  have hE_2 := (sameF.rf (f := fs0)).set 7 (.int 0)
  generalize fs0.set 7 (.int 0) = fs_3 at hP hD hF_1 hE_2
  have hP : va_P (dC, dI) vwCl [(h0, .inr (2, fs_3)), (k1, .inl (cI, 4004, .inl g1)), (k3, .inl (cI, 4004, .inl g3)), (k2, .inl (cI, 4004, .inl g2)), (k4, .inl (cI, 4004, .inl g4)), (tb, .inl (cI, 8192, .inl ft)), (hd, .inl (cL, 2100, .inr (.inl fh))), (tl, .inl (cL, 2100, .inr (.inl fl)))] H := hP
  have hD : va_D A [(h0, .inr (2, fs_3)), (k1, .inl (cI, 4004, .inl g1)), (k3, .inl (cI, 4004, .inl g3)), (k2, .inl (cI, 4004, .inl g2)), (k4, .inl (cI, 4004, .inl g4)), (tb, .inl (cI, 8192, .inl ft)), (hd, .inl (cL, 2100, .inr (.inl fh))), (tl, .inl (cL, 2100, .inr (.inl fl)))] := hD
  refine lv_aload_n hx hb dX2_scan_5 rfl (lv_at hl 0 rfl) ?_
  refine lv_iconst (v := 0) hx hb dX2_scan_6 (by decide) ?_
  refine va_put (D := (dC, dI)) (ci := 2) (v := .int 0) (ty := .int) (C := RX2) (T := TX2) (N := 12) hx hb hts hin_X2 tyX2 tyX2_ok nmX2 hown hK hP hD hS 0 rfl rfl 10 (by decide) (hts (.fieldLink RX2 38 "NeedHouse$Lexemes" "faultKind" "I") (List.mem_of_getElem? (i := 2) rfl)) (fun _ h9 => h9) rfl (by decide +kernel) rfl rfl (by rw [hF_1.1]; decide) dX2_scan_7 (fun H locs hP hD hS => ?_)
  have hP : va_P (dC, dI) vwCl [(h0, .inr (2, (fs_3.set 10 (.int 0)))), (k1, .inl (cI, 4004, .inl g1)), (k3, .inl (cI, 4004, .inl g3)), (k2, .inl (cI, 4004, .inl g2)), (k4, .inl (cI, 4004, .inl g4)), (tb, .inl (cI, 8192, .inl ft)), (hd, .inl (cL, 2100, .inr (.inl fh))), (tl, .inl (cL, 2100, .inr (.inl fl)))] H := hP
  have hD : va_D A [(h0, .inr (2, (fs_3.set 10 (.int 0)))), (k1, .inl (cI, 4004, .inl g1)), (k3, .inl (cI, 4004, .inl g3)), (k2, .inl (cI, 4004, .inl g2)), (k4, .inl (cI, 4004, .inl g4)), (tb, .inl (cI, 8192, .inl ft)), (hd, .inl (cL, 2100, .inr (.inl fh))), (tl, .inl (cL, 2100, .inr (.inl fl)))] := hD
  have hF_4 := hF_1.set 10 (.int 0) (l' := [(10, .int 0), (7, .int 0), (9, .int z1), (0, .ref k1), (1, .ref k3), (2, .ref k2), (3, .ref k4), (4, .ref hd), (5, .ref tl), (6, .ref tb)]) (by decide) rfl
  have hE_5 := hE_2.set 10 (.int 0)
  generalize fs_3.set 10 (.int 0) = fs_6 at hP hD hF_4 hE_5
  have hP : va_P (dC, dI) vwCl [(h0, .inr (2, fs_6)), (k1, .inl (cI, 4004, .inl g1)), (k3, .inl (cI, 4004, .inl g3)), (k2, .inl (cI, 4004, .inl g2)), (k4, .inl (cI, 4004, .inl g4)), (tb, .inl (cI, 8192, .inl ft)), (hd, .inl (cL, 2100, .inr (.inl fh))), (tl, .inl (cL, 2100, .inr (.inl fl)))] H := hP
  have hD : va_D A [(h0, .inr (2, fs_6)), (k1, .inl (cI, 4004, .inl g1)), (k3, .inl (cI, 4004, .inl g3)), (k2, .inl (cI, 4004, .inl g2)), (k4, .inl (cI, 4004, .inl g4)), (tb, .inl (cI, 8192, .inl ft)), (hd, .inl (cL, 2100, .inr (.inl fh))), (tl, .inl (cL, 2100, .inr (.inl fl)))] := hD
  refine lv_aload_n hx hb dX2_scan_10 rfl (lv_at hl 0 rfl) ?_
  have hPc := hP.sub (ws' := [(h0, .inr (2, fs_6)), (tb, .inl (cI, 8192, .inl ft)), (hd, .inl (cL, 2100, .inr (.inl fh))), (tl, .inl (cL, 2100, .inr (.inl fl)))]) [0, 5, 6, 7] rfl
  have hDc := hD.sub (ws' := [(h0, .inr (2, fs_6)), (tb, .inl (cI, 8192, .inl ft)), (hd, .inl (cL, 2100, .inr (.inl fh))), (tl, .inl (cL, 2100, .inr (.inl fl)))]) [0, 5, 6, 7] (by decide) rfl
  have hKc := hK.sub (tys' := [(cI, .int), (cL, .long)]) [0, 1] rfl
  have hFc := va_free (wc := [(h0, .inr (2, fs_6)), (tb, .inl (cI, 8192, .inl ft)), (hd, .inl (cL, 2100, .inr (.inl fh))), (tl, .inl (cL, 2100, .inr (.inl fl)))]) hD hS hA [0, 5, 6, 7] rfl
  refine va_callv (va_runV (As := []) (rest := []) ⟨hx, hb, hml, hown, hts⟩ (c_X2_learnKnown l dC dI H.size cI cL h0 fs_6 z1 tb ft hd fh tl fl qs qv g (hF_4.sub [2, 7, 8, 9] rfl)) (cwV 0 hts g_c_X2_scan_c_X2_learnKnown_11 rfl rfl rfl (by decide +kernel) ⟨Nat.le_of_ble_eq_true rfl, Nat.le_of_ble_eq_true rfl⟩) ⟨fun a U g mk q => by obtain ⟨q0, q1, qP, qK, qD, hRk, hStr, hJ⟩ := q; exact ⟨q0, q1, qP, va_K.moved (u := U) (U := U.calling g mk a) (Vm.Alike.refl U.vm) qK, qD, vk_R.same rfl hRk, hStr.moved (Vm.Alike.refl U.vm), hJ.moved (Vm.Alike.refl U.vm)⟩, va_recv hKc hPc (ci := 2) (q0 := 0) rfl rfl, fun U hU hW => ⟨rfl, by rw [hU], by rw [hU]; exact hPc, va_K.moved hW.alike hKc, hDc.weaken (fun _ _ _ _ => trivial), vk_R.warm hW hRk, by rw [hU]; exact ((hStr.kept hS.2.1).narrow hFc).moved hW.alike, by rw [hU]; exact ((hJ.kept hS.2.1).narrow hFc).moved hW.alike⟩⟩ rfl rfl hl.1 rfl (lv_room (Nat.le_of_ble_eq_true rfl)) dX2_scan_11 ⟨show 0 + 0 ≤ 0 by decide, show 0 + 0 ≤ 0 by decide⟩) hS (fun q _ h => hFc q h) hFc (fun u t H1 locs ht hvm hw hB hz1 hk1 hS => ?_)
  obtain ⟨fs0z_9, ftz_10, fhz_11, flz_12⟩ := u
  obtain ⟨hP1, hK1, hD1⟩ := hB
  rw [ht] at hP1
  have hK1 := va_K.moved hvm.symm hK1
  try dsimp only at hw hP1 hK1 hD1
  have hE_13 := hw
  obtain ⟨hP, hD⟩ := va_join (wr := [(k1, .inl (cI, 4004, .inl g1)), (k3, .inl (cI, 4004, .inl g3)), (k2, .inl (cI, 4004, .inl g2)), (k4, .inl (cI, 4004, .inl g4))]) (w1 := [(h0, .inr (2, fs0z_9)), (tb, .inl (cI, 8192, .inl ftz_10)), (hd, .inl (cL, 2100, .inr (.inl fhz_11))), (tl, .inl (cL, 2100, .inr (.inl flz_12)))]) hP hD [0, 5, 6, 7] [1, 2, 3, 4] rfl rfl (by decide) (by decide) hk1 hFc hP1 hD1
  generalize H1 = H at hP hS ⊢
  have hK := (hK.sub (tys' := []) [] rfl).app hK1
  have hK : va_K (dC, dI) vwCl [(cI, .int), (cL, .long)] s := hK
  have hP : va_P (dC, dI) vwCl [(k1, .inl (cI, 4004, .inl g1)), (k3, .inl (cI, 4004, .inl g3)), (k2, .inl (cI, 4004, .inl g2)), (k4, .inl (cI, 4004, .inl g4)), (h0, .inr (2, fs0z_9)), (tb, .inl (cI, 8192, .inl ftz_10)), (hd, .inl (cL, 2100, .inr (.inl fhz_11))), (tl, .inl (cL, 2100, .inr (.inl flz_12)))] H := hP
  have hD : va_D A [(k1, .inl (cI, 4004, .inl g1)), (k3, .inl (cI, 4004, .inl g3)), (k2, .inl (cI, 4004, .inl g2)), (k4, .inl (cI, 4004, .inl g4)), (h0, .inr (2, fs0z_9)), (tb, .inl (cI, 8192, .inl ftz_10)), (hd, .inl (cL, 2100, .inr (.inl fhz_11))), (tl, .inl (cL, 2100, .inr (.inl flz_12)))] := hD
  have hF_14 := hF_4.same hE_13 (l' := [(10, .int 0), (7, .int 0), (0, .ref k1), (1, .ref k3), (2, .ref k2), (3, .ref k4), (4, .ref hd), (5, .ref tl), (6, .ref tb)]) rfl
  have hE_15 := hE_5.trans hE_13
  refine lv_iconst (v := 0) hx hb dX2_scan_14 (by decide) ?_
  refine lv_istore_n (lv' := [(3, .int 0), (0, .ref h0), (1, .ref qt), (2, .int 0)]) hx hb dX2_scan_15 rfl hl (by decide) rfl (fun ls hl => ?_)
  refine lv_iconst (v := 1) hx hb dX2_scan_16 (by decide) ?_
  refine lv_istore (lv' := [(4, .int 1), (3, .int 0), (0, .ref h0), (1, .ref qt), (2, .int 0)]) hx hb dX2_scan_17 hl (by decide) rfl (fun ls hl => ?_)
  refine lv_iconst (v := 0) hx hb dX2_scan_19 (by decide) ?_
  refine lv_istore (lv' := [(5, .int 0), (4, .int 1), (3, .int 0), (0, .ref h0), (1, .ref qt), (2, .int 0)]) hx hb dX2_scan_20 hl (by decide) rfl (fun ls hl => ?_)
  refine lv_iconst (v := 0) hx hb dX2_scan_22 (by decide) ?_
  refine lv_istore (lv' := [(6, .int 0), (5, .int 0), (4, .int 1), (3, .int 0), (0, .ref h0), (1, .ref qt), (2, .int 0)]) hx hb dX2_scan_23 hl (by decide) rfl (fun ls hl => ?_)
  refine lv_iload hx hb dX2_scan_25 (lv_at hl 0 rfl) ?_
  refine lv_sipush (v := 4000) hx hb dX2_scan_27 (by decide) ?_
  refine lv_icmp_gt (tgt := 163) hx hb dX2_scan_30 (by decide) (fun c_16 => absurd c_16 (by decide)) (fun _ => ?_)
  refine lv_iload_n hx hb dX2_scan_33 rfl (lv_at hl 3 rfl) ?_
  refine lv_iload_n hx hb dX2_scan_34 rfl (lv_at hl 6 rfl) ?_
  refine lv_icmp_ge (tgt := 163) hx hb dX2_scan_35 (by decide) (fun _ => ?_) (fun c_17 => absurd (by decide) c_17)
  refine lv_aload_n hx hb dX2_scan_163 rfl (lv_at hl 4 rfl) ?_
  refine va_get (D := (dC, dI)) (ci := 2) (v := .ref k1) (C := RX2) (T := TX2) (N := 12) hx hb hts hin_X2 hown hK hP 4 rfl rfl 0 (by decide) (hts (.fieldLink RX2 11 "NeedHouse$Lexemes" "kind" "[I") (List.mem_of_getElem? (i := 58) rfl)) (fun _ h9 => h9) (hF_14.at 2 rfl) dX2_scan_164 ?_
  refine lv_aload_n hx hb dX2_scan_167 rfl (lv_at hl 4 rfl) ?_
  refine va_get (D := (dC, dI)) (ci := 2) (v := .int 0) (C := RX2) (T := TX2) (N := 12) hx hb hts hin_X2 hown hK hP 4 rfl rfl 7 (by decide) (hts (.fieldLink RX2 34 "NeedHouse$Lexemes" "size" "I") (List.mem_of_getElem? (i := 1) rfl)) (fun _ h9 => h9) (hF_14.at 1 rfl) dX2_scan_168 ?_
  refine lv_iconst (v := 0) hx hb dX2_scan_171 (by decide) ?_
  refine va_iast hx hb hK hP hD hS 0 0 rfl rfl (show vp_in (nI 0) 4004 from vp_in_nI (by decide) (by decide)) dX2_scan_172 (fun H locs hP hD hS => ?_)
  have hP : va_P (dC, dI) vwCl [(k1, .inl (cI, 4004, .inl (upd g1 (0 : Int32).toNatClampNeg 0))), (k3, .inl (cI, 4004, .inl g3)), (k2, .inl (cI, 4004, .inl g2)), (k4, .inl (cI, 4004, .inl g4)), (h0, .inr (2, fs0z_9)), (tb, .inl (cI, 8192, .inl ftz_10)), (hd, .inl (cL, 2100, .inr (.inl fhz_11))), (tl, .inl (cL, 2100, .inr (.inl flz_12)))] H := hP
  have hD : va_D A [(k1, .inl (cI, 4004, .inl (upd g1 (0 : Int32).toNatClampNeg 0))), (k3, .inl (cI, 4004, .inl g3)), (k2, .inl (cI, 4004, .inl g2)), (k4, .inl (cI, 4004, .inl g4)), (h0, .inr (2, fs0z_9)), (tb, .inl (cI, 8192, .inl ftz_10)), (hd, .inl (cL, 2100, .inr (.inl fhz_11))), (tl, .inl (cL, 2100, .inr (.inl flz_12)))] := hD
  have hk_19 : (upd g1 (0 : Int32).toNatClampNeg 0) 0 = 0 := by rw [show (0 : Int32).toNatClampNeg = 0 from by decide]; exact pk_us
  generalize upd g1 (0 : Int32).toNatClampNeg 0 = f_18 at hP hD hk_19
  have hP : va_P (dC, dI) vwCl [(k1, .inl (cI, 4004, .inl f_18)), (k3, .inl (cI, 4004, .inl g3)), (k2, .inl (cI, 4004, .inl g2)), (k4, .inl (cI, 4004, .inl g4)), (h0, .inr (2, fs0z_9)), (tb, .inl (cI, 8192, .inl ftz_10)), (hd, .inl (cL, 2100, .inr (.inl fhz_11))), (tl, .inl (cL, 2100, .inr (.inl flz_12)))] H := hP
  have hD : va_D A [(k1, .inl (cI, 4004, .inl f_18)), (k3, .inl (cI, 4004, .inl g3)), (k2, .inl (cI, 4004, .inl g2)), (k4, .inl (cI, 4004, .inl g4)), (h0, .inr (2, fs0z_9)), (tb, .inl (cI, 8192, .inl ftz_10)), (hd, .inl (cL, 2100, .inr (.inl fhz_11))), (tl, .inl (cL, 2100, .inr (.inl flz_12)))] := hD
  refine lv_aload_n hx hb dX2_scan_173 rfl (lv_at hl 4 rfl) ?_
  refine va_get (D := (dC, dI)) (ci := 2) (v := .ref k3) (C := RX2) (T := TX2) (N := 12) hx hb hts hin_X2 hown hK hP 4 rfl rfl 1 (by decide) (hts (.fieldLink RX2 15 "NeedHouse$Lexemes" "line" "[I") (List.mem_of_getElem? (i := 59) rfl)) (fun _ h9 => h9) (hF_14.at 3 rfl) dX2_scan_174 ?_
  refine lv_aload_n hx hb dX2_scan_177 rfl (lv_at hl 4 rfl) ?_
  refine va_get (D := (dC, dI)) (ci := 2) (v := .int 0) (C := RX2) (T := TX2) (N := 12) hx hb hts hin_X2 hown hK hP 4 rfl rfl 7 (by decide) (hts (.fieldLink RX2 34 "NeedHouse$Lexemes" "size" "I") (List.mem_of_getElem? (i := 1) rfl)) (fun _ h9 => h9) (hF_14.at 1 rfl) dX2_scan_178 ?_
  refine lv_iload hx hb dX2_scan_181 (lv_at hl 2 rfl) ?_
  refine va_iast hx hb hK hP hD hS 1 0 rfl rfl (show vp_in (nI 0) 4004 from vp_in_nI (by decide) (by decide)) dX2_scan_183 (fun H locs hP hD hS => ?_)
  have hP : va_P (dC, dI) vwCl [(k1, .inl (cI, 4004, .inl f_18)), (k3, .inl (cI, 4004, .inl (upd g3 (0 : Int32).toNatClampNeg 1))), (k2, .inl (cI, 4004, .inl g2)), (k4, .inl (cI, 4004, .inl g4)), (h0, .inr (2, fs0z_9)), (tb, .inl (cI, 8192, .inl ftz_10)), (hd, .inl (cL, 2100, .inr (.inl fhz_11))), (tl, .inl (cL, 2100, .inr (.inl flz_12)))] H := hP
  have hD : va_D A [(k1, .inl (cI, 4004, .inl f_18)), (k3, .inl (cI, 4004, .inl (upd g3 (0 : Int32).toNatClampNeg 1))), (k2, .inl (cI, 4004, .inl g2)), (k4, .inl (cI, 4004, .inl g4)), (h0, .inr (2, fs0z_9)), (tb, .inl (cI, 8192, .inl ftz_10)), (hd, .inl (cL, 2100, .inr (.inl fhz_11))), (tl, .inl (cL, 2100, .inr (.inl flz_12)))] := hD
  have hk_21 : (upd g3 (0 : Int32).toNatClampNeg 1) 0 = 1 := by rw [show (0 : Int32).toNatClampNeg = 0 from by decide]; exact pk_us
  generalize upd g3 (0 : Int32).toNatClampNeg 1 = f_20 at hP hD hk_21
  have hP : va_P (dC, dI) vwCl [(k1, .inl (cI, 4004, .inl f_18)), (k3, .inl (cI, 4004, .inl f_20)), (k2, .inl (cI, 4004, .inl g2)), (k4, .inl (cI, 4004, .inl g4)), (h0, .inr (2, fs0z_9)), (tb, .inl (cI, 8192, .inl ftz_10)), (hd, .inl (cL, 2100, .inr (.inl fhz_11))), (tl, .inl (cL, 2100, .inr (.inl flz_12)))] H := hP
  have hD : va_D A [(k1, .inl (cI, 4004, .inl f_18)), (k3, .inl (cI, 4004, .inl f_20)), (k2, .inl (cI, 4004, .inl g2)), (k4, .inl (cI, 4004, .inl g4)), (h0, .inr (2, fs0z_9)), (tb, .inl (cI, 8192, .inl ftz_10)), (hd, .inl (cL, 2100, .inr (.inl fhz_11))), (tl, .inl (cL, 2100, .inr (.inl flz_12)))] := hD
  refine lv_aload_n hx hb dX2_scan_184 rfl (lv_at hl 4 rfl) ?_
  refine va_get (D := (dC, dI)) (ci := 2) (v := .ref k2) (C := RX2) (T := TX2) (N := 12) hx hb hts hin_X2 hown hK hP 4 rfl rfl 2 (by decide) (hts (.fieldLink RX2 18 "NeedHouse$Lexemes" "column" "[I") (List.mem_of_getElem? (i := 60) rfl)) (fun _ h9 => h9) (hF_14.at 4 rfl) dX2_scan_185 ?_
  refine lv_aload_n hx hb dX2_scan_188 rfl (lv_at hl 4 rfl) ?_
  refine va_get (D := (dC, dI)) (ci := 2) (v := .int 0) (C := RX2) (T := TX2) (N := 12) hx hb hts hin_X2 hown hK hP 4 rfl rfl 7 (by decide) (hts (.fieldLink RX2 34 "NeedHouse$Lexemes" "size" "I") (List.mem_of_getElem? (i := 1) rfl)) (fun _ h9 => h9) (hF_14.at 1 rfl) dX2_scan_189 ?_
  refine lv_iconst (v := 0) hx hb dX2_scan_192 (by decide) ?_
  refine va_iast hx hb hK hP hD hS 2 0 rfl rfl (show vp_in (nI 0) 4004 from vp_in_nI (by decide) (by decide)) dX2_scan_193 (fun H locs hP hD hS => ?_)
  have hP : va_P (dC, dI) vwCl [(k1, .inl (cI, 4004, .inl f_18)), (k3, .inl (cI, 4004, .inl f_20)), (k2, .inl (cI, 4004, .inl (upd g2 (0 : Int32).toNatClampNeg 0))), (k4, .inl (cI, 4004, .inl g4)), (h0, .inr (2, fs0z_9)), (tb, .inl (cI, 8192, .inl ftz_10)), (hd, .inl (cL, 2100, .inr (.inl fhz_11))), (tl, .inl (cL, 2100, .inr (.inl flz_12)))] H := hP
  have hD : va_D A [(k1, .inl (cI, 4004, .inl f_18)), (k3, .inl (cI, 4004, .inl f_20)), (k2, .inl (cI, 4004, .inl (upd g2 (0 : Int32).toNatClampNeg 0))), (k4, .inl (cI, 4004, .inl g4)), (h0, .inr (2, fs0z_9)), (tb, .inl (cI, 8192, .inl ftz_10)), (hd, .inl (cL, 2100, .inr (.inl fhz_11))), (tl, .inl (cL, 2100, .inr (.inl flz_12)))] := hD
  have hk_23 : (upd g2 (0 : Int32).toNatClampNeg 0) 0 = 0 := by rw [show (0 : Int32).toNatClampNeg = 0 from by decide]; exact pk_us
  generalize upd g2 (0 : Int32).toNatClampNeg 0 = f_22 at hP hD hk_23
  have hP : va_P (dC, dI) vwCl [(k1, .inl (cI, 4004, .inl f_18)), (k3, .inl (cI, 4004, .inl f_20)), (k2, .inl (cI, 4004, .inl f_22)), (k4, .inl (cI, 4004, .inl g4)), (h0, .inr (2, fs0z_9)), (tb, .inl (cI, 8192, .inl ftz_10)), (hd, .inl (cL, 2100, .inr (.inl fhz_11))), (tl, .inl (cL, 2100, .inr (.inl flz_12)))] H := hP
  have hD : va_D A [(k1, .inl (cI, 4004, .inl f_18)), (k3, .inl (cI, 4004, .inl f_20)), (k2, .inl (cI, 4004, .inl f_22)), (k4, .inl (cI, 4004, .inl g4)), (h0, .inr (2, fs0z_9)), (tb, .inl (cI, 8192, .inl ftz_10)), (hd, .inl (cL, 2100, .inr (.inl fhz_11))), (tl, .inl (cL, 2100, .inr (.inl flz_12)))] := hD
  refine lv_aload_n hx hb dX2_scan_194 rfl (lv_at hl 4 rfl) ?_
  refine va_get (D := (dC, dI)) (ci := 2) (v := .ref k4) (C := RX2) (T := TX2) (N := 12) hx hb hts hin_X2 hown hK hP 4 rfl rfl 3 (by decide) (hts (.fieldLink RX2 21 "NeedHouse$Lexemes" "value" "[I") (List.mem_of_getElem? (i := 61) rfl)) (fun _ h9 => h9) (hF_14.at 5 rfl) dX2_scan_195 ?_
  refine lv_aload_n hx hb dX2_scan_198 rfl (lv_at hl 4 rfl) ?_
  refine va_get (D := (dC, dI)) (ci := 2) (v := .int 0) (C := RX2) (T := TX2) (N := 12) hx hb hts hin_X2 hown hK hP 4 rfl rfl 7 (by decide) (hts (.fieldLink RX2 34 "NeedHouse$Lexemes" "size" "I") (List.mem_of_getElem? (i := 1) rfl)) (fun _ h9 => h9) (hF_14.at 1 rfl) dX2_scan_199 ?_
  refine lv_iconst (v := 0) hx hb dX2_scan_202 (by decide) ?_
  refine va_iast hx hb hK hP hD hS 3 0 rfl rfl (show vp_in (nI 0) 4004 from vp_in_nI (by decide) (by decide)) dX2_scan_203 (fun H locs hP hD hS => ?_)
  have hP : va_P (dC, dI) vwCl [(k1, .inl (cI, 4004, .inl f_18)), (k3, .inl (cI, 4004, .inl f_20)), (k2, .inl (cI, 4004, .inl f_22)), (k4, .inl (cI, 4004, .inl (upd g4 (0 : Int32).toNatClampNeg 0))), (h0, .inr (2, fs0z_9)), (tb, .inl (cI, 8192, .inl ftz_10)), (hd, .inl (cL, 2100, .inr (.inl fhz_11))), (tl, .inl (cL, 2100, .inr (.inl flz_12)))] H := hP
  have hD : va_D A [(k1, .inl (cI, 4004, .inl f_18)), (k3, .inl (cI, 4004, .inl f_20)), (k2, .inl (cI, 4004, .inl f_22)), (k4, .inl (cI, 4004, .inl (upd g4 (0 : Int32).toNatClampNeg 0))), (h0, .inr (2, fs0z_9)), (tb, .inl (cI, 8192, .inl ftz_10)), (hd, .inl (cL, 2100, .inr (.inl fhz_11))), (tl, .inl (cL, 2100, .inr (.inl flz_12)))] := hD
  have hk_25 : (upd g4 (0 : Int32).toNatClampNeg 0) 0 = 0 := by rw [show (0 : Int32).toNatClampNeg = 0 from by decide]; exact pk_us
  generalize upd g4 (0 : Int32).toNatClampNeg 0 = f_24 at hP hD hk_25
  have hP : va_P (dC, dI) vwCl [(k1, .inl (cI, 4004, .inl f_18)), (k3, .inl (cI, 4004, .inl f_20)), (k2, .inl (cI, 4004, .inl f_22)), (k4, .inl (cI, 4004, .inl f_24)), (h0, .inr (2, fs0z_9)), (tb, .inl (cI, 8192, .inl ftz_10)), (hd, .inl (cL, 2100, .inr (.inl fhz_11))), (tl, .inl (cL, 2100, .inr (.inl flz_12)))] H := hP
  have hD : va_D A [(k1, .inl (cI, 4004, .inl f_18)), (k3, .inl (cI, 4004, .inl f_20)), (k2, .inl (cI, 4004, .inl f_22)), (k4, .inl (cI, 4004, .inl f_24)), (h0, .inr (2, fs0z_9)), (tb, .inl (cI, 8192, .inl ftz_10)), (hd, .inl (cL, 2100, .inr (.inl fhz_11))), (tl, .inl (cL, 2100, .inr (.inl flz_12)))] := hD
  have hP9 := hP.sub (ws' := [(h0, .inr (2, fs0z_9)), (k1, .inl (cI, 4004, .inl f_18)), (k3, .inl (cI, 4004, .inl f_20)), (k2, .inl (cI, 4004, .inl f_22)), (k4, .inl (cI, 4004, .inl f_24)), (tb, .inl (cI, 8192, .inl ftz_10)), (hd, .inl (cL, 2100, .inr (.inl fhz_11))), (tl, .inl (cL, 2100, .inr (.inl flz_12)))]) [4, 0, 1, 2, 3, 5, 6, 7] rfl
  have hD9 := hD.sub (ws' := [(h0, .inr (2, fs0z_9)), (k1, .inl (cI, 4004, .inl f_18)), (k3, .inl (cI, 4004, .inl f_20)), (k2, .inl (cI, 4004, .inl f_22)), (k4, .inl (cI, 4004, .inl f_24)), (tb, .inl (cI, 8192, .inl ftz_10)), (hd, .inl (cL, 2100, .inr (.inl fhz_11))), (tl, .inl (cL, 2100, .inr (.inl flz_12)))]) [4, 0, 1, 2, 3, 5, 6, 7] (by decide) rfl
  have hK9 := hK.sub (tys' := [(cI, .int), (cL, .long)]) [0, 1] rfl
  exact W.vret hx hb hr (fun t ht hW => ⟨⟨((fs0z_9, f_18, f_20, f_22, f_24, ftz_10, fhz_11, flz_12)), rfl, ⟨hF_14.sub [1, 0] rfl, hE_15.mono (by decide), hk_19, hk_21, hk_23⟩, by rw [ht]; exact hP9, va_K.moved hW.alike hK9, hD9⟩, hS.F ht⟩) hS.2.2 dX2_scan_204
