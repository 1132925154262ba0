theorem dX6_clear_0 : decode cX6_clear 0 = .ok (.aload_n 0, 1) := by decide +kernel
theorem dX6_clear_1 : decode cX6_clear 1 = .ok (.iconst 0, 1) := by decide +kernel
theorem dX6_clear_2 : decode cX6_clear 2 = .ok (.putfield 19, 3) := by decide +kernel
theorem dX6_clear_5 : decode cX6_clear 5 = .ok (.return_, 1) := by decide +kernel
theorem dX3_forget_0 : decode cX3_forget 0 = .ok (.aload_n 0, 1) := by decide +kernel
theorem dX3_forget_1 : decode cX3_forget 1 = .ok (.iconst 0, 1) := by decide +kernel
theorem dX3_forget_2 : decode cX3_forget 2 = .ok (.putfield 49, 3) := by decide +kernel
theorem dX3_forget_5 : decode cX3_forget 5 = .ok (.aload_n 0, 1) := by decide +kernel
theorem dX3_forget_6 : decode cX3_forget 6 = .ok (.iconst 0, 1) := by decide +kernel
theorem dX3_forget_7 : decode cX3_forget 7 = .ok (.putfield 53, 3) := by decide +kernel
theorem dX3_forget_10 : decode cX3_forget 10 = .ok (.aload_n 0, 1) := by decide +kernel
theorem dX3_forget_11 : decode cX3_forget 11 = .ok (.iconst 0, 1) := by decide +kernel
theorem dX3_forget_12 : decode cX3_forget 12 = .ok (.putfield 56, 3) := by decide +kernel
theorem dX3_forget_15 : decode cX3_forget 15 = .ok (.aload_n 0, 1) := by decide +kernel
theorem dX3_forget_16 : decode cX3_forget 16 = .ok (.iconst 0, 1) := by decide +kernel
theorem dX3_forget_17 : decode cX3_forget 17 = .ok (.putfield 59, 3) := by decide +kernel
theorem dX3_forget_20 : decode cX3_forget 20 = .ok (.aload_n 0, 1) := by decide +kernel
theorem dX3_forget_21 : decode cX3_forget 21 = .ok (.iconst 0, 1) := by decide +kernel
theorem dX3_forget_22 : decode cX3_forget 22 = .ok (.putfield 62, 3) := by decide +kernel
theorem dX3_forget_25 : decode cX3_forget 25 = .ok (.aload_n 0, 1) := by decide +kernel
theorem dX3_forget_26 : decode cX3_forget 26 = .ok (.lconst 0, 1) := by decide +kernel
theorem dX3_forget_27 : decode cX3_forget 27 = .ok (.putfield 65, 3) := by decide +kernel
theorem dX3_forget_30 : decode cX3_forget 30 = .ok (.aload_n 0, 1) := by decide +kernel
theorem dX3_forget_31 : decode cX3_forget 31 = .ok (.iconst 0, 1) := by decide +kernel
theorem dX3_forget_32 : decode cX3_forget 32 = .ok (.putfield 69, 3) := by decide +kernel
theorem dX3_forget_35 : decode cX3_forget 35 = .ok (.aload_n 0, 1) := by decide +kernel
theorem dX3_forget_36 : decode cX3_forget 36 = .ok (.getfield 45, 3) := by decide +kernel
theorem dX3_forget_39 : decode cX3_forget 39 = .ok (.invokevirtual 73, 3) := by decide +kernel
theorem dX3_forget_42 : decode cX3_forget 42 = .ok (.return_, 1) := by decide +kernel
theorem dX9_clear_0 : decode cX9_clear 0 = .ok (.aload_n 0, 1) := by decide +kernel
theorem dX9_clear_1 : decode cX9_clear 1 = .ok (.iconst 0, 1) := by decide +kernel
theorem dX9_clear_2 : decode cX9_clear 2 = .ok (.putfield 68, 3) := by decide +kernel
theorem dX9_clear_5 : decode cX9_clear 5 = .ok (.aload_n 0, 1) := by decide +kernel
theorem dX9_clear_6 : decode cX9_clear 6 = .ok (.iconst 0, 1) := by decide +kernel
theorem dX9_clear_7 : decode cX9_clear 7 = .ok (.putfield 72, 3) := by decide +kernel
theorem dX9_clear_10 : decode cX9_clear 10 = .ok (.aload_n 0, 1) := by decide +kernel
theorem dX9_clear_11 : decode cX9_clear 11 = .ok (.iconst 0, 1) := by decide +kernel
theorem dX9_clear_12 : decode cX9_clear 12 = .ok (.putfield 75, 3) := by decide +kernel
theorem dX9_clear_15 : decode cX9_clear 15 = .ok (.return_, 1) := by decide +kernel
theorem dX8_clear_0 : decode cX8_clear 0 = .ok (.aload_n 0, 1) := by decide +kernel
theorem dX8_clear_1 : decode cX8_clear 1 = .ok (.iconst 0, 1) := by decide +kernel
theorem dX8_clear_2 : decode cX8_clear 2 = .ok (.putfield 63, 3) := by decide +kernel
theorem dX8_clear_5 : decode cX8_clear 5 = .ok (.aload_n 0, 1) := by decide +kernel
theorem dX8_clear_6 : decode cX8_clear 6 = .ok (.iconst 0, 1) := by decide +kernel
theorem dX8_clear_7 : decode cX8_clear 7 = .ok (.putfield 67, 3) := by decide +kernel
theorem dX8_clear_10 : decode cX8_clear 10 = .ok (.return_, 1) := by decide +kernel
theorem dX0_clear_0 : decode cX0_clear 0 = .ok (.aload_n 0, 1) := by decide +kernel
theorem dX0_clear_1 : decode cX0_clear 1 = .ok (.iconst 0, 1) := by decide +kernel
theorem dX0_clear_2 : decode cX0_clear 2 = .ok (.putfield 67, 3) := by decide +kernel
theorem dX0_clear_5 : decode cX0_clear 5 = .ok (.aload_n 0, 1) := by decide +kernel
theorem dX0_clear_6 : decode cX0_clear 6 = .ok (.iconst 5, 1) := by decide +kernel
theorem dX0_clear_7 : decode cX0_clear 7 = .ok (.putfield 63, 3) := by decide +kernel
theorem dX0_clear_10 : decode cX0_clear 10 = .ok (.aload_n 0, 1) := by decide +kernel
theorem dX0_clear_11 : decode cX0_clear 11 = .ok (.iconst 0, 1) := by decide +kernel
theorem dX0_clear_12 : decode cX0_clear 12 = .ok (.putfield 70, 3) := by decide +kernel
theorem dX0_clear_15 : decode cX0_clear 15 = .ok (.aload_n 0, 1) := by decide +kernel
theorem dX0_clear_16 : decode cX0_clear 16 = .ok (.iconst 0, 1) := by decide +kernel
theorem dX0_clear_17 : decode cX0_clear 17 = .ok (.putfield 73, 3) := by decide +kernel
theorem dX0_clear_20 : decode cX0_clear 20 = .ok (.return_, 1) := by decide +kernel
theorem dX8_openScope_0 : decode cX8_openScope 0 = .ok (.aload_n 0, 1) := by decide +kernel
theorem dX8_openScope_1 : decode cX8_openScope 1 = .ok (.getfield 67, 3) := by decide +kernel
theorem dX8_openScope_4 : decode cX8_openScope 4 = .ok (.sipush 2100, 3) := by decide +kernel
theorem dX8_openScope_7 : decode cX8_openScope 7 = .ok (.if_icmp .lt 10, 3) := by decide +kernel
theorem dX8_openScope_10 : decode cX8_openScope 10 = .ok (.aload_n 0, 1) := by decide +kernel
theorem dX8_openScope_11 : decode cX8_openScope 11 = .ok (.getfield 59, 3) := by decide +kernel
theorem dX8_openScope_14 : decode cX8_openScope 14 = .ok (.invokevirtual 70, 3) := by decide +kernel
theorem dX8_openScope_17 : decode cX8_openScope 17 = .ok (.aload_n 0, 1) := by decide +kernel
theorem dX8_openScope_18 : decode cX8_openScope 18 = .ok (.getfield 36, 3) := by decide +kernel
theorem dX8_openScope_21 : decode cX8_openScope 21 = .ok (.aload_n 0, 1) := by decide +kernel
theorem dX8_openScope_22 : decode cX8_openScope 22 = .ok (.getfield 67, 3) := by decide +kernel
theorem dX8_openScope_25 : decode cX8_openScope 25 = .ok (.iload_n 1, 1) := by decide +kernel
theorem dX8_openScope_26 : decode cX8_openScope 26 = .ok (.iastore, 1) := by decide +kernel
theorem dX8_openScope_27 : decode cX8_openScope 27 = .ok (.aload_n 0, 1) := by decide +kernel
theorem dX8_openScope_28 : decode cX8_openScope 28 = .ok (.getfield 39, 3) := by decide +kernel
theorem dX8_openScope_31 : decode cX8_openScope 31 = .ok (.aload_n 0, 1) := by decide +kernel
theorem dX8_openScope_32 : decode cX8_openScope 32 = .ok (.getfield 67, 3) := by decide +kernel
theorem dX8_openScope_35 : decode cX8_openScope 35 = .ok (.iload_n 2, 1) := by decide +kernel
theorem dX8_openScope_36 : decode cX8_openScope 36 = .ok (.iastore, 1) := by decide +kernel
theorem dX8_openScope_37 : decode cX8_openScope 37 = .ok (.aload_n 0, 1) := by decide +kernel
theorem dX8_openScope_38 : decode cX8_openScope 38 = .ok (.getfield 42, 3) := by decide +kernel
theorem dX8_openScope_41 : decode cX8_openScope 41 = .ok (.aload_n 0, 1) := by decide +kernel
theorem dX8_openScope_42 : decode cX8_openScope 42 = .ok (.getfield 67, 3) := by decide +kernel
theorem dX8_openScope_45 : decode cX8_openScope 45 = .ok (.iconst (-1), 1) := by decide +kernel
theorem dX8_openScope_46 : decode cX8_openScope 46 = .ok (.iastore, 1) := by decide +kernel
theorem dX8_openScope_47 : decode cX8_openScope 47 = .ok (.aload_n 0, 1) := by decide +kernel
theorem dX8_openScope_48 : decode cX8_openScope 48 = .ok (.getfield 45, 3) := by decide +kernel
theorem dX8_openScope_51 : decode cX8_openScope 51 = .ok (.aload_n 0, 1) := by decide +kernel
theorem dX8_openScope_52 : decode cX8_openScope 52 = .ok (.getfield 67, 3) := by decide +kernel
theorem dX8_openScope_55 : decode cX8_openScope 55 = .ok (.iconst (-1), 1) := by decide +kernel
theorem dX8_openScope_56 : decode cX8_openScope 56 = .ok (.iastore, 1) := by decide +kernel
theorem dX8_openScope_57 : decode cX8_openScope 57 = .ok (.aload_n 0, 1) := by decide +kernel
theorem dX8_openScope_58 : decode cX8_openScope 58 = .ok (.getfield 48, 3) := by decide +kernel
theorem dX8_openScope_61 : decode cX8_openScope 61 = .ok (.aload_n 0, 1) := by decide +kernel
theorem dX8_openScope_62 : decode cX8_openScope 62 = .ok (.getfield 67, 3) := by decide +kernel
theorem dX8_openScope_65 : decode cX8_openScope 65 = .ok (.iconst 0, 1) := by decide +kernel
theorem dX8_openScope_66 : decode cX8_openScope 66 = .ok (.iastore, 1) := by decide +kernel
theorem dX8_openScope_67 : decode cX8_openScope 67 = .ok (.aload_n 0, 1) := by decide +kernel
theorem dX8_openScope_68 : decode cX8_openScope 68 = .ok (.dup, 1) := by decide +kernel
theorem dX8_openScope_69 : decode cX8_openScope 69 = .ok (.getfield 67, 3) := by decide +kernel
theorem dX8_openScope_72 : decode cX8_openScope 72 = .ok (.iconst 1, 1) := by decide +kernel
theorem dX8_openScope_73 : decode cX8_openScope 73 = .ok (.iadd, 1) := by decide +kernel
theorem dX8_openScope_74 : decode cX8_openScope 74 = .ok (.putfield 67, 3) := by decide +kernel
theorem dX8_openScope_77 : decode cX8_openScope 77 = .ok (.aload_n 0, 1) := by decide +kernel
theorem dX8_openScope_78 : decode cX8_openScope 78 = .ok (.getfield 67, 3) := by decide +kernel
theorem dX8_openScope_81 : decode cX8_openScope 81 = .ok (.iconst 1, 1) := by decide +kernel
theorem dX8_openScope_82 : decode cX8_openScope 82 = .ok (.isub, 1) := by decide +kernel
theorem dX8_openScope_83 : decode cX8_openScope 83 = .ok (.ireturn, 1) := by decide +kernel
theorem dX2_note_0 : decode cX2_note 0 = .ok (.aload_n 0, 1) := by decide +kernel
theorem dX2_note_1 : decode cX2_note 1 = .ok (.getfield 38, 3) := by decide +kernel
theorem dX2_note_4 : decode cX2_note 4 = .ok (.ifCond .eq 27, 3) := by decide +kernel
theorem dX2_note_7 : decode cX2_note 7 = .ok (.iload_n 2, 1) := by decide +kernel
theorem dX2_note_8 : decode cX2_note 8 = .ok (.aload_n 0, 1) := by decide +kernel
theorem dX2_note_9 : decode cX2_note 9 = .ok (.getfield 131, 3) := by decide +kernel
theorem dX2_note_12 : decode cX2_note 12 = .ok (.if_icmp .lt 19, 3) := by decide +kernel
theorem dX2_note_15 : decode cX2_note 15 = .ok (.iload_n 2, 1) := by decide +kernel
theorem dX2_note_16 : decode cX2_note 16 = .ok (.aload_n 0, 1) := by decide +kernel
theorem dX2_note_17 : decode cX2_note 17 = .ok (.getfield 131, 3) := by decide +kernel
theorem dX2_note_20 : decode cX2_note 20 = .ok (.if_icmp .ne 21, 3) := by decide +kernel
theorem dX2_note_23 : decode cX2_note 23 = .ok (.iload_n 1, 1) := by decide +kernel
theorem dX2_note_24 : decode cX2_note 24 = .ok (.aload_n 0, 1) := by decide +kernel
theorem dX2_note_25 : decode cX2_note 25 = .ok (.getfield 38, 3) := by decide +kernel
theorem dX2_note_28 : decode cX2_note 28 = .ok (.if_icmp .ge 13, 3) := by decide +kernel
theorem dX2_note_31 : decode cX2_note 31 = .ok (.aload_n 0, 1) := by decide +kernel
theorem dX2_note_32 : decode cX2_note 32 = .ok (.iload_n 1, 1) := by decide +kernel
theorem dX2_note_33 : decode cX2_note 33 = .ok (.putfield 38, 3) := by decide +kernel
theorem dX2_note_36 : decode cX2_note 36 = .ok (.aload_n 0, 1) := by decide +kernel
theorem dX2_note_37 : decode cX2_note 37 = .ok (.iload_n 2, 1) := by decide +kernel
theorem dX2_note_38 : decode cX2_note 38 = .ok (.putfield 131, 3) := by decide +kernel
theorem dX2_note_41 : decode cX2_note 41 = .ok (.return_, 1) := by decide +kernel
theorem dX8_mainOf_0 : decode cX8_mainOf 0 = .ok (.aload_n 0, 1) := by decide +kernel
theorem dX8_mainOf_1 : decode cX8_mainOf 1 = .ok (.getfield 42, 3) := by decide +kernel
theorem dX8_mainOf_4 : decode cX8_mainOf 4 = .ok (.iconst 0, 1) := by decide +kernel
theorem dX8_mainOf_5 : decode cX8_mainOf 5 = .ok (.iaload, 1) := by decide +kernel
theorem dX8_mainOf_6 : decode cX8_mainOf 6 = .ok (.istore_n 1, 1) := by decide +kernel
theorem dX8_mainOf_7 : decode cX8_mainOf 7 = .ok (.iload_n 1, 1) := by decide +kernel
theorem dX8_mainOf_8 : decode cX8_mainOf 8 = .ok (.ifCond .lt 26, 3) := by decide +kernel
theorem dX8_mainOf_11 : decode cX8_mainOf 11 = .ok (.aload_n 0, 1) := by decide +kernel
theorem dX8_mainOf_12 : decode cX8_mainOf 12 = .ok (.getfield 11, 3) := by decide +kernel
theorem dX8_mainOf_15 : decode cX8_mainOf 15 = .ok (.iload_n 1, 1) := by decide +kernel
theorem dX8_mainOf_16 : decode cX8_mainOf 16 = .ok (.iaload, 1) := by decide +kernel
theorem dX8_mainOf_17 : decode cX8_mainOf 17 = .ok (.bipush 9, 2) := by decide +kernel
theorem dX8_mainOf_19 : decode cX8_mainOf 19 = .ok (.if_icmp .ne 5, 3) := by decide +kernel
theorem dX8_mainOf_22 : decode cX8_mainOf 22 = .ok (.iload_n 1, 1) := by decide +kernel
theorem dX8_mainOf_23 : decode cX8_mainOf 23 = .ok (.ireturn, 1) := by decide +kernel
theorem dX8_mainOf_24 : decode cX8_mainOf 24 = .ok (.aload_n 0, 1) := by decide +kernel
theorem dX8_mainOf_25 : decode cX8_mainOf 25 = .ok (.getfield 24, 3) := by decide +kernel
theorem dX8_mainOf_28 : decode cX8_mainOf 28 = .ok (.iload_n 1, 1) := by decide +kernel
theorem dX8_mainOf_29 : decode cX8_mainOf 29 = .ok (.iaload, 1) := by decide +kernel
theorem dX8_mainOf_30 : decode cX8_mainOf 30 = .ok (.istore_n 1, 1) := by decide +kernel
theorem dX8_mainOf_31 : decode cX8_mainOf 31 = .ok (.goto (-24), 3) := by decide +kernel
theorem dX8_mainOf_34 : decode cX8_mainOf 34 = .ok (.iconst (-1), 1) := by decide +kernel
theorem dX8_mainOf_35 : decode cX8_mainOf 35 = .ok (.ireturn, 1) := by decide +kernel
theorem dX9_check_0 : decode cX9_check 0 = .ok (.iconst 0, 1) := by decide +kernel
theorem dX9_check_1 : decode cX9_check 1 = .ok (.istore_n 1, 1) := by decide +kernel
theorem dX9_check_2 : decode cX9_check 2 = .ok (.iload_n 1, 1) := by decide +kernel
theorem dX9_check_3 : decode cX9_check 3 = .ok (.aload_n 0, 1) := by decide +kernel
theorem dX9_check_4 : decode cX9_check 4 = .ok (.getfield 68, 3) := by decide +kernel
theorem dX9_check_7 : decode cX9_check 7 = .ok (.if_icmp .ge 114, 3) := by decide +kernel
theorem dX9_check_10 : decode cX9_check 10 = .ok (.aload_n 0, 1) := by decide +kernel
theorem dX9_check_11 : decode cX9_check 11 = .ok (.getfield 13, 3) := by decide +kernel
theorem dX9_check_14 : decode cX9_check 14 = .ok (.iload_n 1, 1) := by decide +kernel
theorem dX9_check_15 : decode cX9_check 15 = .ok (.iaload, 1) := by decide +kernel
theorem dX9_check_16 : decode cX9_check 16 = .ok (.iconst 1, 1) := by decide +kernel
theorem dX9_check_17 : decode cX9_check 17 = .ok (.if_icmp .ne 63, 3) := by decide +kernel
theorem dX9_check_20 : decode cX9_check 20 = .ok (.aload_n 0, 1) := by decide +kernel
theorem dX9_check_21 : decode cX9_check 21 = .ok (.getfield 20, 3) := by decide +kernel
theorem dX9_check_24 : decode cX9_check 24 = .ok (.iload_n 1, 1) := by decide +kernel
theorem dX9_check_25 : decode cX9_check 25 = .ok (.aload_n 0, 1) := by decide +kernel
theorem dX9_check_26 : decode cX9_check 26 = .ok (.getfield 60, 3) := by decide +kernel
theorem dX9_check_29 : decode cX9_check 29 = .ok (.aload_n 0, 1) := by decide +kernel
theorem dX9_check_30 : decode cX9_check 30 = .ok (.getfield 26, 3) := by decide +kernel
theorem dX9_check_33 : decode cX9_check 33 = .ok (.iload_n 1, 1) := by decide +kernel
theorem dX9_check_34 : decode cX9_check 34 = .ok (.iaload, 1) := by decide +kernel
theorem dX9_check_35 : decode cX9_check 35 = .ok (.aload_n 0, 1) := by decide +kernel
theorem dX9_check_36 : decode cX9_check 36 = .ok (.getfield 56, 3) := by decide +kernel
theorem dX9_check_39 : decode cX9_check 39 = .ok (.getfield 85, 3) := by decide +kernel
theorem dX9_check_42 : decode cX9_check 42 = .ok (.aload_n 0, 1) := by decide +kernel
theorem dX9_check_43 : decode cX9_check 43 = .ok (.getfield 23, 3) := by decide +kernel
theorem dX9_check_46 : decode cX9_check 46 = .ok (.iload_n 1, 1) := by decide +kernel
theorem dX9_check_47 : decode cX9_check 47 = .ok (.iaload, 1) := by decide +kernel
theorem dX9_check_48 : decode cX9_check 48 = .ok (.iaload, 1) := by decide +kernel
theorem dX9_check_49 : decode cX9_check 49 = .ok (.invokevirtual 88, 3) := by decide +kernel
theorem dX9_check_52 : decode cX9_check 52 = .ok (.iastore, 1) := by decide +kernel
theorem dX9_check_53 : decode cX9_check 53 = .ok (.aload_n 0, 1) := by decide +kernel
theorem dX9_check_54 : decode cX9_check 54 = .ok (.getfield 20, 3) := by decide +kernel
theorem dX9_check_57 : decode cX9_check 57 = .ok (.iload_n 1, 1) := by decide +kernel
theorem dX9_check_58 : decode cX9_check 58 = .ok (.iaload, 1) := by decide +kernel
theorem dX9_check_59 : decode cX9_check 59 = .ok (.iconst (-1), 1) := by decide +kernel
theorem dX9_check_60 : decode cX9_check 60 = .ok (.if_icmp .ne 55, 3) := by decide +kernel
theorem dX9_check_63 : decode cX9_check 63 = .ok (.aload_n 0, 1) := by decide +kernel
theorem dX9_check_64 : decode cX9_check 64 = .ok (.getfield 56, 3) := by decide +kernel
theorem dX9_check_67 : decode cX9_check 67 = .ok (.iconst 5, 1) := by decide +kernel
theorem dX9_check_68 : decode cX9_check 68 = .ok (.aload_n 0, 1) := by decide +kernel
theorem dX9_check_69 : decode cX9_check 69 = .ok (.getfield 23, 3) := by decide +kernel
theorem dX9_check_72 : decode cX9_check 72 = .ok (.iload_n 1, 1) := by decide +kernel
theorem dX9_check_73 : decode cX9_check 73 = .ok (.iaload, 1) := by decide +kernel
theorem dX9_check_74 : decode cX9_check 74 = .ok (.invokevirtual 94, 3) := by decide +kernel
theorem dX9_check_77 : decode cX9_check 77 = .ok (.goto 38, 3) := by decide +kernel
theorem dX9_check_80 : decode cX9_check 80 = .ok (.aload_n 0, 1) := by decide +kernel
theorem dX9_check_81 : decode cX9_check 81 = .ok (.getfield 13, 3) := by decide +kernel
theorem dX9_check_84 : decode cX9_check 84 = .ok (.iload_n 1, 1) := by decide +kernel
theorem dX9_check_85 : decode cX9_check 85 = .ok (.iaload, 1) := by decide +kernel
theorem dX9_check_86 : decode cX9_check 86 = .ok (.iconst 2, 1) := by decide +kernel
theorem dX9_check_87 : decode cX9_check 87 = .ok (.if_icmp .ne 28, 3) := by decide +kernel
theorem dX9_check_90 : decode cX9_check 90 = .ok (.aload_n 0, 1) := by decide +kernel
theorem dX9_check_91 : decode cX9_check 91 = .ok (.getfield 23, 3) := by decide +kernel
theorem dX9_check_94 : decode cX9_check 94 = .ok (.iload_n 1, 1) := by decide +kernel
theorem dX9_check_95 : decode cX9_check 95 = .ok (.iaload, 1) := by decide +kernel
theorem dX9_check_96 : decode cX9_check 96 = .ok (.ifCond .lt 19, 3) := by decide +kernel
theorem dX9_check_99 : decode cX9_check 99 = .ok (.aload_n 0, 1) := by decide +kernel
theorem dX9_check_100 : decode cX9_check 100 = .ok (.getfield 20, 3) := by decide +kernel
theorem dX9_check_103 : decode cX9_check 103 = .ok (.iload_n 1, 1) := by decide +kernel
theorem dX9_check_104 : decode cX9_check 104 = .ok (.aload_n 0, 1) := by decide +kernel
theorem dX9_check_105 : decode cX9_check 105 = .ok (.aload_n 0, 1) := by decide +kernel
theorem dX9_check_106 : decode cX9_check 106 = .ok (.getfield 23, 3) := by decide +kernel
theorem dX9_check_109 : decode cX9_check 109 = .ok (.iload_n 1, 1) := by decide +kernel
theorem dX9_check_110 : decode cX9_check 110 = .ok (.iaload, 1) := by decide +kernel
theorem dX9_check_111 : decode cX9_check 111 = .ok (.invokevirtual 98, 3) := by decide +kernel
theorem dX9_check_114 : decode cX9_check 114 = .ok (.iastore, 1) := by decide +kernel
theorem dX9_check_115 : decode cX9_check 115 = .ok (.iinc 1 1, 3) := by decide +kernel
theorem dX9_check_118 : decode cX9_check 118 = .ok (.goto (-116), 3) := by decide +kernel
theorem dX9_check_121 : decode cX9_check 121 = .ok (.iconst 0, 1) := by decide +kernel
theorem dX9_check_122 : decode cX9_check 122 = .ok (.istore_n 1, 1) := by decide +kernel
theorem dX9_check_123 : decode cX9_check 123 = .ok (.iload_n 1, 1) := by decide +kernel
theorem dX9_check_124 : decode cX9_check 124 = .ok (.aload_n 0, 1) := by decide +kernel
theorem dX9_check_125 : decode cX9_check 125 = .ok (.getfield 75, 3) := by decide +kernel
theorem dX9_check_128 : decode cX9_check 128 = .ok (.if_icmp .ge 92, 3) := by decide +kernel
theorem dX9_check_131 : decode cX9_check 131 = .ok (.aload_n 0, 1) := by decide +kernel
theorem dX9_check_132 : decode cX9_check 132 = .ok (.getfield 38, 3) := by decide +kernel
theorem dX9_check_135 : decode cX9_check 135 = .ok (.iload_n 1, 1) := by decide +kernel
theorem dX9_check_136 : decode cX9_check 136 = .ok (.iaload, 1) := by decide +kernel
theorem dX9_check_137 : decode cX9_check 137 = .ok (.istore_n 2, 1) := by decide +kernel
theorem dX9_check_138 : decode cX9_check 138 = .ok (.aload_n 0, 1) := by decide +kernel
theorem dX9_check_139 : decode cX9_check 139 = .ok (.getfield 35, 3) := by decide +kernel
theorem dX9_check_142 : decode cX9_check 142 = .ok (.iload_n 1, 1) := by decide +kernel
theorem dX9_check_143 : decode cX9_check 143 = .ok (.iaload, 1) := by decide +kernel
theorem dX9_check_144 : decode cX9_check 144 = .ok (.iconst 2, 1) := by decide +kernel
theorem dX9_check_145 : decode cX9_check 145 = .ok (.if_icmp .ne 69, 3) := by decide +kernel
theorem dX9_check_148 : decode cX9_check 148 = .ok (.aload_n 0, 1) := by decide +kernel
theorem dX9_check_149 : decode cX9_check 149 = .ok (.getfield 56, 3) := by decide +kernel
theorem dX9_check_152 : decode cX9_check 152 = .ok (.getfield 102, 3) := by decide +kernel
theorem dX9_check_155 : decode cX9_check 155 = .ok (.iload_n 2, 1) := by decide +kernel
theorem dX9_check_156 : decode cX9_check 156 = .ok (.iaload, 1) := by decide +kernel
theorem dX9_check_157 : decode cX9_check 157 = .ok (.iconst 3, 1) := by decide +kernel
theorem dX9_check_158 : decode cX9_check 158 = .ok (.if_icmp .ne 56, 3) := by decide +kernel
theorem dX9_check_161 : decode cX9_check 161 = .ok (.aload_n 0, 1) := by decide +kernel
theorem dX9_check_162 : decode cX9_check 162 = .ok (.iload_n 2, 1) := by decide +kernel
theorem dX9_check_163 : decode cX9_check 163 = .ok (.invokevirtual 98, 3) := by decide +kernel
theorem dX9_check_166 : decode cX9_check 166 = .ok (.istore_n 3, 1) := by decide +kernel
theorem dX9_check_167 : decode cX9_check 167 = .ok (.iload_n 3, 1) := by decide +kernel
theorem dX9_check_168 : decode cX9_check 168 = .ok (.ifCond .lt 39, 3) := by decide +kernel
theorem dX9_check_171 : decode cX9_check 171 = .ok (.aload_n 0, 1) := by decide +kernel
theorem dX9_check_172 : decode cX9_check 172 = .ok (.getfield 64, 3) := by decide +kernel
theorem dX9_check_175 : decode cX9_check 175 = .ok (.getfield 103, 3) := by decide +kernel
theorem dX9_check_178 : decode cX9_check 178 = .ok (.iload_n 3, 1) := by decide +kernel
theorem dX9_check_179 : decode cX9_check 179 = .ok (.iaload, 1) := by decide +kernel
theorem dX9_check_180 : decode cX9_check 180 = .ok (.aload_n 0, 1) := by decide +kernel
theorem dX9_check_181 : decode cX9_check 181 = .ok (.getfield 60, 3) := by decide +kernel
theorem dX9_check_184 : decode cX9_check 184 = .ok (.getfield 108, 3) := by decide +kernel
theorem dX9_check_187 : decode cX9_check 187 = .ok (.aload_n 0, 1) := by decide +kernel
theorem dX9_check_188 : decode cX9_check 188 = .ok (.getfield 44, 3) := by decide +kernel
theorem dX9_check_191 : decode cX9_check 191 = .ok (.iload_n 1, 1) := by decide +kernel
theorem dX9_check_192 : decode cX9_check 192 = .ok (.iaload, 1) := by decide +kernel
theorem dX9_check_193 : decode cX9_check 193 = .ok (.iaload, 1) := by decide +kernel
theorem dX9_check_194 : decode cX9_check 194 = .ok (.if_icmp .eq 13, 3) := by decide +kernel
theorem dX9_check_197 : decode cX9_check 197 = .ok (.aload_n 0, 1) := by decide +kernel
theorem dX9_check_198 : decode cX9_check 198 = .ok (.getfield 56, 3) := by decide +kernel
theorem dX9_check_201 : decode cX9_check 201 = .ok (.bipush 6, 2) := by decide +kernel
theorem dX9_check_203 : decode cX9_check 203 = .ok (.iload_n 2, 1) := by decide +kernel
theorem dX9_check_204 : decode cX9_check 204 = .ok (.invokevirtual 94, 3) := by decide +kernel
theorem dX9_check_207 : decode cX9_check 207 = .ok (.aload_n 0, 1) := by decide +kernel
theorem dX9_check_208 : decode cX9_check 208 = .ok (.getfield 41, 3) := by decide +kernel
theorem dX9_check_211 : decode cX9_check 211 = .ok (.iload_n 1, 1) := by decide +kernel
theorem dX9_check_212 : decode cX9_check 212 = .ok (.iload_n 3, 1) := by decide +kernel
theorem dX9_check_213 : decode cX9_check 213 = .ok (.iastore, 1) := by decide +kernel
theorem dX9_check_214 : decode cX9_check 214 = .ok (.iinc 1 1, 3) := by decide +kernel
theorem dX9_check_217 : decode cX9_check 217 = .ok (.goto (-94), 3) := by decide +kernel
theorem dX9_check_220 : decode cX9_check 220 = .ok (.return_, 1) := by decide +kernel
theorem dX1_closes_0 : decode cX1_closes 0 = .ok (.iload_n 0, 1) := by decide +kernel
theorem dX1_closes_1 : decode cX1_closes 1 = .ok (.tableswitch 73 7 16 #[70, 73, 61, 64, 73, 67, 73, 55, 73, 58], 55) := by decide +kernel
theorem dX1_closes_56 : decode cX1_closes 56 = .ok (.bipush 13, 2) := by decide +kernel
theorem dX1_closes_58 : decode cX1_closes 58 = .ok (.ireturn, 1) := by decide +kernel
theorem dX1_closes_59 : decode cX1_closes 59 = .ok (.bipush 15, 2) := by decide +kernel
theorem dX1_closes_61 : decode cX1_closes 61 = .ok (.ireturn, 1) := by decide +kernel
theorem dX1_closes_62 : decode cX1_closes 62 = .ok (.bipush 8, 2) := by decide +kernel
theorem dX1_closes_64 : decode cX1_closes 64 = .ok (.ireturn, 1) := by decide +kernel
theorem dX1_closes_65 : decode cX1_closes 65 = .ok (.bipush 9, 2) := by decide +kernel
theorem dX1_closes_67 : decode cX1_closes 67 = .ok (.ireturn, 1) := by decide +kernel
theorem dX1_closes_68 : decode cX1_closes 68 = .ok (.bipush 11, 2) := by decide +kernel
theorem dX1_closes_70 : decode cX1_closes 70 = .ok (.ireturn, 1) := by decide +kernel
theorem dX1_closes_71 : decode cX1_closes 71 = .ok (.bipush 6, 2) := by decide +kernel
theorem dX1_closes_73 : decode cX1_closes 73 = .ok (.ireturn, 1) := by decide +kernel
theorem dX1_closes_74 : decode cX1_closes 74 = .ok (.iconst 0, 1) := by decide +kernel
theorem dX1_closes_75 : decode cX1_closes 75 = .ok (.ireturn, 1) := by decide +kernel
theorem dX1_opens_0 : decode cX1_opens 0 = .ok (.iload_n 0, 1) := by decide +kernel
theorem dX1_opens_1 : decode cX1_opens 1 = .ok (.bipush 13, 2) := by decide +kernel
theorem dX1_opens_3 : decode cX1_opens 3 = .ok (.if_icmp .eq 33, 3) := by decide +kernel
theorem dX1_opens_6 : decode cX1_opens 6 = .ok (.iload_n 0, 1) := by decide +kernel
theorem dX1_opens_7 : decode cX1_opens 7 = .ok (.bipush 15, 2) := by decide +kernel
theorem dX1_opens_9 : decode cX1_opens 9 = .ok (.if_icmp .eq 27, 3) := by decide +kernel
theorem dX1_opens_12 : decode cX1_opens 12 = .ok (.iload_n 0, 1) := by decide +kernel
theorem dX1_opens_13 : decode cX1_opens 13 = .ok (.bipush 8, 2) := by decide +kernel
theorem dX1_opens_15 : decode cX1_opens 15 = .ok (.if_icmp .eq 21, 3) := by decide +kernel
theorem dX1_opens_18 : decode cX1_opens 18 = .ok (.iload_n 0, 1) := by decide +kernel
theorem dX1_opens_19 : decode cX1_opens 19 = .ok (.bipush 9, 2) := by decide +kernel
theorem dX1_opens_21 : decode cX1_opens 21 = .ok (.if_icmp .eq 15, 3) := by decide +kernel
theorem dX1_opens_24 : decode cX1_opens 24 = .ok (.iload_n 0, 1) := by decide +kernel
theorem dX1_opens_25 : decode cX1_opens 25 = .ok (.bipush 11, 2) := by decide +kernel
theorem dX1_opens_27 : decode cX1_opens 27 = .ok (.if_icmp .eq 9, 3) := by decide +kernel
theorem dX1_opens_30 : decode cX1_opens 30 = .ok (.iload_n 0, 1) := by decide +kernel
theorem dX1_opens_31 : decode cX1_opens 31 = .ok (.bipush 6, 2) := by decide +kernel
theorem dX1_opens_33 : decode cX1_opens 33 = .ok (.if_icmp .ne 7, 3) := by decide +kernel
theorem dX1_opens_36 : decode cX1_opens 36 = .ok (.iconst 1, 1) := by decide +kernel
theorem dX1_opens_37 : decode cX1_opens 37 = .ok (.goto 4, 3) := by decide +kernel
theorem dX1_opens_40 : decode cX1_opens 40 = .ok (.iconst 0, 1) := by decide +kernel
theorem dX1_opens_41 : decode cX1_opens 41 = .ok (.ireturn, 1) := by decide +kernel
def pw_c_X6_clear : List Cond := .code yX6_clear cX6_clear 1 none :: ([.fieldLink RX6 19 "NeedHouse$Sheet" "size" "I"] ++ (wsX60 ++ []))
set_option maxHeartbeats 4000000 in
set_option maxRecDepth 100000 in
theorem c_X6_clear (l : Launch) (dC : Nat → ClassId) (dI : Nat → Nat → Nat) (sz : Nat) (h0 : Nat) (fs0 : List Value) (z1 : Int32) (hF0 : hasF fs0 3 [(2, .int z1)]) : Met l yX6_clear pw_c_X6_clear ({ frames := 0, cells := 0, slots := 0, locals := 0 }) (va_Pc [.ref h0] (fun U => U.heap.size = sz ∧ va_P (dC, dI) vwCl [(h0, .inr (6, fs0))] U.heap ∧ va_K (dC, dI) vwCl [] U ∧ va_D (fun _ => True) [(h0, .inr (6, fs0))])) (va_Qv (fun (u : (List Value)) => hasF u 3 [(2, .int 0)] ∧ sameF fs0 u [2]) (fun (u : (List Value)) (t : State) => va_P (dC, dI) vwCl [(h0, .inr (6, u))] t.heap ∧ va_K (dC, dI) vwCl [] t ∧ va_D (va_A [(h0, .inr (6, fs0))] sz) [(h0, .inr (6, u))]) (va_A [(h0, .inr (6, fs0))] sz)) 0 0 (va_A [(h0, .inr (6, fs0))] sz) := by
  refine Met.ofW (cc := cX6_clear) (maxL := 1) (ret := none) (by decide) rfl ?_
  intro p e s m args below meth c s₁ B hml hv
  obtain ⟨rfl, hsz, hP, hK, hD0⟩ := hv
  have hx := B.exec
  have hb := B.bytes
  have hr := B.returns
  have hts := atoms_spec (ws := pw_c_X6_clear) B.pre
  have hown : s.vm.findClass RX6 = some m.cls := findClass_of_methodNamed B.named
  have hlocks := B.notSynchronized
  have hin_X6 : ∀ w ∈ u_ws RX6 TX6 3, w ∈ pw_c_X6_clear := fun w h => List.mem_cons_of_mem _ (List.mem_append_right _ (List.mem_append_left _ h))
  subst hsz
  have hD := hD0.self (sz := s.heap.size)
  generalize hAe : va_A [(h0, .inr (6, fs0))] s.heap.size = A at hD ⊢
  have hA : ∀ q : Nat, s.heap.size ≤ q → A q := fun q h => by rw [← hAe]; exact Or.inr h
  have hS : va_S A s.heap s.heap [] := va_S.rf
  have hP : va_P (dC, dI) vwCl [(h0, .inr (6, fs0))] s.heap := hP
  have hl := lv_entry ([.ref h0]) (n := 1) (Nat.le_of_ble_eq_true rfl)
  rw [lg_entry_eq]
  generalize (lg_sl ([.ref h0]) ++ List.replicate (1 - (lg_sl ([.ref h0])).length) Slot.unset).toArray = ls at hl ⊢
  have hl : lv_has ls 1 [(0, .ref h0)] := hl
  refine lv_aload_n hx hb dX6_clear_0 rfl (lv_at hl 0 rfl) ?_
  refine lv_iconst (v := 0) hx hb dX6_clear_1 (by decide) ?_
  refine va_put (D := (dC, dI)) (ci := 6) (v := .int 0) (ty := .int) (C := RX6) (T := TX6) (N := 3) hx hb hts hin_X6 tyX6 tyX6_ok nmX6 hown hK hP hD hS 0 rfl rfl 2 (by decide) (hts (.fieldLink RX6 19 "NeedHouse$Sheet" "size" "I") (List.mem_of_getElem? (i := 1) rfl)) (fun _ h9 => h9) rfl (by decide +kernel) rfl rfl (by rw [hF0.1]; decide) dX6_clear_2 (fun H locs hP hD hS => ?_)
  have hP : va_P (dC, dI) vwCl [(h0, .inr (6, (fs0.set 2 (.int 0))))] H := hP
  have hD : va_D A [(h0, .inr (6, (fs0.set 2 (.int 0))))] := hD
  have hF_1 := hF0.set 2 (.int 0) (l' := [(2, .int 0)]) (by decide) rfl
  have hE_2 := (sameF.rf (f := fs0)).set 2 (.int 0)
  generalize fs0.set 2 (.int 0) = fs_3 at hP hD hF_1 hE_2
  have hP : va_P (dC, dI) vwCl [(h0, .inr (6, fs_3))] H := hP
  have hD : va_D A [(h0, .inr (6, fs_3))] := hD
  have hP9 := hP.sub (ws' := [(h0, .inr (6, fs_3))]) [0] rfl
  have hD9 := hD.sub (ws' := [(h0, .inr (6, fs_3))]) [0] (by decide) rfl
  have hK9 := hK.sub (tys' := []) [] rfl
  exact W.vret hx hb hr (fun t ht hW => ⟨⟨(fs_3), rfl, ⟨hF_1.sub [0] rfl, hE_2.mono (by decide)⟩, by rw [ht]; exact hP9, va_K.moved hW.alike hK9, hD9⟩, hS.F ht⟩) hS.2.2 dX6_clear_5
def pw_c_X3_forget : List Cond := .code yX3_forget cX3_forget 1 none :: ([.fieldLink RX3 49 "NeedHouse$Machine" "state" "I", .fieldLink RX3 53 "NeedHouse$Machine" "outputs" "I", .fieldLink RX3 56 "NeedHouse$Machine" "steps" "I", .fieldLink RX3 59 "NeedHouse$Machine" "made" "I", .fieldLink RX3 62 "NeedHouse$Machine" "got" "I", .fieldLink RX3 65 "NeedHouse$Machine" "value" "J", .fieldLink RX3 69 "NeedHouse$Machine" "giving" "Z", .fieldLink RX3 45 "NeedHouse$Machine" "text" "LNeedHouse$Sheet;", .methodLink RX3 73 yX6_clear, .instanceMethod yX6_clear, .selects RX6 yX6_clear yX6_clear, .initialized RX6, .code yX6_clear cX6_clear 1 none, .fieldLink RX6 19 "NeedHouse$Sheet" "size" "I"] ++ (wsX30 ++ (wsX60 ++ [])))
set_option maxRecDepth 20000 in
theorem g_c_X3_forget_c_X6_clear_39 : GoodIn pw_c_X3_forget (wsV RX3 73 RX6 yX6_clear pw_c_X6_clear) := goodIn_r _ [9, 10, 11, 12, 13, 14, 29, 30, 31] rfl (by decide +kernel)
set_option maxHeartbeats 4000000 in
set_option maxRecDepth 100000 in
theorem c_X3_forget (l : Launch) (dC : Nat → ClassId) (dI : Nat → Nat → Nat) (sz : Nat) (h0 : Nat) (fs0 : List Value) (z2 : Int32) (z3 : Int32) (z4 : Int32) (z5 : Int32) (z6 : Int32) (z7 : Int32) (qx : Nat) (fsx : List Value) (z1 : Int32) (hF0 : hasF fs0 14 [(8, .int z2), (7, .int z3), (9, .int z4), (10, .int z5), (11, .int z6), (13, .int z7), (5, .ref qx)]) (hFx : hasF fsx 3 [(2, .int z1)]) : Met l yX3_forget pw_c_X3_forget ({ frames := 1, cells := 0, slots := 0, locals := 20 }) (va_Pc [.ref h0] (fun U => U.heap.size = sz ∧ va_P (dC, dI) vwCl [(h0, .inr (3, fs0)), (qx, .inr (6, fsx))] U.heap ∧ va_K (dC, dI) vwCl [] U ∧ va_D (fun _ => True) [(h0, .inr (3, fs0)), (qx, .inr (6, fsx))])) (va_Qv (fun (u : (List Value) × (List Value)) => sameF fs0 u.1 [8, 7, 9, 10, 11, 12, 13] ∧ sameF fsx u.2 [2]) (fun (u : (List Value) × (List Value)) (t : State) => va_P (dC, dI) vwCl [(h0, .inr (3, u.1)), (qx, .inr (6, u.2))] t.heap ∧ va_K (dC, dI) vwCl [] t ∧ va_D (va_A [(h0, .inr (3, fs0)), (qx, .inr (6, fsx))] sz) [(h0, .inr (3, u.1)), (qx, .inr (6, u.2))]) (va_A [(h0, .inr (3, fs0)), (qx, .inr (6, fsx))] sz)) 0 0 (va_A [(h0, .inr (3, fs0)), (qx, .inr (6, fsx))] sz) := by
  refine Met.ofW (cc := cX3_forget) (maxL := 1) (ret := none) (by decide) rfl ?_
  intro p e s m args below meth c s₁ B hml hv
  obtain ⟨rfl, hsz, hP, hK, hD0⟩ := hv
  have hx := B.exec
  have hb := B.bytes
  have hr := B.returns
  have hts := atoms_spec (ws := pw_c_X3_forget) B.pre
  have hown : s.vm.findClass RX3 = some m.cls := findClass_of_methodNamed B.named
  have hlocks := B.notSynchronized
  have hin_X3 : ∀ w ∈ u_ws RX3 TX3 14, w ∈ pw_c_X3_forget := fun w h => List.mem_cons_of_mem _ (List.mem_append_right _ (List.mem_append_left _ h))
  have hin_X6 : ∀ w ∈ u_ws RX6 TX6 3, w ∈ pw_c_X3_forget := fun w h => List.mem_cons_of_mem _ (List.mem_append_right _ (List.mem_append_right _ (List.mem_append_left _ h)))
  subst hsz
  have hD := hD0.self (sz := s.heap.size)
  generalize hAe : va_A [(h0, .inr (3, fs0)), (qx, .inr (6, fsx))] s.heap.size = A at hD ⊢
  have hA : ∀ q : Nat, s.heap.size ≤ q → A q := fun q h => by rw [← hAe]; exact Or.inr h
  have hS : va_S A s.heap s.heap [] := va_S.rf
  have hP : va_P (dC, dI) vwCl [(h0, .inr (3, fs0)), (qx, .inr (6, fsx))] s.heap := hP
  have hl := lv_entry ([.ref h0]) (n := 1) (Nat.le_of_ble_eq_true rfl)
  rw [lg_entry_eq]
  generalize (lg_sl ([.ref h0]) ++ List.replicate (1 - (lg_sl ([.ref h0])).length) Slot.unset).toArray = ls at hl ⊢
  have hl : lv_has ls 1 [(0, .ref h0)] := hl
  refine lv_aload_n hx hb dX3_forget_0 rfl (lv_at hl 0 rfl) ?_
  refine lv_iconst (v := 0) hx hb dX3_forget_1 (by decide) ?_
  refine va_put (D := (dC, dI)) (ci := 3) (v := .int 0) (ty := .int) (C := RX3) (T := TX3) (N := 14) hx hb hts hin_X3 tyX3 tyX3_ok nmX3 hown hK hP hD hS 0 rfl rfl 8 (by decide) (hts (.fieldLink RX3 49 "NeedHouse$Machine" "state" "I") (List.mem_of_getElem? (i := 1) rfl)) (fun _ h9 => h9) rfl (by decide +kernel) rfl rfl (by rw [hF0.1]; decide) dX3_forget_2 (fun H locs hP hD hS => ?_)
  have hP : va_P (dC, dI) vwCl [(h0, .inr (3, (fs0.set 8 (.int 0)))), (qx, .inr (6, fsx))] H := hP
  have hD : va_D A [(h0, .inr (3, (fs0.set 8 (.int 0)))), (qx, .inr (6, fsx))] := hD
  have hF_1 := hF0.set 8 (.int 0) (l' := [(8, .int 0), (7, .int z3), (9, .int z4), (10, .int z5), (11, .int z6), (13, .int z7), (5, .ref qx)]) (by decide) rfl
  have hE_2 := (sameF.rf (f := fs0)).set 8 (.int 0)
  generalize fs0.set 8 (.int 0) = fs_3 at hP hD hF_1 hE_2
  have hP : va_P (dC, dI) vwCl [(h0, .inr (3, fs_3)), (qx, .inr (6, fsx))] H := hP
  have hD : va_D A [(h0, .inr (3, fs_3)), (qx, .inr (6, fsx))] := hD
  refine lv_aload_n hx hb dX3_forget_5 rfl (lv_at hl 0 rfl) ?_
  refine lv_iconst (v := 0) hx hb dX3_forget_6 (by decide) ?_
  refine va_put (D := (dC, dI)) (ci := 3) (v := .int 0) (ty := .int) (C := RX3) (T := TX3) (N := 14) hx hb hts hin_X3 tyX3 tyX3_ok nmX3 hown hK hP hD hS 0 rfl rfl 7 (by decide) (hts (.fieldLink RX3 53 "NeedHouse$Machine" "outputs" "I") (List.mem_of_getElem? (i := 2) rfl)) (fun _ h9 => h9) rfl (by decide +kernel) rfl rfl (by rw [hF_1.1]; decide) dX3_forget_7 (fun H locs hP hD hS => ?_)
  have hP : va_P (dC, dI) vwCl [(h0, .inr (3, (fs_3.set 7 (.int 0)))), (qx, .inr (6, fsx))] H := hP
  have hD : va_D A [(h0, .inr (3, (fs_3.set 7 (.int 0)))), (qx, .inr (6, fsx))] := hD
  have hF_4 := hF_1.set 7 (.int 0) (l' := [(7, .int 0), (8, .int 0), (9, .int z4), (10, .int z5), (11, .int z6), (13, .int z7), (5, .ref qx)]) (by decide) rfl
  have hE_5 := hE_2.set 7 (.int 0)
  generalize fs_3.set 7 (.int 0) = fs_6 at hP hD hF_4 hE_5
  have hP : va_P (dC, dI) vwCl [(h0, .inr (3, fs_6)), (qx, .inr (6, fsx))] H := hP
  have hD : va_D A [(h0, .inr (3, fs_6)), (qx, .inr (6, fsx))] := hD
  refine lv_aload_n hx hb dX3_forget_10 rfl (lv_at hl 0 rfl) ?_
  refine lv_iconst (v := 0) hx hb dX3_forget_11 (by decide) ?_
  refine va_put (D := (dC, dI)) (ci := 3) (v := .int 0) (ty := .int) (C := RX3) (T := TX3) (N := 14) hx hb hts hin_X3 tyX3 tyX3_ok nmX3 hown hK hP hD hS 0 rfl rfl 9 (by decide) (hts (.fieldLink RX3 56 "NeedHouse$Machine" "steps" "I") (List.mem_of_getElem? (i := 3) rfl)) (fun _ h9 => h9) rfl (by decide +kernel) rfl rfl (by rw [hF_4.1]; decide) dX3_forget_12 (fun H locs hP hD hS => ?_)
  have hP : va_P (dC, dI) vwCl [(h0, .inr (3, (fs_6.set 9 (.int 0)))), (qx, .inr (6, fsx))] H := hP
  have hD : va_D A [(h0, .inr (3, (fs_6.set 9 (.int 0)))), (qx, .inr (6, fsx))] := hD
  have hF_7 := hF_4.set 9 (.int 0) (l' := [(9, .int 0), (7, .int 0), (8, .int 0), (10, .int z5), (11, .int z6), (13, .int z7), (5, .ref qx)]) (by decide) rfl
  have hE_8 := hE_5.set 9 (.int 0)
  generalize fs_6.set 9 (.int 0) = fs_9 at hP hD hF_7 hE_8
  have hP : va_P (dC, dI) vwCl [(h0, .inr (3, fs_9)), (qx, .inr (6, fsx))] H := hP
  have hD : va_D A [(h0, .inr (3, fs_9)), (qx, .inr (6, fsx))] := hD
  refine lv_aload_n hx hb dX3_forget_15 rfl (lv_at hl 0 rfl) ?_
  refine lv_iconst (v := 0) hx hb dX3_forget_16 (by decide) ?_
  refine va_put (D := (dC, dI)) (ci := 3) (v := .int 0) (ty := .int) (C := RX3) (T := TX3) (N := 14) hx hb hts hin_X3 tyX3 tyX3_ok nmX3 hown hK hP hD hS 0 rfl rfl 10 (by decide) (hts (.fieldLink RX3 59 "NeedHouse$Machine" "made" "I") (List.mem_of_getElem? (i := 4) rfl)) (fun _ h9 => h9) rfl (by decide +kernel) rfl rfl (by rw [hF_7.1]; decide) dX3_forget_17 (fun H locs hP hD hS => ?_)
  have hP : va_P (dC, dI) vwCl [(h0, .inr (3, (fs_9.set 10 (.int 0)))), (qx, .inr (6, fsx))] H := hP
  have hD : va_D A [(h0, .inr (3, (fs_9.set 10 (.int 0)))), (qx, .inr (6, fsx))] := hD
  have hF_10 := hF_7.set 10 (.int 0) (l' := [(10, .int 0), (9, .int 0), (7, .int 0), (8, .int 0), (11, .int z6), (13, .int z7), (5, .ref qx)]) (by decide) rfl
  have hE_11 := hE_8.set 10 (.int 0)
  generalize fs_9.set 10 (.int 0) = fs_12 at hP hD hF_10 hE_11
  have hP : va_P (dC, dI) vwCl [(h0, .inr (3, fs_12)), (qx, .inr (6, fsx))] H := hP
  have hD : va_D A [(h0, .inr (3, fs_12)), (qx, .inr (6, fsx))] := hD
  refine lv_aload_n hx hb dX3_forget_20 rfl (lv_at hl 0 rfl) ?_
  refine lv_iconst (v := 0) hx hb dX3_forget_21 (by decide) ?_
  refine va_put (D := (dC, dI)) (ci := 3) (v := .int 0) (ty := .int) (C := RX3) (T := TX3) (N := 14) hx hb hts hin_X3 tyX3 tyX3_ok nmX3 hown hK hP hD hS 0 rfl rfl 11 (by decide) (hts (.fieldLink RX3 62 "NeedHouse$Machine" "got" "I") (List.mem_of_getElem? (i := 5) rfl)) (fun _ h9 => h9) rfl (by decide +kernel) rfl rfl (by rw [hF_10.1]; decide) dX3_forget_22 (fun H locs hP hD hS => ?_)
  have hP : va_P (dC, dI) vwCl [(h0, .inr (3, (fs_12.set 11 (.int 0)))), (qx, .inr (6, fsx))] H := hP
  have hD : va_D A [(h0, .inr (3, (fs_12.set 11 (.int 0)))), (qx, .inr (6, fsx))] := hD
  have hF_13 := hF_10.set 11 (.int 0) (l' := [(11, .int 0), (10, .int 0), (9, .int 0), (7, .int 0), (8, .int 0), (13, .int z7), (5, .ref qx)]) (by decide) rfl
  have hE_14 := hE_11.set 11 (.int 0)
  generalize fs_12.set 11 (.int 0) = fs_15 at hP hD hF_13 hE_14
  have hP : va_P (dC, dI) vwCl [(h0, .inr (3, fs_15)), (qx, .inr (6, fsx))] H := hP
  have hD : va_D A [(h0, .inr (3, fs_15)), (qx, .inr (6, fsx))] := hD
  refine lv_aload_n hx hb dX3_forget_25 rfl (lv_at hl 0 rfl) ?_
  refine lv_lconst (v := 0) hx hb dX3_forget_26 (by decide) ?_
  refine va_put (D := (dC, dI)) (ci := 3) (v := .long 0) (ty := .long) (C := RX3) (T := TX3) (N := 14) hx hb hts hin_X3 tyX3 tyX3_ok nmX3 hown hK hP hD hS 0 rfl rfl 12 (by decide) (hts (.fieldLink RX3 65 "NeedHouse$Machine" "value" "J") (List.mem_of_getElem? (i := 6) rfl)) (fun _ h9 => h9) rfl (by decide +kernel) rfl rfl (by rw [hF_13.1]; decide) dX3_forget_27 (fun H locs hP hD hS => ?_)
  have hP : va_P (dC, dI) vwCl [(h0, .inr (3, (fs_15.set 12 (.long 0)))), (qx, .inr (6, fsx))] H := hP
  have hD : va_D A [(h0, .inr (3, (fs_15.set 12 (.long 0)))), (qx, .inr (6, fsx))] := hD
  have hF_16 := hF_13.set 12 (.long 0) (l' := [(12, .long 0), (11, .int 0), (10, .int 0), (9, .int 0), (7, .int 0), (8, .int 0), (13, .int z7), (5, .ref qx)]) (by decide) rfl
  have hE_17 := hE_14.set 12 (.long 0)
  generalize fs_15.set 12 (.long 0) = fs_18 at hP hD hF_16 hE_17
  have hP : va_P (dC, dI) vwCl [(h0, .inr (3, fs_18)), (qx, .inr (6, fsx))] H := hP
  have hD : va_D A [(h0, .inr (3, fs_18)), (qx, .inr (6, fsx))] := hD
  refine lv_aload_n hx hb dX3_forget_30 rfl (lv_at hl 0 rfl) ?_
  refine lv_iconst (v := 0) hx hb dX3_forget_31 (by decide) ?_
  refine va_put (D := (dC, dI)) (ci := 3) (v := .int 0) (ty := .boolean) (C := RX3) (T := TX3) (N := 14) hx hb hts hin_X3 tyX3 tyX3_ok nmX3 hown hK hP hD hS 0 rfl rfl 13 (by decide) (hts (.fieldLink RX3 69 "NeedHouse$Machine" "giving" "Z") (List.mem_of_getElem? (i := 7) rfl)) (fun _ h9 => h9) rfl (by decide +kernel) rfl rfl (by rw [hF_16.1]; decide) dX3_forget_32 (fun H locs hP hD hS => ?_)
  have hP : va_P (dC, dI) vwCl [(h0, .inr (3, (fs_18.set 13 (.int 0)))), (qx, .inr (6, fsx))] H := hP
  have hD : va_D A [(h0, .inr (3, (fs_18.set 13 (.int 0)))), (qx, .inr (6, fsx))] := hD
  have hF_19 := hF_16.set 13 (.int 0) (l' := [(13, .int 0), (12, .long 0), (11, .int 0), (10, .int 0), (9, .int 0), (7, .int 0), (8, .int 0), (5, .ref qx)]) (by decide) rfl
  have hE_20 := hE_17.set 13 (.int 0)
  generalize fs_18.set 13 (.int 0) = fs_21 at hP hD hF_19 hE_20
  have hP : va_P (dC, dI) vwCl [(h0, .inr (3, fs_21)), (qx, .inr (6, fsx))] H := hP
  have hD : va_D A [(h0, .inr (3, fs_21)), (qx, .inr (6, fsx))] := hD
  refine lv_aload_n hx hb dX3_forget_35 rfl (lv_at hl 0 rfl) ?_
  refine va_get (D := (dC, dI)) (ci := 3) (v := .ref qx) (C := RX3) (T := TX3) (N := 14) hx hb hts hin_X3 hown hK hP 0 rfl rfl 5 (by decide) (hts (.fieldLink RX3 45 "NeedHouse$Machine" "text" "LNeedHouse$Sheet;") (List.mem_of_getElem? (i := 8) rfl)) (fun _ h9 => h9) (hF_19.at 7 rfl) dX3_forget_36 ?_
  have hPc := hP.sub (ws' := [(qx, .inr (6, fsx))]) [1] rfl
  have hDc := hD.sub (ws' := [(qx, .inr (6, fsx))]) [1] (by decide) rfl
  have hKc := hK.sub (tys' := []) [] rfl
  have hFc := va_free (wc := [(qx, .inr (6, fsx))]) hD hS hA [1] rfl
  refine va_callv (va_runV (As := []) (rest := []) ⟨hx, hb, hml, hown, hts⟩ (c_X6_clear l dC dI H.size qx fsx z1 (hFx.sub [0] rfl)) (cwV 0 hts g_c_X3_forget_c_X6_clear_39 rfl rfl rfl (by decide +kernel) ⟨Nat.le_of_ble_eq_true rfl, Nat.le_of_ble_eq_true rfl⟩) ⟨fun a U g mk q => by obtain ⟨q0, q1, qP, qK, qD⟩ := q; exact ⟨q0, q1, qP, va_K.moved (u := U) (U := U.calling g mk a) (Vm.Alike.refl U.vm) qK, qD⟩, va_recv hKc hPc (ci := 6) (q0 := 0) rfl rfl, fun U hU hW => ⟨rfl, by rw [hU], by rw [hU]; exact hPc, va_K.moved hW.alike hKc, hDc.weaken (fun _ _ _ _ => trivial)⟩⟩ rfl rfl hl.1 rfl (lv_room (Nat.le_of_ble_eq_true rfl)) dX3_forget_39 ⟨show 0 + 0 ≤ 0 by decide, show 0 + 0 ≤ 0 by decide⟩) hS (fun q _ h => hFc q h) hFc (fun u t H1 locs ht hvm hw hB hz1 hk1 hS => ?_)
  obtain ⟨fs0z_24, rfl⟩ : ∃ z, z = u := ⟨_, rfl⟩
  obtain ⟨hP1, hK1, hD1⟩ := hB
  rw [ht] at hP1
  have hK1 := va_K.moved hvm.symm hK1
  try dsimp only at hw hP1 hK1 hD1
  obtain ⟨hF_25, hE_26⟩ := hw
  obtain ⟨hP, hD⟩ := va_join (wr := [(h0, .inr (3, fs_21))]) (w1 := [(qx, .inr (6, fs0z_24))]) hP hD [1] [0] rfl rfl (by decide) (by decide) hk1 hFc hP1 hD1
  generalize H1 = H at hP hS ⊢
  have hK := (hK.sub (tys' := []) [] rfl).app hK1
  have hK : va_K (dC, dI) vwCl [] s := hK
  have hP : va_P (dC, dI) vwCl [(h0, .inr (3, fs_21)), (qx, .inr (6, fs0z_24))] H := hP
  have hD : va_D A [(h0, .inr (3, fs_21)), (qx, .inr (6, fs0z_24))] := hD
  have hF_27 := hFx.same hE_26 (l' := []) rfl
  have hF_28 := hF_25.app hF_27
  have hE_29 := (sameF.rf (f := fsx)).trans hE_26
  have hP9 := hP.sub (ws' := [(h0, .inr (3, fs_21)), (qx, .inr (6, fs0z_24))]) [0, 1] rfl
  have hD9 := hD.sub (ws' := [(h0, .inr (3, fs_21)), (qx, .inr (6, fs0z_24))]) [0, 1] (by decide) rfl
  have hK9 := hK.sub (tys' := []) [] rfl
  exact W.vret hx hb hr (fun t ht hW => ⟨⟨((fs_21, fs0z_24)), rfl, ⟨hE_20.mono (by decide), hE_29.mono (by decide)⟩, by rw [ht]; exact hP9, va_K.moved hW.alike hK9, hD9⟩, hS.F ht⟩) hS.2.2 dX3_forget_42
def pw_c_X9_clear : List Cond := .code yX9_clear cX9_clear 1 none :: ([.fieldLink RX9 68 "NeedHouse$Tree" "size" "I", .fieldLink RX9 72 "NeedHouse$Tree" "parts" "I", .fieldLink RX9 75 "NeedHouse$Tree" "items" "I"] ++ (wsX90 ++ []))
set_option maxHeartbeats 4000000 in
set_option maxRecDepth 100000 in
theorem c_X9_clear (l : Launch) (dC : Nat → ClassId) (dI : Nat → Nat → Nat) (sz : Nat) (h0 : Nat) (fs0 : List Value) (hF0 : hasF fs0 20 []) : Met l yX9_clear pw_c_X9_clear ({ frames := 0, cells := 0, slots := 0, locals := 0 }) (va_Pc [.ref h0] (fun U => U.heap.size = sz ∧ va_P (dC, dI) vwCl [(h0, .inr (9, fs0))] U.heap ∧ va_K (dC, dI) vwCl [] U ∧ va_D (fun _ => True) [(h0, .inr (9, fs0))])) (va_Qv (fun (u : (List Value)) => hasF u 20 [(17, .int 0), (19, .int 0)] ∧ sameF fs0 u [17, 18, 19]) (fun (u : (List Value)) (t : State) => va_P (dC, dI) vwCl [(h0, .inr (9, u))] t.heap ∧ va_K (dC, dI) vwCl [] t ∧ va_D (va_A [(h0, .inr (9, fs0))] sz) [(h0, .inr (9, u))]) (va_A [(h0, .inr (9, fs0))] sz)) 0 0 (va_A [(h0, .inr (9, fs0))] sz) := by
  refine Met.ofW (cc := cX9_clear) (maxL := 1) (ret := none) (by decide) rfl ?_
  intro p e s m args below meth c s₁ B hml hv
  obtain ⟨rfl, hsz, hP, hK, hD0⟩ := hv
  have hx := B.exec
  have hb := B.bytes
  have hr := B.returns
  have hts := atoms_spec (ws := pw_c_X9_clear) B.pre
  have hown : s.vm.findClass RX9 = some m.cls := findClass_of_methodNamed B.named
  have hlocks := B.notSynchronized
  have hin_X9 : ∀ w ∈ u_ws RX9 TX9 20, w ∈ pw_c_X9_clear := fun w h => List.mem_cons_of_mem _ (List.mem_append_right _ (List.mem_append_left _ h))
  subst hsz
  have hD := hD0.self (sz := s.heap.size)
  generalize hAe : va_A [(h0, .inr (9, fs0))] s.heap.size = A at hD ⊢
  have hA : ∀ q : Nat, s.heap.size ≤ q → A q := fun q h => by rw [← hAe]; exact Or.inr h
  have hS : va_S A s.heap s.heap [] := va_S.rf
  have hP : va_P (dC, dI) vwCl [(h0, .inr (9, fs0))] s.heap := hP
  have hl := lv_entry ([.ref h0]) (n := 1) (Nat.le_of_ble_eq_true rfl)
  rw [lg_entry_eq]
  generalize (lg_sl ([.ref h0]) ++ List.replicate (1 - (lg_sl ([.ref h0])).length) Slot.unset).toArray = ls at hl ⊢
  have hl : lv_has ls 1 [(0, .ref h0)] := hl
  refine lv_aload_n hx hb dX9_clear_0 rfl (lv_at hl 0 rfl) ?_
  refine lv_iconst (v := 0) hx hb dX9_clear_1 (by decide) ?_
  refine va_put (D := (dC, dI)) (ci := 9) (v := .int 0) (ty := .int) (C := RX9) (T := TX9) (N := 20) hx hb hts hin_X9 tyX9 tyX9_ok nmX9 hown hK hP hD hS 0 rfl rfl 17 (by decide) (hts (.fieldLink RX9 68 "NeedHouse$Tree" "size" "I") (List.mem_of_getElem? (i := 1) rfl)) (fun _ h9 => h9) rfl (by decide +kernel) rfl rfl (by rw [hF0.1]; decide) dX9_clear_2 (fun H locs hP hD hS => ?_)
  have hP : va_P (dC, dI) vwCl [(h0, .inr (9, (fs0.set 17 (.int 0))))] H := hP
  have hD : va_D A [(h0, .inr (9, (fs0.set 17 (.int 0))))] := hD
  have hF_1 := hF0.set 17 (.int 0) (l' := [(17, .int 0)]) (by decide) rfl
  have hE_2 := (sameF.rf (f := fs0)).set 17 (.int 0)
  generalize fs0.set 17 (.int 0) = fs_3 at hP hD hF_1 hE_2
  have hP : va_P (dC, dI) vwCl [(h0, .inr (9, fs_3))] H := hP
  have hD : va_D A [(h0, .inr (9, fs_3))] := hD
  refine lv_aload_n hx hb dX9_clear_5 rfl (lv_at hl 0 rfl) ?_
  refine lv_iconst (v := 0) hx hb dX9_clear_6 (by decide) ?_
  refine va_put (D := (dC, dI)) (ci := 9) (v := .int 0) (ty := .int) (C := RX9) (T := TX9) (N := 20) hx hb hts hin_X9 tyX9 tyX9_ok nmX9 hown hK hP hD hS 0 rfl rfl 18 (by decide) (hts (.fieldLink RX9 72 "NeedHouse$Tree" "parts" "I") (List.mem_of_getElem? (i := 2) rfl)) (fun _ h9 => h9) rfl (by decide +kernel) rfl rfl (by rw [hF_1.1]; decide) dX9_clear_7 (fun H locs hP hD hS => ?_)
  have hP : va_P (dC, dI) vwCl [(h0, .inr (9, (fs_3.set 18 (.int 0))))] H := hP
  have hD : va_D A [(h0, .inr (9, (fs_3.set 18 (.int 0))))] := hD
  have hF_4 := hF_1.set 18 (.int 0) (l' := [(18, .int 0), (17, .int 0)]) (by decide) rfl
  have hE_5 := hE_2.set 18 (.int 0)
  generalize fs_3.set 18 (.int 0) = fs_6 at hP hD hF_4 hE_5
  have hP : va_P (dC, dI) vwCl [(h0, .inr (9, fs_6))] H := hP
  have hD : va_D A [(h0, .inr (9, fs_6))] := hD
  refine lv_aload_n hx hb dX9_clear_10 rfl (lv_at hl 0 rfl) ?_
  refine lv_iconst (v := 0) hx hb dX9_clear_11 (by decide) ?_
  refine va_put (D := (dC, dI)) (ci := 9) (v := .int 0) (ty := .int) (C := RX9) (T := TX9) (N := 20) hx hb hts hin_X9 tyX9 tyX9_ok nmX9 hown hK hP hD hS 0 rfl rfl 19 (by decide) (hts (.fieldLink RX9 75 "NeedHouse$Tree" "items" "I") (List.mem_of_getElem? (i := 3) rfl)) (fun _ h9 => h9) rfl (by decide +kernel) rfl rfl (by rw [hF_4.1]; decide) dX9_clear_12 (fun H locs hP hD hS => ?_)
  have hP : va_P (dC, dI) vwCl [(h0, .inr (9, (fs_6.set 19 (.int 0))))] H := hP
  have hD : va_D A [(h0, .inr (9, (fs_6.set 19 (.int 0))))] := hD
  have hF_7 := hF_4.set 19 (.int 0) (l' := [(19, .int 0), (18, .int 0), (17, .int 0)]) (by decide) rfl
  have hE_8 := hE_5.set 19 (.int 0)
  generalize fs_6.set 19 (.int 0) = fs_9 at hP hD hF_7 hE_8
  have hP : va_P (dC, dI) vwCl [(h0, .inr (9, fs_9))] H := hP
  have hD : va_D A [(h0, .inr (9, fs_9))] := hD
  have hP9 := hP.sub (ws' := [(h0, .inr (9, fs_9))]) [0] rfl
  have hD9 := hD.sub (ws' := [(h0, .inr (9, fs_9))]) [0] (by decide) rfl
  have hK9 := hK.sub (tys' := []) [] rfl
  exact W.vret hx hb hr (fun t ht hW => ⟨⟨(fs_9), rfl, ⟨hF_7.sub [2, 0] rfl, hE_8.mono (by decide)⟩, by rw [ht]; exact hP9, va_K.moved hW.alike hK9, hD9⟩, hS.F ht⟩) hS.2.2 dX9_clear_15
def pw_c_X8_clear : List Cond := .code yX8_clear cX8_clear 1 none :: ([.fieldLink RX8 63 "NeedHouse$Told" "size" "I", .fieldLink RX8 67 "NeedHouse$Told" "scopes" "I"] ++ (wsX80 ++ []))
set_option maxHeartbeats 4000000 in
set_option maxRecDepth 100000 in
theorem c_X8_clear (l : Launch) (dC : Nat → ClassId) (dI : Nat → Nat → Nat) (sz : Nat) (h0 : Nat) (fs0 : List Value) (hF0 : hasF fs0 18 []) : Met l yX8_clear pw_c_X8_clear ({ frames := 0, cells := 0, slots := 0, locals := 0 }) (va_Pc [.ref h0] (fun U => U.heap.size = sz ∧ va_P (dC, dI) vwCl [(h0, .inr (8, fs0))] U.heap ∧ va_K (dC, dI) vwCl [] U ∧ va_D (fun _ => True) [(h0, .inr (8, fs0))])) (va_Qv (fun (u : (List Value)) => hasF u 18 [(17, .int 0), (16, .int 0)] ∧ sameF fs0 u [16, 17]) (fun (u : (List Value)) (t : State) => va_P (dC, dI) vwCl [(h0, .inr (8, u))] t.heap ∧ va_K (dC, dI) vwCl [] t ∧ va_D (va_A [(h0, .inr (8, fs0))] sz) [(h0, .inr (8, u))]) (va_A [(h0, .inr (8, fs0))] sz)) 0 0 (va_A [(h0, .inr (8, fs0))] sz) := by
  refine Met.ofW (cc := cX8_clear) (maxL := 1) (ret := none) (by decide) rfl ?_
  intro p e s m args below meth c s₁ B hml hv
  obtain ⟨rfl, hsz, hP, hK, hD0⟩ := hv
  have hx := B.exec
  have hb := B.bytes
  have hr := B.returns
  have hts := atoms_spec (ws := pw_c_X8_clear) B.pre
  have hown : s.vm.findClass RX8 = some m.cls := findClass_of_methodNamed B.named
  have hlocks := B.notSynchronized
  have hin_X8 : ∀ w ∈ u_ws RX8 TX8 18, w ∈ pw_c_X8_clear := fun w h => List.mem_cons_of_mem _ (List.mem_append_right _ (List.mem_append_left _ h))
  subst hsz
  have hD := hD0.self (sz := s.heap.size)
  generalize hAe : va_A [(h0, .inr (8, fs0))] s.heap.size = A at hD ⊢
  have hA : ∀ q : Nat, s.heap.size ≤ q → A q := fun q h => by rw [← hAe]; exact Or.inr h
  have hS : va_S A s.heap s.heap [] := va_S.rf
  have hP : va_P (dC, dI) vwCl [(h0, .inr (8, fs0))] s.heap := hP
  have hl := lv_entry ([.ref h0]) (n := 1) (Nat.le_of_ble_eq_true rfl)
  rw [lg_entry_eq]
  generalize (lg_sl ([.ref h0]) ++ List.replicate (1 - (lg_sl ([.ref h0])).length) Slot.unset).toArray = ls at hl ⊢
  have hl : lv_has ls 1 [(0, .ref h0)] := hl
  refine lv_aload_n hx hb dX8_clear_0 rfl (lv_at hl 0 rfl) ?_
  refine lv_iconst (v := 0) hx hb dX8_clear_1 (by decide) ?_
  refine va_put (D := (dC, dI)) (ci := 8) (v := .int 0) (ty := .int) (C := RX8) (T := TX8) (N := 18) hx hb hts hin_X8 tyX8 tyX8_ok nmX8 hown hK hP hD hS 0 rfl rfl 16 (by decide) (hts (.fieldLink RX8 63 "NeedHouse$Told" "size" "I") (List.mem_of_getElem? (i := 1) rfl)) (fun _ h9 => h9) rfl (by decide +kernel) rfl rfl (by rw [hF0.1]; decide) dX8_clear_2 (fun H locs hP hD hS => ?_)
  have hP : va_P (dC, dI) vwCl [(h0, .inr (8, (fs0.set 16 (.int 0))))] H := hP
  have hD : va_D A [(h0, .inr (8, (fs0.set 16 (.int 0))))] := hD
  have hF_1 := hF0.set 16 (.int 0) (l' := [(16, .int 0)]) (by decide) rfl
  have hE_2 := (sameF.rf (f := fs0)).set 16 (.int 0)
  generalize fs0.set 16 (.int 0) = fs_3 at hP hD hF_1 hE_2
  have hP : va_P (dC, dI) vwCl [(h0, .inr (8, fs_3))] H := hP
  have hD : va_D A [(h0, .inr (8, fs_3))] := hD
  refine lv_aload_n hx hb dX8_clear_5 rfl (lv_at hl 0 rfl) ?_
  refine lv_iconst (v := 0) hx hb dX8_clear_6 (by decide) ?_
  refine va_put (D := (dC, dI)) (ci := 8) (v := .int 0) (ty := .int) (C := RX8) (T := TX8) (N := 18) hx hb hts hin_X8 tyX8 tyX8_ok nmX8 hown hK hP hD hS 0 rfl rfl 17 (by decide) (hts (.fieldLink RX8 67 "NeedHouse$Told" "scopes" "I") (List.mem_of_getElem? (i := 2) rfl)) (fun _ h9 => h9) rfl (by decide +kernel) rfl rfl (by rw [hF_1.1]; decide) dX8_clear_7 (fun H locs hP hD hS => ?_)
  have hP : va_P (dC, dI) vwCl [(h0, .inr (8, (fs_3.set 17 (.int 0))))] H := hP
  have hD : va_D A [(h0, .inr (8, (fs_3.set 17 (.int 0))))] := hD
  have hF_4 := hF_1.set 17 (.int 0) (l' := [(17, .int 0), (16, .int 0)]) (by decide) rfl
  have hE_5 := hE_2.set 17 (.int 0)
  generalize fs_3.set 17 (.int 0) = fs_6 at hP hD hF_4 hE_5
  have hP : va_P (dC, dI) vwCl [(h0, .inr (8, fs_6))] H := hP
  have hD : va_D A [(h0, .inr (8, fs_6))] := hD
  have hP9 := hP.sub (ws' := [(h0, .inr (8, fs_6))]) [0] rfl
  have hD9 := hD.sub (ws' := [(h0, .inr (8, fs_6))]) [0] (by decide) rfl
  have hK9 := hK.sub (tys' := []) [] rfl
  exact W.vret hx hb hr (fun t ht hW => ⟨⟨(fs_6), rfl, ⟨hF_4.sub [0, 1] rfl, hE_5.mono (by decide)⟩, by rw [ht]; exact hP9, va_K.moved hW.alike hK9, hD9⟩, hS.F ht⟩) hS.2.2 dX8_clear_10
def pw_c_X0_clear : List Cond := .code yX0_clear cX0_clear 1 none :: ([.fieldLink RX0 67 "NeedHouse$Datas" "size" "I", .fieldLink RX0 63 "NeedHouse$Datas" "cons" "I", .fieldLink RX0 70 "NeedHouse$Datas" "codes" "I", .fieldLink RX0 73 "NeedHouse$Datas" "names" "I"] ++ (wsX00 ++ []))
set_option maxHeartbeats 4000000 in
set_option maxRecDepth 100000 in
theorem c_X0_clear (l : Launch) (dC : Nat → ClassId) (dI : Nat → Nat → Nat) (sz : Nat) (h0 : Nat) (fs0 : List Value) (hF0 : hasF fs0 20 []) : Met l yX0_clear pw_c_X0_clear ({ frames := 0, cells := 0, slots := 0, locals := 0 }) (va_Pc [.ref h0] (fun U => U.heap.size = sz ∧ va_P (dC, dI) vwCl [(h0, .inr (0, fs0))] U.heap ∧ va_K (dC, dI) vwCl [] U ∧ va_D (fun _ => True) [(h0, .inr (0, fs0))])) (va_Qv (fun (u : (List Value)) => hasF u 20 [(16, .int 0), (17, .int 5)] ∧ sameF fs0 u [16, 17, 18, 19]) (fun (u : (List Value)) (t : State) => va_P (dC, dI) vwCl [(h0, .inr (0, u))] t.heap ∧ va_K (dC, dI) vwCl [] t ∧ va_D (va_A [(h0, .inr (0, fs0))] sz) [(h0, .inr (0, u))]) (va_A [(h0, .inr (0, fs0))] sz)) 0 0 (va_A [(h0, .inr (0, fs0))] sz) := by
  refine Met.ofW (cc := cX0_clear) (maxL := 1) (ret := none) (by decide) rfl ?_
  intro p e s m args below meth c s₁ B hml hv
  obtain ⟨rfl, hsz, hP, hK, hD0⟩ := hv
  have hx := B.exec
  have hb := B.bytes
  have hr := B.returns
  have hts := atoms_spec (ws := pw_c_X0_clear) B.pre
  have hown : s.vm.findClass RX0 = some m.cls := findClass_of_methodNamed B.named
  have hlocks := B.notSynchronized
  have hin_X0 : ∀ w ∈ u_ws RX0 TX0 20, w ∈ pw_c_X0_clear := fun w h => List.mem_cons_of_mem _ (List.mem_append_right _ (List.mem_append_left _ h))
  subst hsz
  have hD := hD0.self (sz := s.heap.size)
  generalize hAe : va_A [(h0, .inr (0, fs0))] s.heap.size = A at hD ⊢
  have hA : ∀ q : Nat, s.heap.size ≤ q → A q := fun q h => by rw [← hAe]; exact Or.inr h
  have hS : va_S A s.heap s.heap [] := va_S.rf
  have hP : va_P (dC, dI) vwCl [(h0, .inr (0, fs0))] s.heap := hP
  have hl := lv_entry ([.ref h0]) (n := 1) (Nat.le_of_ble_eq_true rfl)
  rw [lg_entry_eq]
  generalize (lg_sl ([.ref h0]) ++ List.replicate (1 - (lg_sl ([.ref h0])).length) Slot.unset).toArray = ls at hl ⊢
  have hl : lv_has ls 1 [(0, .ref h0)] := hl
  refine lv_aload_n hx hb dX0_clear_0 rfl (lv_at hl 0 rfl) ?_
  refine lv_iconst (v := 0) hx hb dX0_clear_1 (by decide) ?_
  refine va_put (D := (dC, dI)) (ci := 0) (v := .int 0) (ty := .int) (C := RX0) (T := TX0) (N := 20) hx hb hts hin_X0 tyX0 tyX0_ok nmX0 hown hK hP hD hS 0 rfl rfl 16 (by decide) (hts (.fieldLink RX0 67 "NeedHouse$Datas" "size" "I") (List.mem_of_getElem? (i := 1) rfl)) (fun _ h9 => h9) rfl (by decide +kernel) rfl rfl (by rw [hF0.1]; decide) dX0_clear_2 (fun H locs hP hD hS => ?_)
  have hP : va_P (dC, dI) vwCl [(h0, .inr (0, (fs0.set 16 (.int 0))))] H := hP
  have hD : va_D A [(h0, .inr (0, (fs0.set 16 (.int 0))))] := hD
  have hF_1 := hF0.set 16 (.int 0) (l' := [(16, .int 0)]) (by decide) rfl
  have hE_2 := (sameF.rf (f := fs0)).set 16 (.int 0)
  generalize fs0.set 16 (.int 0) = fs_3 at hP hD hF_1 hE_2
  have hP : va_P (dC, dI) vwCl [(h0, .inr (0, fs_3))] H := hP
  have hD : va_D A [(h0, .inr (0, fs_3))] := hD
  refine lv_aload_n hx hb dX0_clear_5 rfl (lv_at hl 0 rfl) ?_
  refine lv_iconst (v := 5) hx hb dX0_clear_6 (by decide) ?_
  refine va_put (D := (dC, dI)) (ci := 0) (v := .int 5) (ty := .int) (C := RX0) (T := TX0) (N := 20) hx hb hts hin_X0 tyX0 tyX0_ok nmX0 hown hK hP hD hS 0 rfl rfl 17 (by decide) (hts (.fieldLink RX0 63 "NeedHouse$Datas" "cons" "I") (List.mem_of_getElem? (i := 2) rfl)) (fun _ h9 => h9) rfl (by decide +kernel) rfl rfl (by rw [hF_1.1]; decide) dX0_clear_7 (fun H locs hP hD hS => ?_)
  have hP : va_P (dC, dI) vwCl [(h0, .inr (0, (fs_3.set 17 (.int 5))))] H := hP
  have hD : va_D A [(h0, .inr (0, (fs_3.set 17 (.int 5))))] := hD
  have hF_4 := hF_1.set 17 (.int 5) (l' := [(17, .int 5), (16, .int 0)]) (by decide) rfl
  have hE_5 := hE_2.set 17 (.int 5)
  generalize fs_3.set 17 (.int 5) = fs_6 at hP hD hF_4 hE_5
  have hP : va_P (dC, dI) vwCl [(h0, .inr (0, fs_6))] H := hP
  have hD : va_D A [(h0, .inr (0, fs_6))] := hD
  refine lv_aload_n hx hb dX0_clear_10 rfl (lv_at hl 0 rfl) ?_
  refine lv_iconst (v := 0) hx hb dX0_clear_11 (by decide) ?_
  refine va_put (D := (dC, dI)) (ci := 0) (v := .int 0) (ty := .int) (C := RX0) (T := TX0) (N := 20) hx hb hts hin_X0 tyX0 tyX0_ok nmX0 hown hK hP hD hS 0 rfl rfl 18 (by decide) (hts (.fieldLink RX0 70 "NeedHouse$Datas" "codes" "I") (List.mem_of_getElem? (i := 3) rfl)) (fun _ h9 => h9) rfl (by decide +kernel) rfl rfl (by rw [hF_4.1]; decide) dX0_clear_12 (fun H locs hP hD hS => ?_)
  have hP : va_P (dC, dI) vwCl [(h0, .inr (0, (fs_6.set 18 (.int 0))))] H := hP
  have hD : va_D A [(h0, .inr (0, (fs_6.set 18 (.int 0))))] := hD
  have hF_7 := hF_4.set 18 (.int 0) (l' := [(18, .int 0), (17, .int 5), (16, .int 0)]) (by decide) rfl
  have hE_8 := hE_5.set 18 (.int 0)
  generalize fs_6.set 18 (.int 0) = fs_9 at hP hD hF_7 hE_8
  have hP : va_P (dC, dI) vwCl [(h0, .inr (0, fs_9))] H := hP
  have hD : va_D A [(h0, .inr (0, fs_9))] := hD
  refine lv_aload_n hx hb dX0_clear_15 rfl (lv_at hl 0 rfl) ?_
  refine lv_iconst (v := 0) hx hb dX0_clear_16 (by decide) ?_
  refine va_put (D := (dC, dI)) (ci := 0) (v := .int 0) (ty := .int) (C := RX0) (T := TX0) (N := 20) hx hb hts hin_X0 tyX0 tyX0_ok nmX0 hown hK hP hD hS 0 rfl rfl 19 (by decide) (hts (.fieldLink RX0 73 "NeedHouse$Datas" "names" "I") (List.mem_of_getElem? (i := 4) rfl)) (fun _ h9 => h9) rfl (by decide +kernel) rfl rfl (by rw [hF_7.1]; decide) dX0_clear_17 (fun H locs hP hD hS => ?_)
  have hP : va_P (dC, dI) vwCl [(h0, .inr (0, (fs_9.set 19 (.int 0))))] H := hP
  have hD : va_D A [(h0, .inr (0, (fs_9.set 19 (.int 0))))] := hD
  have hF_10 := hF_7.set 19 (.int 0) (l' := [(19, .int 0), (18, .int 0), (17, .int 5), (16, .int 0)]) (by decide) rfl
  have hE_11 := hE_8.set 19 (.int 0)
  generalize fs_9.set 19 (.int 0) = fs_12 at hP hD hF_10 hE_11
  have hP : va_P (dC, dI) vwCl [(h0, .inr (0, fs_12))] H := hP
  have hD : va_D A [(h0, .inr (0, fs_12))] := hD
  have hP9 := hP.sub (ws' := [(h0, .inr (0, fs_12))]) [0] rfl
  have hD9 := hD.sub (ws' := [(h0, .inr (0, fs_12))]) [0] (by decide) rfl
  have hK9 := hK.sub (tys' := []) [] rfl
  exact W.vret hx hb hr (fun t ht hW => ⟨⟨(fs_12), rfl, ⟨hF_10.sub [3, 2] rfl, hE_11.mono (by decide)⟩, by rw [ht]; exact hP9, va_K.moved hW.alike hK9, hD9⟩, hS.F ht⟩) hS.2.2 dX0_clear_20
def pw_c_X8_openScope : List Cond := .code yX8_openScope cX8_openScope 3 (some .int) :: ([.fieldLink RX8 67 "NeedHouse$Told" "scopes" "I", .fieldLink RX8 36 "NeedHouse$Told" "parent" "[I", .fieldLink RX8 39 "NeedHouse$Told" "owner" "[I", .fieldLink RX8 42 "NeedHouse$Told" "first" "[I", .fieldLink RX8 45 "NeedHouse$Told" "last" "[I", .fieldLink RX8 48 "NeedHouse$Told" "width" "[I"] ++ (wsX80 ++ []))
set_option maxHeartbeats 4000000 in
set_option maxRecDepth 100000 in
theorem c_X8_openScope (l : Launch) (dC : Nat → ClassId) (dI : Nat → Nat → Nat) (sz : Nat) (cI : ClassId) (h0 : Nat) (fs0 : List Value) (a1 : Nat) (f1 : Nat → Int32) (a2 : Nat) (f2 : Nat → Int32) (a3 : Nat) (f3 : Nat → Int32) (a4 : Nat) (f4 : Nat → Int32) (a5 : Nat) (f5 : Nat → Int32) (hF0 : hasF fs0 18 [(17, .int 0), (9, .ref a1), (10, .ref a2), (11, .ref a3), (12, .ref a4), (13, .ref a5)]) : Met l yX8_openScope pw_c_X8_openScope ({ frames := 0, cells := 0, slots := 0, locals := 0 }) (va_Pc [.ref h0, .int (-1), .int (-1)] (fun U => U.heap.size = sz ∧ va_P (dC, dI) vwCl [(h0, .inr (8, fs0)), (a1, .inl (cI, 2100, .inl f1)), (a2, .inl (cI, 2100, .inl f2)), (a3, .inl (cI, 2100, .inl f3)), (a4, .inl (cI, 2100, .inl f4)), (a5, .inl (cI, 2100, .inl f5))] U.heap ∧ va_K (dC, dI) vwCl [(cI, .int)] U ∧ va_D (fun _ => True) [(h0, .inr (8, fs0)), (a1, .inl (cI, 2100, .inl f1)), (a2, .inl (cI, 2100, .inl f2)), (a3, .inl (cI, 2100, .inl f3)), (a4, .inl (cI, 2100, .inl f4)), (a5, .inl (cI, 2100, .inl f5))])) (va_Qi (fun (r : Int32) (u : (List Value) × (Nat → Int32) × (Nat → Int32) × (Nat → Int32) × (Nat → Int32) × (Nat → Int32)) => r = 0 ∧ hasF u.1 18 [(17, .int 1)] ∧ sameF fs0 u.1 [17] ∧ u.2.2.2.1 0 = (-1)) (fun (u : (List Value) × (Nat → Int32) × (Nat → Int32) × (Nat → Int32) × (Nat → Int32) × (Nat → Int32)) (t : State) => va_P (dC, dI) vwCl [(h0, .inr (8, u.1)), (a1, .inl (cI, 2100, .inl u.2.1)), (a2, .inl (cI, 2100, .inl u.2.2.1)), (a3, .inl (cI, 2100, .inl u.2.2.2.1)), (a4, .inl (cI, 2100, .inl u.2.2.2.2.1)), (a5, .inl (cI, 2100, .inl u.2.2.2.2.2))] t.heap ∧ va_K (dC, dI) vwCl [(cI, .int)] t ∧ va_D (va_A [(h0, .inr (8, fs0)), (a1, .inl (cI, 2100, .inl f1)), (a2, .inl (cI, 2100, .inl f2)), (a3, .inl (cI, 2100, .inl f3)), (a4, .inl (cI, 2100, .inl f4)), (a5, .inl (cI, 2100, .inl f5))] sz) [(h0, .inr (8, u.1)), (a1, .inl (cI, 2100, .inl u.2.1)), (a2, .inl (cI, 2100, .inl u.2.2.1)), (a3, .inl (cI, 2100, .inl u.2.2.2.1)), (a4, .inl (cI, 2100, .inl u.2.2.2.2.1)), (a5, .inl (cI, 2100, .inl u.2.2.2.2.2))]) (va_A [(h0, .inr (8, fs0)), (a1, .inl (cI, 2100, .inl f1)), (a2, .inl (cI, 2100, .inl f2)), (a3, .inl (cI, 2100, .inl f3)), (a4, .inl (cI, 2100, .inl f4)), (a5, .inl (cI, 2100, .inl f5))] sz)) 0 0 (va_A [(h0, .inr (8, fs0)), (a1, .inl (cI, 2100, .inl f1)), (a2, .inl (cI, 2100, .inl f2)), (a3, .inl (cI, 2100, .inl f3)), (a4, .inl (cI, 2100, .inl f4)), (a5, .inl (cI, 2100, .inl f5))] sz) := by
  refine Met.ofW (cc := cX8_openScope) (maxL := 3) (ret := (some .int)) (by decide) rfl ?_
  intro p e s m args below meth c s₁ B hml hv
  obtain ⟨rfl, hsz, hP, hK, hD0⟩ := hv
  have hx := B.exec
  have hb := B.bytes
  have hr := B.returns
  have hts := atoms_spec (ws := pw_c_X8_openScope) B.pre
  have hown : s.vm.findClass RX8 = some m.cls := findClass_of_methodNamed B.named
  have hlocks := B.notSynchronized
  have hin_X8 : ∀ w ∈ u_ws RX8 TX8 18, w ∈ pw_c_X8_openScope := fun w h => List.mem_cons_of_mem _ (List.mem_append_right _ (List.mem_append_left _ h))
  subst hsz
  have hD := hD0.self (sz := s.heap.size)
  generalize hAe : va_A [(h0, .inr (8, fs0)), (a1, .inl (cI, 2100, .inl f1)), (a2, .inl (cI, 2100, .inl f2)), (a3, .inl (cI, 2100, .inl f3)), (a4, .inl (cI, 2100, .inl f4)), (a5, .inl (cI, 2100, .inl f5))] s.heap.size = A at hD ⊢
  have hA : ∀ q : Nat, s.heap.size ≤ q → A q := fun q h => by rw [← hAe]; exact Or.inr h
  have hS : va_S A s.heap s.heap [] := va_S.rf
  have hP : va_P (dC, dI) vwCl [(h0, .inr (8, fs0)), (a1, .inl (cI, 2100, .inl f1)), (a2, .inl (cI, 2100, .inl f2)), (a3, .inl (cI, 2100, .inl f3)), (a4, .inl (cI, 2100, .inl f4)), (a5, .inl (cI, 2100, .inl f5))] s.heap := hP
  have hl := lv_entry ([.ref h0, .int (-1), .int (-1)]) (n := 3) (Nat.le_of_ble_eq_true rfl)
  rw [lg_entry_eq]
  generalize (lg_sl ([.ref h0, .int (-1), .int (-1)]) ++ List.replicate (3 - (lg_sl ([.ref h0, .int (-1), .int (-1)])).length) Slot.unset).toArray = ls at hl ⊢
  have hl : lv_has ls 3 [(0, .ref h0), (1, .int (-1)), (2, .int (-1))] := hl
  refine lv_aload_n hx hb dX8_openScope_0 rfl (lv_at hl 0 rfl) ?_
  refine va_get (D := (dC, dI)) (ci := 8) (v := .int 0) (C := RX8) (T := TX8) (N := 18) hx hb hts hin_X8 hown hK hP 0 rfl rfl 17 (by decide) (hts (.fieldLink RX8 67 "NeedHouse$Told" "scopes" "I") (List.mem_of_getElem? (i := 1) rfl)) (fun _ h9 => h9) (hF0.at 0 rfl) dX8_openScope_1 ?_
  refine lv_sipush (v := 2100) hx hb dX8_openScope_4 (by decide) ?_
  refine lv_icmp_lt (tgt := 17) hx hb dX8_openScope_7 (by decide) (fun _ => ?_) (fun c_1 => absurd (by decide) c_1)
  refine lv_aload_n hx hb dX8_openScope_17 rfl (lv_at hl 0 rfl) ?_
  refine va_get (D := (dC, dI)) (ci := 8) (v := .ref a1) (C := RX8) (T := TX8) (N := 18) hx hb hts hin_X8 hown hK hP 0 rfl rfl 9 (by decide) (hts (.fieldLink RX8 36 "NeedHouse$Told" "parent" "[I") (List.mem_of_getElem? (i := 2) rfl)) (fun _ h9 => h9) (hF0.at 1 rfl) dX8_openScope_18 ?_
  refine lv_aload_n hx hb dX8_openScope_21 rfl (lv_at hl 0 rfl) ?_
  refine va_get (D := (dC, dI)) (ci := 8) (v := .int 0) (C := RX8) (T := TX8) (N := 18) hx hb hts hin_X8 hown hK hP 0 rfl rfl 17 (by decide) (hts (.fieldLink RX8 67 "NeedHouse$Told" "scopes" "I") (List.mem_of_getElem? (i := 1) rfl)) (fun _ h9 => h9) (hF0.at 0 rfl) dX8_openScope_22 ?_
  refine lv_iload_n hx hb dX8_openScope_25 rfl (lv_at hl 1 rfl) ?_
  refine va_iast hx hb hK hP hD hS 1 0 rfl rfl (show vp_in (nI 0) 2100 from vp_in_nI (by decide) (by decide)) dX8_openScope_26 (fun H locs hP hD hS => ?_)
  have hP : va_P (dC, dI) vwCl [(h0, .inr (8, fs0)), (a1, .inl (cI, 2100, .inl (upd f1 (0 : Int32).toNatClampNeg (-1)))), (a2, .inl (cI, 2100, .inl f2)), (a3, .inl (cI, 2100, .inl f3)), (a4, .inl (cI, 2100, .inl f4)), (a5, .inl (cI, 2100, .inl f5))] H := hP
  have hD : va_D A [(h0, .inr (8, fs0)), (a1, .inl (cI, 2100, .inl (upd f1 (0 : Int32).toNatClampNeg (-1)))), (a2, .inl (cI, 2100, .inl f2)), (a3, .inl (cI, 2100, .inl f3)), (a4, .inl (cI, 2100, .inl f4)), (a5, .inl (cI, 2100, .inl f5))] := hD
  have hk_3 : (upd f1 (0 : Int32).toNatClampNeg (-1)) 0 = (-1) := by rw [show (0 : Int32).toNatClampNeg = 0 from by decide]; exact pk_us
  generalize upd f1 (0 : Int32).toNatClampNeg (-1) = f_2 at hP hD hk_3
  have hP : va_P (dC, dI) vwCl [(h0, .inr (8, fs0)), (a1, .inl (cI, 2100, .inl f_2)), (a2, .inl (cI, 2100, .inl f2)), (a3, .inl (cI, 2100, .inl f3)), (a4, .inl (cI, 2100, .inl f4)), (a5, .inl (cI, 2100, .inl f5))] H := hP
  have hD : va_D A [(h0, .inr (8, fs0)), (a1, .inl (cI, 2100, .inl f_2)), (a2, .inl (cI, 2100, .inl f2)), (a3, .inl (cI, 2100, .inl f3)), (a4, .inl (cI, 2100, .inl f4)), (a5, .inl (cI, 2100, .inl f5))] := hD
  refine lv_aload_n hx hb dX8_openScope_27 rfl (lv_at hl 0 rfl) ?_
  refine va_get (D := (dC, dI)) (ci := 8) (v := .ref a2) (C := RX8) (T := TX8) (N := 18) hx hb hts hin_X8 hown hK hP 0 rfl rfl 10 (by decide) (hts (.fieldLink RX8 39 "NeedHouse$Told" "owner" "[I") (List.mem_of_getElem? (i := 3) rfl)) (fun _ h9 => h9) (hF0.at 2 rfl) dX8_openScope_28 ?_
  refine lv_aload_n hx hb dX8_openScope_31 rfl (lv_at hl 0 rfl) ?_
  refine va_get (D := (dC, dI)) (ci := 8) (v := .int 0) (C := RX8) (T := TX8) (N := 18) hx hb hts hin_X8 hown hK hP 0 rfl rfl 17 (by decide) (hts (.fieldLink RX8 67 "NeedHouse$Told" "scopes" "I") (List.mem_of_getElem? (i := 1) rfl)) (fun _ h9 => h9) (hF0.at 0 rfl) dX8_openScope_32 ?_
  refine lv_iload_n hx hb dX8_openScope_35 rfl (lv_at hl 2 rfl) ?_
  refine va_iast hx hb hK hP hD hS 2 0 rfl rfl (show vp_in (nI 0) 2100 from vp_in_nI (by decide) (by decide)) dX8_openScope_36 (fun H locs hP hD hS => ?_)
  have hP : va_P (dC, dI) vwCl [(h0, .inr (8, fs0)), (a1, .inl (cI, 2100, .inl f_2)), (a2, .inl (cI, 2100, .inl (upd f2 (0 : Int32).toNatClampNeg (-1)))), (a3, .inl (cI, 2100, .inl f3)), (a4, .inl (cI, 2100, .inl f4)), (a5, .inl (cI, 2100, .inl f5))] H := hP
  have hD : va_D A [(h0, .inr (8, fs0)), (a1, .inl (cI, 2100, .inl f_2)), (a2, .inl (cI, 2100, .inl (upd f2 (0 : Int32).toNatClampNeg (-1)))), (a3, .inl (cI, 2100, .inl f3)), (a4, .inl (cI, 2100, .inl f4)), (a5, .inl (cI, 2100, .inl f5))] := hD
  have hk_5 : (upd f2 (0 : Int32).toNatClampNeg (-1)) 0 = (-1) := by rw [show (0 : Int32).toNatClampNeg = 0 from by decide]; exact pk_us
  generalize upd f2 (0 : Int32).toNatClampNeg (-1) = f_4 at hP hD hk_5
  have hP : va_P (dC, dI) vwCl [(h0, .inr (8, fs0)), (a1, .inl (cI, 2100, .inl f_2)), (a2, .inl (cI, 2100, .inl f_4)), (a3, .inl (cI, 2100, .inl f3)), (a4, .inl (cI, 2100, .inl f4)), (a5, .inl (cI, 2100, .inl f5))] H := hP
  have hD : va_D A [(h0, .inr (8, fs0)), (a1, .inl (cI, 2100, .inl f_2)), (a2, .inl (cI, 2100, .inl f_4)), (a3, .inl (cI, 2100, .inl f3)), (a4, .inl (cI, 2100, .inl f4)), (a5, .inl (cI, 2100, .inl f5))] := hD
  refine lv_aload_n hx hb dX8_openScope_37 rfl (lv_at hl 0 rfl) ?_
  refine va_get (D := (dC, dI)) (ci := 8) (v := .ref a3) (C := RX8) (T := TX8) (N := 18) hx hb hts hin_X8 hown hK hP 0 rfl rfl 11 (by decide) (hts (.fieldLink RX8 42 "NeedHouse$Told" "first" "[I") (List.mem_of_getElem? (i := 4) rfl)) (fun _ h9 => h9) (hF0.at 3 rfl) dX8_openScope_38 ?_
  refine lv_aload_n hx hb dX8_openScope_41 rfl (lv_at hl 0 rfl) ?_
  refine va_get (D := (dC, dI)) (ci := 8) (v := .int 0) (C := RX8) (T := TX8) (N := 18) hx hb hts hin_X8 hown hK hP 0 rfl rfl 17 (by decide) (hts (.fieldLink RX8 67 "NeedHouse$Told" "scopes" "I") (List.mem_of_getElem? (i := 1) rfl)) (fun _ h9 => h9) (hF0.at 0 rfl) dX8_openScope_42 ?_
  refine lv_iconst (v := (-1)) hx hb dX8_openScope_45 (by decide) ?_
  refine va_iast hx hb hK hP hD hS 3 0 rfl rfl (show vp_in (nI 0) 2100 from vp_in_nI (by decide) (by decide)) dX8_openScope_46 (fun H locs hP hD hS => ?_)
  have hP : va_P (dC, dI) vwCl [(h0, .inr (8, fs0)), (a1, .inl (cI, 2100, .inl f_2)), (a2, .inl (cI, 2100, .inl f_4)), (a3, .inl (cI, 2100, .inl (upd f3 (0 : Int32).toNatClampNeg (-1)))), (a4, .inl (cI, 2100, .inl f4)), (a5, .inl (cI, 2100, .inl f5))] H := hP
  have hD : va_D A [(h0, .inr (8, fs0)), (a1, .inl (cI, 2100, .inl f_2)), (a2, .inl (cI, 2100, .inl f_4)), (a3, .inl (cI, 2100, .inl (upd f3 (0 : Int32).toNatClampNeg (-1)))), (a4, .inl (cI, 2100, .inl f4)), (a5, .inl (cI, 2100, .inl f5))] := hD
  have hk_7 : (upd f3 (0 : Int32).toNatClampNeg (-1)) 0 = (-1) := by rw [show (0 : Int32).toNatClampNeg = 0 from by decide]; exact pk_us
  generalize upd f3 (0 : Int32).toNatClampNeg (-1) = f_6 at hP hD hk_7
  have hP : va_P (dC, dI) vwCl [(h0, .inr (8, fs0)), (a1, .inl (cI, 2100, .inl f_2)), (a2, .inl (cI, 2100, .inl f_4)), (a3, .inl (cI, 2100, .inl f_6)), (a4, .inl (cI, 2100, .inl f4)), (a5, .inl (cI, 2100, .inl f5))] H := hP
  have hD : va_D A [(h0, .inr (8, fs0)), (a1, .inl (cI, 2100, .inl f_2)), (a2, .inl (cI, 2100, .inl f_4)), (a3, .inl (cI, 2100, .inl f_6)), (a4, .inl (cI, 2100, .inl f4)), (a5, .inl (cI, 2100, .inl f5))] := hD
  refine lv_aload_n hx hb dX8_openScope_47 rfl (lv_at hl 0 rfl) ?_
  refine va_get (D := (dC, dI)) (ci := 8) (v := .ref a4) (C := RX8) (T := TX8) (N := 18) hx hb hts hin_X8 hown hK hP 0 rfl rfl 12 (by decide) (hts (.fieldLink RX8 45 "NeedHouse$Told" "last" "[I") (List.mem_of_getElem? (i := 5) rfl)) (fun _ h9 => h9) (hF0.at 4 rfl) dX8_openScope_48 ?_
  refine lv_aload_n hx hb dX8_openScope_51 rfl (lv_at hl 0 rfl) ?_
  refine va_get (D := (dC, dI)) (ci := 8) (v := .int 0) (C := RX8) (T := TX8) (N := 18) hx hb hts hin_X8 hown hK hP 0 rfl rfl 17 (by decide) (hts (.fieldLink RX8 67 "NeedHouse$Told" "scopes" "I") (List.mem_of_getElem? (i := 1) rfl)) (fun _ h9 => h9) (hF0.at 0 rfl) dX8_openScope_52 ?_
  refine lv_iconst (v := (-1)) hx hb dX8_openScope_55 (by decide) ?_
  refine va_iast hx hb hK hP hD hS 4 0 rfl rfl (show vp_in (nI 0) 2100 from vp_in_nI (by decide) (by decide)) dX8_openScope_56 (fun H locs hP hD hS => ?_)
  have hP : va_P (dC, dI) vwCl [(h0, .inr (8, fs0)), (a1, .inl (cI, 2100, .inl f_2)), (a2, .inl (cI, 2100, .inl f_4)), (a3, .inl (cI, 2100, .inl f_6)), (a4, .inl (cI, 2100, .inl (upd f4 (0 : Int32).toNatClampNeg (-1)))), (a5, .inl (cI, 2100, .inl f5))] H := hP
  have hD : va_D A [(h0, .inr (8, fs0)), (a1, .inl (cI, 2100, .inl f_2)), (a2, .inl (cI, 2100, .inl f_4)), (a3, .inl (cI, 2100, .inl f_6)), (a4, .inl (cI, 2100, .inl (upd f4 (0 : Int32).toNatClampNeg (-1)))), (a5, .inl (cI, 2100, .inl f5))] := hD
  have hk_9 : (upd f4 (0 : Int32).toNatClampNeg (-1)) 0 = (-1) := by rw [show (0 : Int32).toNatClampNeg = 0 from by decide]; exact pk_us
  generalize upd f4 (0 : Int32).toNatClampNeg (-1) = f_8 at hP hD hk_9
  have hP : va_P (dC, dI) vwCl [(h0, .inr (8, fs0)), (a1, .inl (cI, 2100, .inl f_2)), (a2, .inl (cI, 2100, .inl f_4)), (a3, .inl (cI, 2100, .inl f_6)), (a4, .inl (cI, 2100, .inl f_8)), (a5, .inl (cI, 2100, .inl f5))] H := hP
  have hD : va_D A [(h0, .inr (8, fs0)), (a1, .inl (cI, 2100, .inl f_2)), (a2, .inl (cI, 2100, .inl f_4)), (a3, .inl (cI, 2100, .inl f_6)), (a4, .inl (cI, 2100, .inl f_8)), (a5, .inl (cI, 2100, .inl f5))] := hD
  refine lv_aload_n hx hb dX8_openScope_57 rfl (lv_at hl 0 rfl) ?_
  refine va_get (D := (dC, dI)) (ci := 8) (v := .ref a5) (C := RX8) (T := TX8) (N := 18) hx hb hts hin_X8 hown hK hP 0 rfl rfl 13 (by decide) (hts (.fieldLink RX8 48 "NeedHouse$Told" "width" "[I") (List.mem_of_getElem? (i := 6) rfl)) (fun _ h9 => h9) (hF0.at 5 rfl) dX8_openScope_58 ?_
  refine lv_aload_n hx hb dX8_openScope_61 rfl (lv_at hl 0 rfl) ?_
  refine va_get (D := (dC, dI)) (ci := 8) (v := .int 0) (C := RX8) (T := TX8) (N := 18) hx hb hts hin_X8 hown hK hP 0 rfl rfl 17 (by decide) (hts (.fieldLink RX8 67 "NeedHouse$Told" "scopes" "I") (List.mem_of_getElem? (i := 1) rfl)) (fun _ h9 => h9) (hF0.at 0 rfl) dX8_openScope_62 ?_
  refine lv_iconst (v := 0) hx hb dX8_openScope_65 (by decide) ?_
  refine va_iast hx hb hK hP hD hS 5 0 rfl rfl (show vp_in (nI 0) 2100 from vp_in_nI (by decide) (by decide)) dX8_openScope_66 (fun H locs hP hD hS => ?_)
  have hP : va_P (dC, dI) vwCl [(h0, .inr (8, fs0)), (a1, .inl (cI, 2100, .inl f_2)), (a2, .inl (cI, 2100, .inl f_4)), (a3, .inl (cI, 2100, .inl f_6)), (a4, .inl (cI, 2100, .inl f_8)), (a5, .inl (cI, 2100, .inl (upd f5 (0 : Int32).toNatClampNeg 0)))] H := hP
  have hD : va_D A [(h0, .inr (8, fs0)), (a1, .inl (cI, 2100, .inl f_2)), (a2, .inl (cI, 2100, .inl f_4)), (a3, .inl (cI, 2100, .inl f_6)), (a4, .inl (cI, 2100, .inl f_8)), (a5, .inl (cI, 2100, .inl (upd f5 (0 : Int32).toNatClampNeg 0)))] := hD
  have hk_11 : (upd f5 (0 : Int32).toNatClampNeg 0) 0 = 0 := by rw [show (0 : Int32).toNatClampNeg = 0 from by decide]; exact pk_us
  generalize upd f5 (0 : Int32).toNatClampNeg 0 = f_10 at hP hD hk_11
  have hP : va_P (dC, dI) vwCl [(h0, .inr (8, fs0)), (a1, .inl (cI, 2100, .inl f_2)), (a2, .inl (cI, 2100, .inl f_4)), (a3, .inl (cI, 2100, .inl f_6)), (a4, .inl (cI, 2100, .inl f_8)), (a5, .inl (cI, 2100, .inl f_10))] H := hP
  have hD : va_D A [(h0, .inr (8, fs0)), (a1, .inl (cI, 2100, .inl f_2)), (a2, .inl (cI, 2100, .inl f_4)), (a3, .inl (cI, 2100, .inl f_6)), (a4, .inl (cI, 2100, .inl f_8)), (a5, .inl (cI, 2100, .inl f_10))] := hD
  refine lv_aload_n hx hb dX8_openScope_67 rfl (lv_at hl 0 rfl) ?_
  refine lv_dup hx hb dX8_openScope_68 rfl ?_
  refine va_get (D := (dC, dI)) (ci := 8) (v := .int 0) (C := RX8) (T := TX8) (N := 18) hx hb hts hin_X8 hown hK hP 0 rfl rfl 17 (by decide) (hts (.fieldLink RX8 67 "NeedHouse$Told" "scopes" "I") (List.mem_of_getElem? (i := 1) rfl)) (fun _ h9 => h9) (hF0.at 0 rfl) dX8_openScope_69 ?_
  refine lv_iconst (v := 1) hx hb dX8_openScope_72 (by decide) ?_
  refine lv_iadd hx hb dX8_openScope_73 ?_
  refine lv_topi (fun x_12 ex_12 => ?_)
  obtain rfl : x_12 = 1 := ex_12.trans (by decide +kernel)
  refine va_put (D := (dC, dI)) (ci := 8) (v := .int 1) (ty := .int) (C := RX8) (T := TX8) (N := 18) hx hb hts hin_X8 tyX8 tyX8_ok nmX8 hown hK hP hD hS 0 rfl rfl 17 (by decide) (hts (.fieldLink RX8 67 "NeedHouse$Told" "scopes" "I") (List.mem_of_getElem? (i := 1) rfl)) (fun _ h9 => h9) rfl (by decide +kernel) rfl rfl (by rw [hF0.1]; decide) dX8_openScope_74 (fun H locs hP hD hS => ?_)
  have hP : va_P (dC, dI) vwCl [(h0, .inr (8, (fs0.set 17 (.int 1)))), (a1, .inl (cI, 2100, .inl f_2)), (a2, .inl (cI, 2100, .inl f_4)), (a3, .inl (cI, 2100, .inl f_6)), (a4, .inl (cI, 2100, .inl f_8)), (a5, .inl (cI, 2100, .inl f_10))] H := hP
  have hD : va_D A [(h0, .inr (8, (fs0.set 17 (.int 1)))), (a1, .inl (cI, 2100, .inl f_2)), (a2, .inl (cI, 2100, .inl f_4)), (a3, .inl (cI, 2100, .inl f_6)), (a4, .inl (cI, 2100, .inl f_8)), (a5, .inl (cI, 2100, .inl f_10))] := hD
  have hF_13 := hF0.set 17 (.int 1) (l' := [(17, .int 1), (9, .ref a1), (10, .ref a2), (11, .ref a3), (12, .ref a4), (13, .ref a5)]) (by decide) rfl
  have hE_14 := (sameF.rf (f := fs0)).set 17 (.int 1)
  generalize fs0.set 17 (.int 1) = fs_15 at hP hD hF_13 hE_14
  have hP : va_P (dC, dI) vwCl [(h0, .inr (8, fs_15)), (a1, .inl (cI, 2100, .inl f_2)), (a2, .inl (cI, 2100, .inl f_4)), (a3, .inl (cI, 2100, .inl f_6)), (a4, .inl (cI, 2100, .inl f_8)), (a5, .inl (cI, 2100, .inl f_10))] H := hP
  have hD : va_D A [(h0, .inr (8, fs_15)), (a1, .inl (cI, 2100, .inl f_2)), (a2, .inl (cI, 2100, .inl f_4)), (a3, .inl (cI, 2100, .inl f_6)), (a4, .inl (cI, 2100, .inl f_8)), (a5, .inl (cI, 2100, .inl f_10))] := hD
  refine lv_aload_n hx hb dX8_openScope_77 rfl (lv_at hl 0 rfl) ?_
  refine va_get (D := (dC, dI)) (ci := 8) (v := .int 1) (C := RX8) (T := TX8) (N := 18) hx hb hts hin_X8 hown hK hP 0 rfl rfl 17 (by decide) (hts (.fieldLink RX8 67 "NeedHouse$Told" "scopes" "I") (List.mem_of_getElem? (i := 1) rfl)) (fun _ h9 => h9) (hF_13.at 0 rfl) dX8_openScope_78 ?_
  refine lv_iconst (v := 1) hx hb dX8_openScope_81 (by decide) ?_
  refine lv_isub hx hb dX8_openScope_82 ?_
  refine lv_topi (fun x_16 ex_16 => ?_)
  obtain rfl : x_16 = 0 := ex_16.trans (by decide +kernel)
  have hP9 := hP.sub (ws' := [(h0, .inr (8, fs_15)), (a1, .inl (cI, 2100, .inl f_2)), (a2, .inl (cI, 2100, .inl f_4)), (a3, .inl (cI, 2100, .inl f_6)), (a4, .inl (cI, 2100, .inl f_8)), (a5, .inl (cI, 2100, .inl f_10))]) [0, 1, 2, 3, 4, 5] rfl
  have hD9 := hD.sub (ws' := [(h0, .inr (8, fs_15)), (a1, .inl (cI, 2100, .inl f_2)), (a2, .inl (cI, 2100, .inl f_4)), (a3, .inl (cI, 2100, .inl f_6)), (a4, .inl (cI, 2100, .inl f_8)), (a5, .inl (cI, 2100, .inl f_10))]) [0, 1, 2, 3, 4, 5] (by decide) rfl
  have hK9 := hK.sub (tys' := [(cI, .int)]) [0] rfl
  exact W.iret (v := 0) hx hb hr (fun t ht hW => ⟨⟨0, ((fs_15, f_2, f_4, f_6, f_8, f_10)), rfl, ⟨rfl, hF_13.sub [0] rfl, hE_14.mono (by decide), hk_7⟩, by rw [ht]; exact hP9, va_K.moved hW.alike hK9, hD9⟩, hS.F ht⟩) hS.2.2 dX8_openScope_83
def pw_c_X2_note : List Cond := .code yX2_note cX2_note 3 none :: ([.fieldLink RX2 38 "NeedHouse$Lexemes" "faultKind" "I", .fieldLink RX2 131 "NeedHouse$Lexemes" "faultToken" "I"] ++ (wsX20 ++ []))
set_option maxHeartbeats 4000000 in
set_option maxRecDepth 100000 in
theorem c_X2_note (l : Launch) (dC : Nat → ClassId) (dI : Nat → Nat → Nat) (sz : Nat) (h0 : Nat) (fs0 : List Value) (z1 : Int32) (hF0 : hasF fs0 12 [(10, .int 0), (11, .int z1)]) : Met l yX2_note pw_c_X2_note ({ frames := 0, cells := 0, slots := 0, locals := 0 }) (va_Pc [.ref h0, .int 5, .int 0] (fun U => U.heap.size = sz ∧ va_P (dC, dI) vwCl [(h0, .inr (2, fs0))] U.heap ∧ va_K (dC, dI) vwCl [] U ∧ va_D (fun _ => True) [(h0, .inr (2, fs0))])) (va_Qv (fun (u : (List Value)) => hasF u 12 [(10, .int 5), (11, .int 0)] ∧ sameF fs0 u [10, 11]) (fun (u : (List Value)) (t : State) => va_P (dC, dI) vwCl [(h0, .inr (2, u))] t.heap ∧ va_K (dC, dI) vwCl [] t ∧ va_D (va_A [(h0, .inr (2, fs0))] sz) [(h0, .inr (2, u))]) (va_A [(h0, .inr (2, fs0))] sz)) 0 0 (va_A [(h0, .inr (2, fs0))] sz) := by
  refine Met.ofW (cc := cX2_note) (maxL := 3) (ret := none) (by decide) rfl ?_
  intro p e s m args below meth c s₁ B hml hv
  obtain ⟨rfl, hsz, hP, hK, hD0⟩ := hv
  have hx := B.exec
  have hb := B.bytes
  have hr := B.returns
  have hts := atoms_spec (ws := pw_c_X2_note) B.pre
  have hown : s.vm.findClass RX2 = some m.cls := findClass_of_methodNamed B.named
  have hlocks := B.notSynchronized
  have hin_X2 : ∀ w ∈ u_ws RX2 TX2 12, w ∈ pw_c_X2_note := fun w h => List.mem_cons_of_mem _ (List.mem_append_right _ (List.mem_append_left _ h))
  subst hsz
  have hD := hD0.self (sz := s.heap.size)
  generalize hAe : va_A [(h0, .inr (2, fs0))] s.heap.size = A at hD ⊢
  have hA : ∀ q : Nat, s.heap.size ≤ q → A q := fun q h => by rw [← hAe]; exact Or.inr h
  have hS : va_S A s.heap s.heap [] := va_S.rf
  have hP : va_P (dC, dI) vwCl [(h0, .inr (2, fs0))] s.heap := hP
  have hl := lv_entry ([.ref h0, .int 5, .int 0]) (n := 3) (Nat.le_of_ble_eq_true rfl)
  rw [lg_entry_eq]
  generalize (lg_sl ([.ref h0, .int 5, .int 0]) ++ List.replicate (3 - (lg_sl ([.ref h0, .int 5, .int 0])).length) Slot.unset).toArray = ls at hl ⊢
  have hl : lv_has ls 3 [(0, .ref h0), (1, .int 5), (2, .int 0)] := hl
  refine lv_aload_n hx hb dX2_note_0 rfl (lv_at hl 0 rfl) ?_
  refine va_get (D := (dC, dI)) (ci := 2) (v := .int 0) (C := RX2) (T := TX2) (N := 12) hx hb hts hin_X2 hown hK hP 0 rfl rfl 10 (by decide) (hts (.fieldLink RX2 38 "NeedHouse$Lexemes" "faultKind" "I") (List.mem_of_getElem? (i := 1) rfl)) (fun _ h9 => h9) (hF0.at 0 rfl) dX2_note_1 ?_
  refine lv_if_eq (tgt := 31) hx hb dX2_note_4 (by decide) (fun _ => ?_) (fun c_1 => absurd (by decide) c_1)
  refine lv_aload_n hx hb dX2_note_31 rfl (lv_at hl 0 rfl) ?_
  refine lv_iload_n hx hb dX2_note_32 rfl (lv_at hl 1 rfl) ?_
  refine va_put (D := (dC, dI)) (ci := 2) (v := .int 5) (ty := .int) (C := RX2) (T := TX2) (N := 12) hx hb hts hin_X2 tyX2 tyX2_ok nmX2 hown hK hP hD hS 0 rfl rfl 10 (by decide) (hts (.fieldLink RX2 38 "NeedHouse$Lexemes" "faultKind" "I") (List.mem_of_getElem? (i := 1) rfl)) (fun _ h9 => h9) rfl (by decide +kernel) rfl rfl (by rw [hF0.1]; decide) dX2_note_33 (fun H locs hP hD hS => ?_)
  have hP : va_P (dC, dI) vwCl [(h0, .inr (2, (fs0.set 10 (.int 5))))] H := hP
  have hD : va_D A [(h0, .inr (2, (fs0.set 10 (.int 5))))] := hD
  have hF_2 := hF0.set 10 (.int 5) (l' := [(10, .int 5), (11, .int z1)]) (by decide) rfl
  have hE_3 := (sameF.rf (f := fs0)).set 10 (.int 5)
  generalize fs0.set 10 (.int 5) = fs_4 at hP hD hF_2 hE_3
  have hP : va_P (dC, dI) vwCl [(h0, .inr (2, fs_4))] H := hP
  have hD : va_D A [(h0, .inr (2, fs_4))] := hD
  refine lv_aload_n hx hb dX2_note_36 rfl (lv_at hl 0 rfl) ?_
  refine lv_iload_n hx hb dX2_note_37 rfl (lv_at hl 2 rfl) ?_
  refine va_put (D := (dC, dI)) (ci := 2) (v := .int 0) (ty := .int) (C := RX2) (T := TX2) (N := 12) hx hb hts hin_X2 tyX2 tyX2_ok nmX2 hown hK hP hD hS 0 rfl rfl 11 (by decide) (hts (.fieldLink RX2 131 "NeedHouse$Lexemes" "faultToken" "I") (List.mem_of_getElem? (i := 2) rfl)) (fun _ h9 => h9) rfl (by decide +kernel) rfl rfl (by rw [hF_2.1]; decide) dX2_note_38 (fun H locs hP hD hS => ?_)
  have hP : va_P (dC, dI) vwCl [(h0, .inr (2, (fs_4.set 11 (.int 0))))] H := hP
  have hD : va_D A [(h0, .inr (2, (fs_4.set 11 (.int 0))))] := hD
  have hF_5 := hF_2.set 11 (.int 0) (l' := [(11, .int 0), (10, .int 5)]) (by decide) rfl
  have hE_6 := hE_3.set 11 (.int 0)
  generalize fs_4.set 11 (.int 0) = fs_7 at hP hD hF_5 hE_6
  have hP : va_P (dC, dI) vwCl [(h0, .inr (2, fs_7))] H := hP
  have hD : va_D A [(h0, .inr (2, fs_7))] := hD
  have hP9 := hP.sub (ws' := [(h0, .inr (2, fs_7))]) [0] rfl
  have hD9 := hD.sub (ws' := [(h0, .inr (2, fs_7))]) [0] (by decide) rfl
  have hK9 := hK.sub (tys' := []) [] rfl
  exact W.vret hx hb hr (fun t ht hW => ⟨⟨(fs_7), rfl, ⟨hF_5.sub [1, 0] rfl, hE_6.mono (by decide)⟩, by rw [ht]; exact hP9, va_K.moved hW.alike hK9, hD9⟩, hS.F ht⟩) hS.2.2 dX2_note_41
def pw_c_X8_mainOf : List Cond := .code yX8_mainOf cX8_mainOf 2 (some .int) :: ([.fieldLink RX8 42 "NeedHouse$Told" "first" "[I"] ++ (wsX80 ++ []))
set_option maxHeartbeats 4000000 in
set_option maxRecDepth 100000 in
theorem c_X8_mainOf (l : Launch) (dC : Nat → ClassId) (dI : Nat → Nat → Nat) (sz : Nat) (cI : ClassId) (h0 : Nat) (fs0 : List Value) (a3 : Nat) (f3 : Nat → Int32) (hF0 : hasF fs0 18 [(11, .ref a3)]) (hkf3_0 : f3 0 = (-1)) : Met l yX8_mainOf pw_c_X8_mainOf ({ frames := 0, cells := 0, slots := 0, locals := 0 }) (va_Pc [.ref h0] (fun U => U.heap.size = sz ∧ va_P (dC, dI) vwCl [(h0, .inr (8, fs0)), (a3, .inl (cI, 2100, .inl f3))] U.heap ∧ va_K (dC, dI) vwCl [(cI, .int)] U ∧ va_D (fun _ => True) [(h0, .inr (8, fs0)), (a3, .inl (cI, 2100, .inl f3))])) (va_Qi (fun (r : Int32) (u : Unit) => r = -1) (fun (u : Unit) (t : State) => va_P (dC, dI) vwCl [(h0, .inr (8, fs0)), (a3, .inl (cI, 2100, .inl f3))] t.heap ∧ va_K (dC, dI) vwCl [(cI, .int)] t ∧ va_D (va_A [(h0, .inr (8, fs0)), (a3, .inl (cI, 2100, .inl f3))] sz) [(h0, .inr (8, fs0)), (a3, .inl (cI, 2100, .inl f3))]) (va_A [(h0, .inr (8, fs0)), (a3, .inl (cI, 2100, .inl f3))] sz)) 0 0 (va_A [(h0, .inr (8, fs0)), (a3, .inl (cI, 2100, .inl f3))] sz) := by
  refine Met.ofW (cc := cX8_mainOf) (maxL := 2) (ret := (some .int)) (by decide) rfl ?_
  intro p e s m args below meth c s₁ B hml hv
  obtain ⟨rfl, hsz, hP, hK, hD0⟩ := hv
  have hx := B.exec
  have hb := B.bytes
  have hr := B.returns
  have hts := atoms_spec (ws := pw_c_X8_mainOf) B.pre
  have hown : s.vm.findClass RX8 = some m.cls := findClass_of_methodNamed B.named
  have hlocks := B.notSynchronized
  have hin_X8 : ∀ w ∈ u_ws RX8 TX8 18, w ∈ pw_c_X8_mainOf := fun w h => List.mem_cons_of_mem _ (List.mem_append_right _ (List.mem_append_left _ h))
  subst hsz
  have hD := hD0.self (sz := s.heap.size)
  generalize hAe : va_A [(h0, .inr (8, fs0)), (a3, .inl (cI, 2100, .inl f3))] s.heap.size = A at hD ⊢
  have hA : ∀ q : Nat, s.heap.size ≤ q → A q := fun q h => by rw [← hAe]; exact Or.inr h
  have hS : va_S A s.heap s.heap [] := va_S.rf
  have hP : va_P (dC, dI) vwCl [(h0, .inr (8, fs0)), (a3, .inl (cI, 2100, .inl f3))] s.heap := hP
  have hl := lv_entry ([.ref h0]) (n := 2) (Nat.le_of_ble_eq_true rfl)
  rw [lg_entry_eq]
  generalize (lg_sl ([.ref h0]) ++ List.replicate (2 - (lg_sl ([.ref h0])).length) Slot.unset).toArray = ls at hl ⊢
  have hl : lv_has ls 2 [(0, .ref h0)] := hl
  refine lv_aload_n hx hb dX8_mainOf_0 rfl (lv_at hl 0 rfl) ?_
  refine va_get (D := (dC, dI)) (ci := 8) (v := .ref a3) (C := RX8) (T := TX8) (N := 18) hx hb hts hin_X8 hown hK hP 0 rfl rfl 11 (by decide) (hts (.fieldLink RX8 42 "NeedHouse$Told" "first" "[I") (List.mem_of_getElem? (i := 1) rfl)) (fun _ h9 => h9) (hF0.at 0 rfl) dX8_mainOf_1 ?_
  refine lv_iconst (v := 0) hx hb dX8_mainOf_4 (by decide) ?_
  refine va_iald hx hb hK hP 1 0 rfl rfl (show vp_in (nI 0) 2100 from vp_in_nI (by decide) (by decide)) dX8_mainOf_5 ?_
  refine lv_topi (fun x_1 ex_1 => ?_)
  obtain rfl : x_1 = (-1) := ex_1.trans (by rw [show (0 : Int32).toNatClampNeg = 0 from by decide]; exact hkf3_0)
  refine lv_istore_n (lv' := [(1, .int (-1)), (0, .ref h0)]) hx hb dX8_mainOf_6 rfl hl (by decide) rfl (fun ls hl => ?_)
  refine lv_iload_n hx hb dX8_mainOf_7 rfl (lv_at hl 0 rfl) ?_
  refine lv_if_lt (tgt := 34) hx hb dX8_mainOf_8 (by decide) (fun _ => ?_) (fun c_2 => absurd (by decide) c_2)
  refine lv_iconst (v := (-1)) hx hb dX8_mainOf_34 (by decide) ?_
  have hP9 := hP.sub (ws' := [(h0, .inr (8, fs0)), (a3, .inl (cI, 2100, .inl f3))]) [0, 1] rfl
  have hD9 := hD.sub (ws' := [(h0, .inr (8, fs0)), (a3, .inl (cI, 2100, .inl f3))]) [0, 1] (by decide) rfl
  have hK9 := hK.sub (tys' := [(cI, .int)]) [0] rfl
  exact W.iret (v := (-1)) hx hb hr (fun t ht hW => ⟨⟨(-1), (()), rfl, rfl, by rw [ht]; exact hP9, va_K.moved hW.alike hK9, hD9⟩, hS.F ht⟩) hS.2.2 dX8_mainOf_35
def pw_c_X9_check : List Cond := .code yX9_check cX9_check 4 none :: ([.fieldLink RX9 68 "NeedHouse$Tree" "size" "I", .fieldLink RX9 75 "NeedHouse$Tree" "items" "I"] ++ (wsX90 ++ []))
set_option maxHeartbeats 4000000 in
set_option maxRecDepth 100000 in
theorem c_X9_check (l : Launch) (dC : Nat → ClassId) (dI : Nat → Nat → Nat) (sz : Nat) (h0 : Nat) (fs0 : List Value) (hF0 : hasF fs0 20 [(17, .int 0), (19, .int 0)]) : Met l yX9_check pw_c_X9_check ({ frames := 0, cells := 0, slots := 0, locals := 0 }) (va_Pc [.ref h0] (fun U => U.heap.size = sz ∧ va_P (dC, dI) vwCl [(h0, .inr (9, fs0))] U.heap ∧ va_K (dC, dI) vwCl [] U ∧ va_D (fun _ => True) [(h0, .inr (9, fs0))])) (va_Qv (fun (u : Unit) => True) (fun (u : Unit) (t : State) => va_P (dC, dI) vwCl [(h0, .inr (9, fs0))] t.heap ∧ va_K (dC, dI) vwCl [] t ∧ va_D (va_A [(h0, .inr (9, fs0))] sz) [(h0, .inr (9, fs0))]) (va_A [(h0, .inr (9, fs0))] sz)) 0 0 (va_A [(h0, .inr (9, fs0))] sz) := by
  refine Met.ofW (cc := cX9_check) (maxL := 4) (ret := none) (by decide) rfl ?_
  intro p e s m args below meth c s₁ B hml hv
  obtain ⟨rfl, hsz, hP, hK, hD0⟩ := hv
  have hx := B.exec
  have hb := B.bytes
  have hr := B.returns
  have hts := atoms_spec (ws := pw_c_X9_check) B.pre
  have hown : s.vm.findClass RX9 = some m.cls := findClass_of_methodNamed B.named
  have hlocks := B.notSynchronized
  have hin_X9 : ∀ w ∈ u_ws RX9 TX9 20, w ∈ pw_c_X9_check := fun w h => List.mem_cons_of_mem _ (List.mem_append_right _ (List.mem_append_left _ h))
  subst hsz
  have hD := hD0.self (sz := s.heap.size)
  generalize hAe : va_A [(h0, .inr (9, fs0))] s.heap.size = A at hD ⊢
  have hA : ∀ q : Nat, s.heap.size ≤ q → A q := fun q h => by rw [← hAe]; exact Or.inr h
  have hS : va_S A s.heap s.heap [] := va_S.rf
  have hP : va_P (dC, dI) vwCl [(h0, .inr (9, fs0))] s.heap := hP
  have hl := lv_entry ([.ref h0]) (n := 4) (Nat.le_of_ble_eq_true rfl)
  rw [lg_entry_eq]
  generalize (lg_sl ([.ref h0]) ++ List.replicate (4 - (lg_sl ([.ref h0])).length) Slot.unset).toArray = ls at hl ⊢
  have hl : lv_has ls 4 [(0, .ref h0)] := hl
  refine lv_iconst (v := 0) hx hb dX9_check_0 (by decide) ?_
  refine lv_istore_n (lv' := [(1, .int 0), (0, .ref h0)]) hx hb dX9_check_1 rfl hl (by decide) rfl (fun ls hl => ?_)
  refine lv_iload_n hx hb dX9_check_2 rfl (lv_at hl 0 rfl) ?_
  refine lv_aload_n hx hb dX9_check_3 rfl (lv_at hl 1 rfl) ?_
  refine va_get (D := (dC, dI)) (ci := 9) (v := .int 0) (C := RX9) (T := TX9) (N := 20) hx hb hts hin_X9 hown hK hP 0 rfl rfl 17 (by decide) (hts (.fieldLink RX9 68 "NeedHouse$Tree" "size" "I") (List.mem_of_getElem? (i := 1) rfl)) (fun _ h9 => h9) (hF0.at 0 rfl) dX9_check_4 ?_
  refine lv_icmp_ge (tgt := 121) hx hb dX9_check_7 (by decide) (fun _ => ?_) (fun c_1 => absurd (by decide) c_1)
  refine lv_iconst (v := 0) hx hb dX9_check_121 (by decide) ?_
  refine lv_istore_n (lv' := [(1, .int 0), (0, .ref h0)]) hx hb dX9_check_122 rfl hl (by decide) rfl (fun ls hl => ?_)
  refine lv_iload_n hx hb dX9_check_123 rfl (lv_at hl 0 rfl) ?_
  refine lv_aload_n hx hb dX9_check_124 rfl (lv_at hl 1 rfl) ?_
  refine va_get (D := (dC, dI)) (ci := 9) (v := .int 0) (C := RX9) (T := TX9) (N := 20) hx hb hts hin_X9 hown hK hP 0 rfl rfl 19 (by decide) (hts (.fieldLink RX9 75 "NeedHouse$Tree" "items" "I") (List.mem_of_getElem? (i := 2) rfl)) (fun _ h9 => h9) (hF0.at 1 rfl) dX9_check_125 ?_
  refine lv_icmp_ge (tgt := 220) hx hb dX9_check_128 (by decide) (fun _ => ?_) (fun c_2 => absurd (by decide) c_2)
  have hP9 := hP.sub (ws' := [(h0, .inr (9, fs0))]) [0] rfl
  have hD9 := hD.sub (ws' := [(h0, .inr (9, fs0))]) [0] (by decide) rfl
  have hK9 := hK.sub (tys' := []) [] rfl
  exact W.vret hx hb hr (fun t ht hW => ⟨⟨(()), rfl, trivial, by rw [ht]; exact hP9, va_K.moved hW.alike hK9, hD9⟩, hS.F ht⟩) hS.2.2 dX9_check_220
def pw_c_X1_closes : List Cond := .code yX1_closes cX1_closes 1 (some .int) :: ([] ++ [])
set_option maxHeartbeats 4000000 in
set_option maxRecDepth 100000 in
theorem c_X1_closes (l : Launch) (dC : Nat → ClassId) (dI : Nat → Nat → Nat) (sz : Nat) : Met l yX1_closes pw_c_X1_closes ({ frames := 0, cells := 0, slots := 0, locals := 0 }) (va_Pc [.int 0] (fun U => U.heap.size = sz ∧ va_P (dC, dI) vwCl [] U.heap ∧ va_K (dC, dI) vwCl [] U ∧ va_D (fun _ => True) [])) (va_Qi (fun (r : Int32) (u : Unit) => r = 0) (fun (u : Unit) (t : State) => va_P (dC, dI) vwCl [] t.heap ∧ va_K (dC, dI) vwCl [] t ∧ va_D (va_A [] sz) []) (va_A [] sz)) 0 0 (va_A [] sz) := by
  refine Met.ofW (cc := cX1_closes) (maxL := 1) (ret := (some .int)) (by decide) rfl ?_
  intro p e s m args below meth c s₁ B hml hv
  obtain ⟨rfl, hsz, hP, hK, hD0⟩ := hv
  have hx := B.exec
  have hb := B.bytes
  have hr := B.returns
  have hts := atoms_spec (ws := pw_c_X1_closes) B.pre
  have hown : s.vm.findClass RX1 = some m.cls := findClass_of_methodNamed B.named
  have hlocks := B.notSynchronized
  subst hsz
  have hD := hD0.self (sz := s.heap.size)
  generalize hAe : va_A [] s.heap.size = A at hD ⊢
  have hA : ∀ q : Nat, s.heap.size ≤ q → A q := fun q h => by rw [← hAe]; exact Or.inr h
  have hS : va_S A s.heap s.heap [] := va_S.rf
  have hP : va_P (dC, dI) vwCl [] s.heap := hP
  have hl := lv_entry ([.int 0]) (n := 1) (Nat.le_of_ble_eq_true rfl)
  rw [lg_entry_eq]
  generalize (lg_sl ([.int 0]) ++ List.replicate (1 - (lg_sl ([.int 0])).length) Slot.unset).toArray = ls at hl ⊢
  have hl : lv_has ls 1 [(0, .int 0)] := hl
  refine lv_iload_n hx hb dX1_closes_0 rfl (lv_at hl 0 rfl) ?_
  refine lv_tableOut (tgt := 74) hx hb dX1_closes_1 (by decide) (by decide) ?_
  refine lv_iconst (v := 0) hx hb dX1_closes_74 (by decide) ?_
  have hP9 := hP.sub (ws' := []) [] rfl
  have hD9 := hD.sub (ws' := []) [] (by decide) rfl
  have hK9 := hK.sub (tys' := []) [] rfl
  exact W.iret (v := 0) hx hb hr (fun t ht hW => ⟨⟨0, (()), rfl, rfl, by rw [ht]; exact hP9, va_K.moved hW.alike hK9, hD9⟩, hS.F ht⟩) hS.2.2 dX1_closes_75
def pw_c_X1_opens : List Cond := .code yX1_opens cX1_opens 1 (some .boolean) :: ([] ++ [])
set_option maxHeartbeats 4000000 in
set_option maxRecDepth 100000 in
theorem c_X1_opens (l : Launch) (dC : Nat → ClassId) (dI : Nat → Nat → Nat) (sz : Nat) : Met l yX1_opens pw_c_X1_opens ({ frames := 0, cells := 0, slots := 0, locals := 0 }) (va_Pc [.int 0] (fun U => U.heap.size = sz ∧ va_P (dC, dI) vwCl [] U.heap ∧ va_K (dC, dI) vwCl [] U ∧ va_D (fun _ => True) [])) (va_Qi (fun (r : Int32) (u : Unit) => r = 0) (fun (u : Unit) (t : State) => va_P (dC, dI) vwCl [] t.heap ∧ va_K (dC, dI) vwCl [] t ∧ va_D (va_A [] sz) []) (va_A [] sz)) 0 0 (va_A [] sz) := by
  refine Met.ofW (cc := cX1_opens) (maxL := 1) (ret := (some .boolean)) (by decide) rfl ?_
  intro p e s m args below meth c s₁ B hml hv
  obtain ⟨rfl, hsz, hP, hK, hD0⟩ := hv
  have hx := B.exec
  have hb := B.bytes
  have hr := B.returns
  have hts := atoms_spec (ws := pw_c_X1_opens) B.pre
  have hown : s.vm.findClass RX1 = some m.cls := findClass_of_methodNamed B.named
  have hlocks := B.notSynchronized
  subst hsz
  have hD := hD0.self (sz := s.heap.size)
  generalize hAe : va_A [] s.heap.size = A at hD ⊢
  have hA : ∀ q : Nat, s.heap.size ≤ q → A q := fun q h => by rw [← hAe]; exact Or.inr h
  have hS : va_S A s.heap s.heap [] := va_S.rf
  have hP : va_P (dC, dI) vwCl [] s.heap := hP
  have hl := lv_entry ([.int 0]) (n := 1) (Nat.le_of_ble_eq_true rfl)
  rw [lg_entry_eq]
  generalize (lg_sl ([.int 0]) ++ List.replicate (1 - (lg_sl ([.int 0])).length) Slot.unset).toArray = ls at hl ⊢
  have hl : lv_has ls 1 [(0, .int 0)] := hl
  refine lv_iload_n hx hb dX1_opens_0 rfl (lv_at hl 0 rfl) ?_
  refine lv_bipush (v := 13) hx hb dX1_opens_1 (by decide) ?_
  refine lv_icmp_eq (tgt := 36) hx hb dX1_opens_3 (by decide) (fun c_1 => absurd c_1 (by decide)) (fun _ => ?_)
  refine lv_iload_n hx hb dX1_opens_6 rfl (lv_at hl 0 rfl) ?_
  refine lv_bipush (v := 15) hx hb dX1_opens_7 (by decide) ?_
  refine lv_icmp_eq (tgt := 36) hx hb dX1_opens_9 (by decide) (fun c_2 => absurd c_2 (by decide)) (fun _ => ?_)
  refine lv_iload_n hx hb dX1_opens_12 rfl (lv_at hl 0 rfl) ?_
  refine lv_bipush (v := 8) hx hb dX1_opens_13 (by decide) ?_
  refine lv_icmp_eq (tgt := 36) hx hb dX1_opens_15 (by decide) (fun c_3 => absurd c_3 (by decide)) (fun _ => ?_)
  refine lv_iload_n hx hb dX1_opens_18 rfl (lv_at hl 0 rfl) ?_
  refine lv_bipush (v := 9) hx hb dX1_opens_19 (by decide) ?_
  refine lv_icmp_eq (tgt := 36) hx hb dX1_opens_21 (by decide) (fun c_4 => absurd c_4 (by decide)) (fun _ => ?_)
  refine lv_iload_n hx hb dX1_opens_24 rfl (lv_at hl 0 rfl) ?_
  refine lv_bipush (v := 11) hx hb dX1_opens_25 (by decide) ?_
  refine lv_icmp_eq (tgt := 36) hx hb dX1_opens_27 (by decide) (fun c_5 => absurd c_5 (by decide)) (fun _ => ?_)
  refine lv_iload_n hx hb dX1_opens_30 rfl (lv_at hl 0 rfl) ?_
  refine lv_bipush (v := 6) hx hb dX1_opens_31 (by decide) ?_
  refine lv_icmp_ne (tgt := 40) hx hb dX1_opens_33 (by decide) (fun _ => ?_) (fun c_6 => absurd c_6 (by decide))
  refine lv_iconst (v := 0) hx hb dX1_opens_40 (by decide) ?_
  have hP9 := hP.sub (ws' := []) [] rfl
  have hD9 := hD.sub (ws' := []) [] (by decide) rfl
  have hK9 := hK.sub (tys' := []) [] rfl
  exact W.zret (v := 0) hx hb hr (by first | rfl | decide +kernel) (fun t ht hW => ⟨⟨0, (()), rfl, rfl, by rw [ht]; exact hP9, va_K.moved hW.alike hK9, hD9⟩, hS.F ht⟩) hS.2.2 dX1_opens_41
