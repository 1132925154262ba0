theorem dX12_put_0 : decode cX12_put 0 = .ok (.bipush 24, 2) := by decide +kernel
theorem dX12_put_2 : decode cX12_put 2 = .ok (.istore_n 2, 1) := by decide +kernel
theorem dX12_put_3 : decode cX12_put 3 = .ok (.iload_n 2, 1) := by decide +kernel
theorem dX12_put_4 : decode cX12_put 4 = .ok (.ifCond .lt 42, 3) := by decide +kernel
theorem dX12_put_7 : decode cX12_put 7 = .ok (.aload_n 0, 1) := by decide +kernel
theorem dX12_put_8 : decode cX12_put 8 = .ok (.getfield 99, 3) := by decide +kernel
theorem dX12_put_11 : decode cX12_put 11 = .ok (.sipush 4000, 3) := by decide +kernel
theorem dX12_put_14 : decode cX12_put 14 = .ok (.if_icmp .ge 32, 3) := by decide +kernel
theorem dX12_put_17 : decode cX12_put 17 = .ok (.aload_n 0, 1) := by decide +kernel
theorem dX12_put_18 : decode cX12_put 18 = .ok (.getfield 9, 3) := by decide +kernel
theorem dX12_put_21 : decode cX12_put 21 = .ok (.aload_n 0, 1) := by decide +kernel
theorem dX12_put_22 : decode cX12_put 22 = .ok (.getfield 99, 3) := by decide +kernel
theorem dX12_put_25 : decode cX12_put 25 = .ok (.iload_n 1, 1) := by decide +kernel
theorem dX12_put_26 : decode cX12_put 26 = .ok (.iload_n 2, 1) := by decide +kernel
theorem dX12_put_27 : decode cX12_put 27 = .ok (.ishr, 1) := by decide +kernel
theorem dX12_put_28 : decode cX12_put 28 = .ok (.i2b, 1) := by decide +kernel
theorem dX12_put_29 : decode cX12_put 29 = .ok (.bastore, 1) := by decide +kernel
theorem dX12_put_30 : decode cX12_put 30 = .ok (.aload_n 0, 1) := by decide +kernel
theorem dX12_put_31 : decode cX12_put 31 = .ok (.dup, 1) := by decide +kernel
theorem dX12_put_32 : decode cX12_put 32 = .ok (.getfield 99, 3) := by decide +kernel
theorem dX12_put_35 : decode cX12_put 35 = .ok (.iconst 1, 1) := by decide +kernel
theorem dX12_put_36 : decode cX12_put 36 = .ok (.iadd, 1) := by decide +kernel
theorem dX12_put_37 : decode cX12_put 37 = .ok (.putfield 99, 3) := by decide +kernel
theorem dX12_put_40 : decode cX12_put 40 = .ok (.iinc 2 (-8), 3) := by decide +kernel
theorem dX12_put_43 : decode cX12_put 43 = .ok (.goto (-40), 3) := by decide +kernel
theorem dX12_put_46 : decode cX12_put 46 = .ok (.return_, 1) := by decide +kernel
theorem dX12_feed_0 : decode cX12_feed 0 = .ok (.aload_n 0, 1) := by decide +kernel
theorem dX12_feed_1 : decode cX12_feed 1 = .ok (.getfield 99, 3) := by decide +kernel
theorem dX12_feed_4 : decode cX12_feed 4 = .ok (.bipush 20, 2) := by decide +kernel
theorem dX12_feed_6 : decode cX12_feed 6 = .ok (.iadd, 1) := by decide +kernel
theorem dX12_feed_7 : decode cX12_feed 7 = .ok (.sipush 4000, 3) := by decide +kernel
theorem dX12_feed_10 : decode cX12_feed 10 = .ok (.if_icmp .le 5, 3) := by decide +kernel
theorem dX12_feed_13 : decode cX12_feed 13 = .ok (.iconst (-1), 1) := by decide +kernel
theorem dX12_feed_14 : decode cX12_feed 14 = .ok (.ireturn, 1) := by decide +kernel
theorem dX12_feed_15 : decode cX12_feed 15 = .ok (.aload_n 0, 1) := by decide +kernel
theorem dX12_feed_16 : decode cX12_feed 16 = .ok (.iload_n 1, 1) := by decide +kernel
theorem dX12_feed_17 : decode cX12_feed 17 = .ok (.invokevirtual 110, 3) := by decide +kernel
theorem dX12_feed_20 : decode cX12_feed 20 = .ok (.aload_n 0, 1) := by decide +kernel
theorem dX12_feed_21 : decode cX12_feed 21 = .ok (.iload_n 2, 1) := by decide +kernel
theorem dX12_feed_22 : decode cX12_feed 22 = .ok (.invokevirtual 110, 3) := by decide +kernel
theorem dX12_feed_25 : decode cX12_feed 25 = .ok (.aload_n 0, 1) := by decide +kernel
theorem dX12_feed_26 : decode cX12_feed 26 = .ok (.iload_n 3, 1) := by decide +kernel
theorem dX12_feed_27 : decode cX12_feed 27 = .ok (.invokevirtual 110, 3) := by decide +kernel
theorem dX12_feed_30 : decode cX12_feed 30 = .ok (.aload_n 0, 1) := by decide +kernel
theorem dX12_feed_31 : decode cX12_feed 31 = .ok (.iload 4, 2) := by decide +kernel
theorem dX12_feed_33 : decode cX12_feed 33 = .ok (.invokevirtual 110, 3) := by decide +kernel
theorem dX12_feed_36 : decode cX12_feed 36 = .ok (.aload_n 0, 1) := by decide +kernel
theorem dX12_feed_37 : decode cX12_feed 37 = .ok (.iload 5, 2) := by decide +kernel
theorem dX12_feed_39 : decode cX12_feed 39 = .ok (.invokevirtual 110, 3) := by decide +kernel
theorem dX12_feed_42 : decode cX12_feed 42 = .ok (.aload_n 0, 1) := by decide +kernel
theorem dX12_feed_43 : decode cX12_feed 43 = .ok (.getfield 99, 3) := by decide +kernel
theorem dX12_feed_46 : decode cX12_feed 46 = .ok (.ireturn, 1) := by decide +kernel
theorem dX12_back_0 : decode cX12_back 0 = .ok (.iload_n 1, 1) := by decide +kernel
theorem dX12_back_1 : decode cX12_back 1 = .ok (.ifCond .lt 11, 3) := by decide +kernel
theorem dX12_back_4 : decode cX12_back 4 = .ok (.iload_n 1, 1) := by decide +kernel
theorem dX12_back_5 : decode cX12_back 5 = .ok (.aload_n 0, 1) := by decide +kernel
theorem dX12_back_6 : decode cX12_back 6 = .ok (.getfield 99, 3) := by decide +kernel
theorem dX12_back_9 : decode cX12_back 9 = .ok (.if_icmp .le 5, 3) := by decide +kernel
theorem dX12_back_12 : decode cX12_back 12 = .ok (.iconst (-1), 1) := by decide +kernel
theorem dX12_back_13 : decode cX12_back 13 = .ok (.ireturn, 1) := by decide +kernel
theorem dX12_back_14 : decode cX12_back 14 = .ok (.aload_n 0, 1) := by decide +kernel
theorem dX12_back_15 : decode cX12_back 15 = .ok (.dup, 1) := by decide +kernel
theorem dX12_back_16 : decode cX12_back 16 = .ok (.getfield 99, 3) := by decide +kernel
theorem dX12_back_19 : decode cX12_back 19 = .ok (.iload_n 1, 1) := by decide +kernel
theorem dX12_back_20 : decode cX12_back 20 = .ok (.isub, 1) := by decide +kernel
theorem dX12_back_21 : decode cX12_back 21 = .ok (.putfield 99, 3) := by decide +kernel
theorem dX12_back_24 : decode cX12_back 24 = .ok (.aload_n 0, 1) := by decide +kernel
theorem dX12_back_25 : decode cX12_back 25 = .ok (.getfield 99, 3) := by decide +kernel
theorem dX12_back_28 : decode cX12_back 28 = .ok (.ireturn, 1) := by decide +kernel
theorem dX6_size_0 : decode cX6_size 0 = .ok (.aload_n 0, 1) := by decide +kernel
theorem dX6_size_1 : decode cX6_size 1 = .ok (.getfield 19, 3) := by decide +kernel
theorem dX6_size_4 : decode cX6_size 4 = .ok (.ireturn, 1) := by decide +kernel
theorem dX3_counted_0 : decode cX3_counted 0 = .ok (.iload_n 1, 1) := by decide +kernel
theorem dX3_counted_1 : decode cX3_counted 1 = .ok (.tableswitch 111 5 11 #[43, 48, 53, 58, 63, 83, 103], 43) := by decide +kernel
theorem dX3_counted_44 : decode cX3_counted 44 = .ok (.aload_n 0, 1) := by decide +kernel
theorem dX3_counted_45 : decode cX3_counted 45 = .ok (.getfield 49, 3) := by decide +kernel
theorem dX3_counted_48 : decode cX3_counted 48 = .ok (.ireturn, 1) := by decide +kernel
theorem dX3_counted_49 : decode cX3_counted 49 = .ok (.aload_n 0, 1) := by decide +kernel
theorem dX3_counted_50 : decode cX3_counted 50 = .ok (.getfield 56, 3) := by decide +kernel
theorem dX3_counted_53 : decode cX3_counted 53 = .ok (.ireturn, 1) := by decide +kernel
theorem dX3_counted_54 : decode cX3_counted 54 = .ok (.aload_n 0, 1) := by decide +kernel
theorem dX3_counted_55 : decode cX3_counted 55 = .ok (.getfield 59, 3) := by decide +kernel
theorem dX3_counted_58 : decode cX3_counted 58 = .ok (.ireturn, 1) := by decide +kernel
theorem dX3_counted_59 : decode cX3_counted 59 = .ok (.aload_n 0, 1) := by decide +kernel
theorem dX3_counted_60 : decode cX3_counted 60 = .ok (.getfield 62, 3) := by decide +kernel
theorem dX3_counted_63 : decode cX3_counted 63 = .ok (.ireturn, 1) := by decide +kernel
theorem dX3_counted_64 : decode cX3_counted 64 = .ok (.aload_n 0, 1) := by decide +kernel
theorem dX3_counted_65 : decode cX3_counted 65 = .ok (.getfield 49, 3) := by decide +kernel
theorem dX3_counted_68 : decode cX3_counted 68 = .ok (.iconst 1, 1) := by decide +kernel
theorem dX3_counted_69 : decode cX3_counted 69 = .ok (.if_icmp .ne 13, 3) := by decide +kernel
theorem dX3_counted_72 : decode cX3_counted 72 = .ok (.aload_n 0, 1) := by decide +kernel
theorem dX3_counted_73 : decode cX3_counted 73 = .ok (.getfield 36, 3) := by decide +kernel
theorem dX3_counted_76 : decode cX3_counted 76 = .ok (.invokevirtual 157, 3) := by decide +kernel
theorem dX3_counted_79 : decode cX3_counted 79 = .ok (.goto 4, 3) := by decide +kernel
theorem dX3_counted_82 : decode cX3_counted 82 = .ok (.iconst 0, 1) := by decide +kernel
theorem dX3_counted_83 : decode cX3_counted 83 = .ok (.ireturn, 1) := by decide +kernel
theorem dX3_counted_84 : decode cX3_counted 84 = .ok (.aload_n 0, 1) := by decide +kernel
theorem dX3_counted_85 : decode cX3_counted 85 = .ok (.getfield 49, 3) := by decide +kernel
theorem dX3_counted_88 : decode cX3_counted 88 = .ok (.iconst 1, 1) := by decide +kernel
theorem dX3_counted_89 : decode cX3_counted 89 = .ok (.if_icmp .ne 13, 3) := by decide +kernel
theorem dX3_counted_92 : decode cX3_counted 92 = .ok (.aload_n 0, 1) := by decide +kernel
theorem dX3_counted_93 : decode cX3_counted 93 = .ok (.getfield 36, 3) := by decide +kernel
theorem dX3_counted_96 : decode cX3_counted 96 = .ok (.getfield 160, 3) := by decide +kernel
theorem dX3_counted_99 : decode cX3_counted 99 = .ok (.goto 4, 3) := by decide +kernel
theorem dX3_counted_102 : decode cX3_counted 102 = .ok (.iconst 0, 1) := by decide +kernel
theorem dX3_counted_103 : decode cX3_counted 103 = .ok (.ireturn, 1) := by decide +kernel
theorem dX3_counted_104 : decode cX3_counted 104 = .ok (.aload_n 0, 1) := by decide +kernel
theorem dX3_counted_105 : decode cX3_counted 105 = .ok (.getfield 45, 3) := by decide +kernel
theorem dX3_counted_108 : decode cX3_counted 108 = .ok (.invokevirtual 163, 3) := by decide +kernel
theorem dX3_counted_111 : decode cX3_counted 111 = .ok (.ireturn, 1) := by decide +kernel
theorem dX3_counted_112 : decode cX3_counted 112 = .ok (.aload_n 0, 1) := by decide +kernel
theorem dX3_counted_113 : decode cX3_counted 113 = .ok (.getfield 53, 3) := by decide +kernel
theorem dX3_counted_116 : decode cX3_counted 116 = .ok (.ireturn, 1) := by decide +kernel
theorem dX12_count_0 : decode cX12_count 0 = .ok (.iload_n 1, 1) := by decide +kernel
theorem dX12_count_1 : decode cX12_count 1 = .ok (.ifCond .lt 9, 3) := by decide +kernel
theorem dX12_count_4 : decode cX12_count 4 = .ok (.iload_n 1, 1) := by decide +kernel
theorem dX12_count_5 : decode cX12_count 5 = .ok (.bipush 12, 2) := by decide +kernel
theorem dX12_count_7 : decode cX12_count 7 = .ok (.if_icmp .le 5, 3) := by decide +kernel
theorem dX12_count_10 : decode cX12_count 10 = .ok (.iconst (-1), 1) := by decide +kernel
theorem dX12_count_11 : decode cX12_count 11 = .ok (.ireturn, 1) := by decide +kernel
theorem dX12_count_12 : decode cX12_count 12 = .ok (.iload_n 1, 1) := by decide +kernel
theorem dX12_count_13 : decode cX12_count 13 = .ok (.iconst 5, 1) := by decide +kernel
theorem dX12_count_14 : decode cX12_count 14 = .ok (.if_icmp .lt 12, 3) := by decide +kernel
theorem dX12_count_17 : decode cX12_count 17 = .ok (.aload_n 0, 1) := by decide +kernel
theorem dX12_count_18 : decode cX12_count 18 = .ok (.getfield 86, 3) := by decide +kernel
theorem dX12_count_21 : decode cX12_count 21 = .ok (.iload_n 1, 1) := by decide +kernel
theorem dX12_count_22 : decode cX12_count 22 = .ok (.invokevirtual 171, 3) := by decide +kernel
theorem dX12_count_25 : decode cX12_count 25 = .ok (.ireturn, 1) := by decide +kernel
theorem dX12_count_26 : decode cX12_count 26 = .ok (.aload_n 0, 1) := by decide +kernel
theorem dX12_count_27 : decode cX12_count 27 = .ok (.getfield 106, 3) := by decide +kernel
theorem dX12_count_30 : decode cX12_count 30 = .ok (.ifCond .ne 5, 3) := by decide +kernel
theorem dX12_count_33 : decode cX12_count 33 = .ok (.iconst 0, 1) := by decide +kernel
theorem dX12_count_34 : decode cX12_count 34 = .ok (.ireturn, 1) := by decide +kernel
theorem dX12_count_35 : decode cX12_count 35 = .ok (.iload_n 1, 1) := by decide +kernel
theorem dX12_count_36 : decode cX12_count 36 = .ok (.tableswitch 68 0 3 #[32, 40, 50, 58], 32) := by decide +kernel
theorem dX12_count_68 : decode cX12_count 68 = .ok (.aload_n 0, 1) := by decide +kernel
theorem dX12_count_69 : decode cX12_count 69 = .ok (.getfield 16, 3) := by decide +kernel
theorem dX12_count_72 : decode cX12_count 72 = .ok (.getfield 155, 3) := by decide +kernel
theorem dX12_count_75 : decode cX12_count 75 = .ok (.ireturn, 1) := by decide +kernel
theorem dX12_count_76 : decode cX12_count 76 = .ok (.aload_n 0, 1) := by decide +kernel
theorem dX12_count_77 : decode cX12_count 77 = .ok (.getfield 32, 3) := by decide +kernel
theorem dX12_count_80 : decode cX12_count 80 = .ok (.getfield 159, 3) := by decide +kernel
theorem dX12_count_83 : decode cX12_count 83 = .ok (.iconst 0, 1) := by decide +kernel
theorem dX12_count_84 : decode cX12_count 84 = .ok (.iaload, 1) := by decide +kernel
theorem dX12_count_85 : decode cX12_count 85 = .ok (.ireturn, 1) := by decide +kernel
theorem dX12_count_86 : decode cX12_count 86 = .ok (.aload_n 0, 1) := by decide +kernel
theorem dX12_count_87 : decode cX12_count 87 = .ok (.getfield 32, 3) := by decide +kernel
theorem dX12_count_90 : decode cX12_count 90 = .ok (.getfield 158, 3) := by decide +kernel
theorem dX12_count_93 : decode cX12_count 93 = .ok (.ireturn, 1) := by decide +kernel
theorem dX12_count_94 : decode cX12_count 94 = .ok (.aload_n 0, 1) := by decide +kernel
theorem dX12_count_95 : decode cX12_count 95 = .ok (.getfield 25, 3) := by decide +kernel
theorem dX12_count_98 : decode cX12_count 98 = .ok (.getfield 175, 3) := by decide +kernel
theorem dX12_count_101 : decode cX12_count 101 = .ok (.iconst 5, 1) := by decide +kernel
theorem dX12_count_102 : decode cX12_count 102 = .ok (.isub, 1) := by decide +kernel
theorem dX12_count_103 : decode cX12_count 103 = .ok (.ireturn, 1) := by decide +kernel
theorem dX12_count_104 : decode cX12_count 104 = .ok (.aload_n 0, 1) := by decide +kernel
theorem dX12_count_105 : decode cX12_count 105 = .ok (.getfield 68, 3) := by decide +kernel
theorem dX12_count_108 : decode cX12_count 108 = .ok (.getfield 178, 3) := by decide +kernel
theorem dX12_count_111 : decode cX12_count 111 = .ok (.iconst 0, 1) := by decide +kernel
theorem dX12_count_112 : decode cX12_count 112 = .ok (.iaload, 1) := by decide +kernel
theorem dX12_count_113 : decode cX12_count 113 = .ok (.ireturn, 1) := by decide +kernel
theorem dX12_definition_0 : decode cX12_definition 0 = .ok (.aload_n 0, 1) := by decide +kernel
theorem dX12_definition_1 : decode cX12_definition 1 = .ok (.getfield 106, 3) := by decide +kernel
theorem dX12_definition_4 : decode cX12_definition 4 = .ok (.ifCond .eq 26, 3) := by decide +kernel
theorem dX12_definition_7 : decode cX12_definition 7 = .ok (.iload_n 1, 1) := by decide +kernel
theorem dX12_definition_8 : decode cX12_definition 8 = .ok (.ifCond .lt 22, 3) := by decide +kernel
theorem dX12_definition_11 : decode cX12_definition 11 = .ok (.iload_n 1, 1) := by decide +kernel
theorem dX12_definition_12 : decode cX12_definition 12 = .ok (.aload_n 0, 1) := by decide +kernel
theorem dX12_definition_13 : decode cX12_definition 13 = .ok (.getfield 32, 3) := by decide +kernel
theorem dX12_definition_16 : decode cX12_definition 16 = .ok (.getfield 159, 3) := by decide +kernel
theorem dX12_definition_19 : decode cX12_definition 19 = .ok (.iconst 0, 1) := by decide +kernel
theorem dX12_definition_20 : decode cX12_definition 20 = .ok (.iaload, 1) := by decide +kernel
theorem dX12_definition_21 : decode cX12_definition 21 = .ok (.if_icmp .ge 9, 3) := by decide +kernel
theorem dX12_definition_24 : decode cX12_definition 24 = .ok (.iload_n 1, 1) := by decide +kernel
theorem dX12_definition_25 : decode cX12_definition 25 = .ok (.bipush 60, 2) := by decide +kernel
theorem dX12_definition_27 : decode cX12_definition 27 = .ok (.if_icmp .lt 5, 3) := by decide +kernel
theorem dX12_definition_30 : decode cX12_definition 30 = .ok (.iconst (-1), 1) := by decide +kernel
theorem dX12_definition_31 : decode cX12_definition 31 = .ok (.ireturn, 1) := by decide +kernel
theorem dX12_definition_32 : decode cX12_definition 32 = .ok (.aload_n 0, 1) := by decide +kernel
theorem dX12_definition_33 : decode cX12_definition 33 = .ok (.getfield 32, 3) := by decide +kernel
theorem dX12_definition_36 : decode cX12_definition 36 = .ok (.getfield 181, 3) := by decide +kernel
theorem dX12_definition_39 : decode cX12_definition 39 = .ok (.iload_n 1, 1) := by decide +kernel
theorem dX12_definition_40 : decode cX12_definition 40 = .ok (.iaload, 1) := by decide +kernel
theorem dX12_definition_41 : decode cX12_definition 41 = .ok (.ireturn, 1) := by decide +kernel
theorem dX12_sign_0 : decode cX12_sign 0 = .ok (.aload_n 0, 1) := by decide +kernel
theorem dX12_sign_1 : decode cX12_sign 1 = .ok (.iload_n 1, 1) := by decide +kernel
theorem dX12_sign_2 : decode cX12_sign 2 = .ok (.invokevirtual 184, 3) := by decide +kernel
theorem dX12_sign_5 : decode cX12_sign 5 = .ok (.istore_n 3, 1) := by decide +kernel
theorem dX12_sign_6 : decode cX12_sign 6 = .ok (.iload_n 3, 1) := by decide +kernel
theorem dX12_sign_7 : decode cX12_sign 7 = .ok (.ifCond .ge 5, 3) := by decide +kernel
theorem dX12_sign_10 : decode cX12_sign 10 = .ok (.iconst (-1), 1) := by decide +kernel
theorem dX12_sign_11 : decode cX12_sign 11 = .ok (.ireturn, 1) := by decide +kernel
theorem dX12_sign_12 : decode cX12_sign 12 = .ok (.aload_n 0, 1) := by decide +kernel
theorem dX12_sign_13 : decode cX12_sign 13 = .ok (.getfield 103, 3) := by decide +kernel
theorem dX12_sign_16 : decode cX12_sign 16 = .ok (.iload_n 1, 1) := by decide +kernel
theorem dX12_sign_17 : decode cX12_sign 17 = .ok (.if_icmp .eq 79, 3) := by decide +kernel
theorem dX12_sign_20 : decode cX12_sign 20 = .ok (.aload_n 0, 1) := by decide +kernel
theorem dX12_sign_21 : decode cX12_sign 21 = .ok (.getfield 95, 3) := by decide +kernel
theorem dX12_sign_24 : decode cX12_sign 24 = .ok (.invokevirtual 187, 3) := by decide +kernel
theorem dX12_sign_27 : decode cX12_sign 27 = .ok (.aload_n 0, 1) := by decide +kernel
theorem dX12_sign_28 : decode cX12_sign 28 = .ok (.getfield 95, 3) := by decide +kernel
theorem dX12_sign_31 : decode cX12_sign 31 = .ok (.aload_n 0, 1) := by decide +kernel
theorem dX12_sign_32 : decode cX12_sign 32 = .ok (.getfield 32, 3) := by decide +kernel
theorem dX12_sign_35 : decode cX12_sign 35 = .ok (.getfield 190, 3) := by decide +kernel
theorem dX12_sign_38 : decode cX12_sign 38 = .ok (.iload_n 3, 1) := by decide +kernel
theorem dX12_sign_39 : decode cX12_sign 39 = .ok (.iaload, 1) := by decide +kernel
theorem dX12_sign_40 : decode cX12_sign 40 = .ok (.invokevirtual 193, 3) := by decide +kernel
theorem dX12_sign_43 : decode cX12_sign 43 = .ok (.aload_n 0, 1) := by decide +kernel
theorem dX12_sign_44 : decode cX12_sign 44 = .ok (.getfield 95, 3) := by decide +kernel
theorem dX12_sign_47 : decode cX12_sign 47 = .ok (.bipush 32, 2) := by decide +kernel
theorem dX12_sign_49 : decode cX12_sign 49 = .ok (.invokevirtual 196, 3) := by decide +kernel
theorem dX12_sign_52 : decode cX12_sign 52 = .ok (.aload_n 0, 1) := by decide +kernel
theorem dX12_sign_53 : decode cX12_sign 53 = .ok (.getfield 95, 3) := by decide +kernel
theorem dX12_sign_56 : decode cX12_sign 56 = .ok (.bipush 58, 2) := by decide +kernel
theorem dX12_sign_58 : decode cX12_sign 58 = .ok (.invokevirtual 196, 3) := by decide +kernel
theorem dX12_sign_61 : decode cX12_sign 61 = .ok (.aload_n 0, 1) := by decide +kernel
theorem dX12_sign_62 : decode cX12_sign 62 = .ok (.getfield 95, 3) := by decide +kernel
theorem dX12_sign_65 : decode cX12_sign 65 = .ok (.bipush 58, 2) := by decide +kernel
theorem dX12_sign_67 : decode cX12_sign 67 = .ok (.invokevirtual 196, 3) := by decide +kernel
theorem dX12_sign_70 : decode cX12_sign 70 = .ok (.aload_n 0, 1) := by decide +kernel
theorem dX12_sign_71 : decode cX12_sign 71 = .ok (.getfield 95, 3) := by decide +kernel
theorem dX12_sign_74 : decode cX12_sign 74 = .ok (.bipush 32, 2) := by decide +kernel
theorem dX12_sign_76 : decode cX12_sign 76 = .ok (.invokevirtual 196, 3) := by decide +kernel
theorem dX12_sign_79 : decode cX12_sign 79 = .ok (.aload_n 0, 1) := by decide +kernel
theorem dX12_sign_80 : decode cX12_sign 80 = .ok (.getfield 59, 3) := by decide +kernel
theorem dX12_sign_83 : decode cX12_sign 83 = .ok (.aload_n 0, 1) := by decide +kernel
theorem dX12_sign_84 : decode cX12_sign 84 = .ok (.getfield 95, 3) := by decide +kernel
theorem dX12_sign_87 : decode cX12_sign 87 = .ok (.iload_n 3, 1) := by decide +kernel
theorem dX12_sign_88 : decode cX12_sign 88 = .ok (.invokevirtual 197, 3) := by decide +kernel
theorem dX12_sign_91 : decode cX12_sign 91 = .ok (.aload_n 0, 1) := by decide +kernel
theorem dX12_sign_92 : decode cX12_sign 92 = .ok (.iload_n 1, 1) := by decide +kernel
theorem dX12_sign_93 : decode cX12_sign 93 = .ok (.putfield 103, 3) := by decide +kernel
theorem dX12_sign_96 : decode cX12_sign 96 = .ok (.aload_n 0, 1) := by decide +kernel
theorem dX12_sign_97 : decode cX12_sign 97 = .ok (.getfield 95, 3) := by decide +kernel
theorem dX12_sign_100 : decode cX12_sign 100 = .ok (.iload_n 2, 1) := by decide +kernel
theorem dX12_sign_101 : decode cX12_sign 101 = .ok (.invokevirtual 201, 3) := by decide +kernel
theorem dX12_sign_104 : decode cX12_sign 104 = .ok (.ireturn, 1) := by decide +kernel
theorem dX12_strict_0 : decode cX12_strict 0 = .ok (.aload_n 0, 1) := by decide +kernel
theorem dX12_strict_1 : decode cX12_strict 1 = .ok (.iload_n 1, 1) := by decide +kernel
theorem dX12_strict_2 : decode cX12_strict 2 = .ok (.invokevirtual 184, 3) := by decide +kernel
theorem dX12_strict_5 : decode cX12_strict 5 = .ok (.istore_n 3, 1) := by decide +kernel
theorem dX12_strict_6 : decode cX12_strict 6 = .ok (.iload_n 3, 1) := by decide +kernel
theorem dX12_strict_7 : decode cX12_strict 7 = .ok (.ifCond .ge 5, 3) := by decide +kernel
theorem dX12_strict_10 : decode cX12_strict 10 = .ok (.iconst (-1), 1) := by decide +kernel
theorem dX12_strict_11 : decode cX12_strict 11 = .ok (.ireturn, 1) := by decide +kernel
theorem dX12_strict_12 : decode cX12_strict 12 = .ok (.aload_n 0, 1) := by decide +kernel
theorem dX12_strict_13 : decode cX12_strict 13 = .ok (.getfield 32, 3) := by decide +kernel
theorem dX12_strict_16 : decode cX12_strict 16 = .ok (.aload_n 0, 1) := by decide +kernel
theorem dX12_strict_17 : decode cX12_strict 17 = .ok (.getfield 32, 3) := by decide +kernel
theorem dX12_strict_20 : decode cX12_strict 20 = .ok (.getfield 204, 3) := by decide +kernel
theorem dX12_strict_23 : decode cX12_strict 23 = .ok (.iload_n 3, 1) := by decide +kernel
theorem dX12_strict_24 : decode cX12_strict 24 = .ok (.iaload, 1) := by decide +kernel
theorem dX12_strict_25 : decode cX12_strict 25 = .ok (.iload_n 2, 1) := by decide +kernel
theorem dX12_strict_26 : decode cX12_strict 26 = .ok (.invokevirtual 207, 3) := by decide +kernel
theorem dX12_strict_29 : decode cX12_strict 29 = .ok (.istore 4, 2) := by decide +kernel
theorem dX12_strict_31 : decode cX12_strict 31 = .ok (.iload 4, 2) := by decide +kernel
theorem dX12_strict_33 : decode cX12_strict 33 = .ok (.ifCond .ge 5, 3) := by decide +kernel
theorem dX12_strict_36 : decode cX12_strict 36 = .ok (.iconst (-1), 1) := by decide +kernel
theorem dX12_strict_37 : decode cX12_strict 37 = .ok (.ireturn, 1) := by decide +kernel
theorem dX12_strict_38 : decode cX12_strict 38 = .ok (.aload_n 0, 1) := by decide +kernel
theorem dX12_strict_39 : decode cX12_strict 39 = .ok (.getfield 77, 3) := by decide +kernel
theorem dX12_strict_42 : decode cX12_strict 42 = .ok (.iload 4, 2) := by decide +kernel
theorem dX12_strict_44 : decode cX12_strict 44 = .ok (.invokevirtual 211, 3) := by decide +kernel
theorem dX12_strict_47 : decode cX12_strict 47 = .ok (.ifCond .eq 7, 3) := by decide +kernel
theorem dX12_strict_50 : decode cX12_strict 50 = .ok (.iconst 1, 1) := by decide +kernel
theorem dX12_strict_51 : decode cX12_strict 51 = .ok (.goto 4, 3) := by decide +kernel
theorem dX12_strict_54 : decode cX12_strict 54 = .ok (.iconst 0, 1) := by decide +kernel
theorem dX12_strict_55 : decode cX12_strict 55 = .ok (.ireturn, 1) := by decide +kernel
theorem dX12_group_0 : decode cX12_group 0 = .ok (.aload_n 0, 1) := by decide +kernel
theorem dX12_group_1 : decode cX12_group 1 = .ok (.iload_n 1, 1) := by decide +kernel
theorem dX12_group_2 : decode cX12_group 2 = .ok (.invokevirtual 184, 3) := by decide +kernel
theorem dX12_group_5 : decode cX12_group 5 = .ok (.istore_n 2, 1) := by decide +kernel
theorem dX12_group_6 : decode cX12_group 6 = .ok (.iload_n 2, 1) := by decide +kernel
theorem dX12_group_7 : decode cX12_group 7 = .ok (.ifCond .ge 7, 3) := by decide +kernel
theorem dX12_group_10 : decode cX12_group 10 = .ok (.iconst (-1), 1) := by decide +kernel
theorem dX12_group_11 : decode cX12_group 11 = .ok (.goto 12, 3) := by decide +kernel
theorem dX12_group_14 : decode cX12_group 14 = .ok (.aload_n 0, 1) := by decide +kernel
theorem dX12_group_15 : decode cX12_group 15 = .ok (.getfield 68, 3) := by decide +kernel
theorem dX12_group_18 : decode cX12_group 18 = .ok (.getfield 215, 3) := by decide +kernel
theorem dX12_group_21 : decode cX12_group 21 = .ok (.iload_n 2, 1) := by decide +kernel
theorem dX12_group_22 : decode cX12_group 22 = .ok (.iaload, 1) := by decide +kernel
theorem dX12_group_23 : decode cX12_group 23 = .ok (.ireturn, 1) := by decide +kernel
theorem dX12_global_0 : decode cX12_global 0 = .ok (.aload_n 0, 1) := by decide +kernel
theorem dX12_global_1 : decode cX12_global 1 = .ok (.iload_n 1, 1) := by decide +kernel
theorem dX12_global_2 : decode cX12_global 2 = .ok (.invokevirtual 184, 3) := by decide +kernel
theorem dX12_global_5 : decode cX12_global 5 = .ok (.ifCond .lt 22, 3) := by decide +kernel
theorem dX12_global_8 : decode cX12_global 8 = .ok (.aload_n 0, 1) := by decide +kernel
theorem dX12_global_9 : decode cX12_global 9 = .ok (.getfield 86, 3) := by decide +kernel
theorem dX12_global_12 : decode cX12_global 12 = .ok (.invokevirtual 239, 3) := by decide +kernel
theorem dX12_global_15 : decode cX12_global 15 = .ok (.ifCond .eq 12, 3) := by decide +kernel
theorem dX12_global_18 : decode cX12_global 18 = .ok (.iload_n 2, 1) := by decide +kernel
theorem dX12_global_19 : decode cX12_global 19 = .ok (.ifCond .lt 8, 3) := by decide +kernel
theorem dX12_global_22 : decode cX12_global 22 = .ok (.iload_n 2, 1) := by decide +kernel
theorem dX12_global_23 : decode cX12_global 23 = .ok (.iconst 2, 1) := by decide +kernel
theorem dX12_global_24 : decode cX12_global 24 = .ok (.if_icmp .le 5, 3) := by decide +kernel
theorem dX12_global_27 : decode cX12_global 27 = .ok (.iconst (-1), 1) := by decide +kernel
theorem dX12_global_28 : decode cX12_global 28 = .ok (.ireturn, 1) := by decide +kernel
theorem dX12_global_29 : decode cX12_global 29 = .ok (.aload_n 0, 1) := by decide +kernel
theorem dX12_global_30 : decode cX12_global 30 = .ok (.getfield 86, 3) := by decide +kernel
theorem dX12_global_33 : decode cX12_global 33 = .ok (.iload_n 1, 1) := by decide +kernel
theorem dX12_global_34 : decode cX12_global 34 = .ok (.iload_n 2, 1) := by decide +kernel
theorem dX12_global_35 : decode cX12_global 35 = .ok (.invokevirtual 242, 3) := by decide +kernel
theorem dX12_global_38 : decode cX12_global 38 = .ok (.ireturn, 1) := by decide +kernel
theorem dX6_at_0 : decode cX6_at 0 = .ok (.iload_n 1, 1) := by decide +kernel
theorem dX6_at_1 : decode cX6_at 1 = .ok (.ifCond .lt 11, 3) := by decide +kernel
theorem dX6_at_4 : decode cX6_at 4 = .ok (.iload_n 1, 1) := by decide +kernel
theorem dX6_at_5 : decode cX6_at 5 = .ok (.aload_n 0, 1) := by decide +kernel
theorem dX6_at_6 : decode cX6_at 6 = .ok (.getfield 19, 3) := by decide +kernel
theorem dX6_at_9 : decode cX6_at 9 = .ok (.if_icmp .lt 7, 3) := by decide +kernel
theorem dX6_at_12 : decode cX6_at 12 = .ok (.iconst (-1), 1) := by decide +kernel
theorem dX6_at_13 : decode cX6_at 13 = .ok (.goto 9, 3) := by decide +kernel
theorem dX6_at_16 : decode cX6_at 16 = .ok (.aload_n 0, 1) := by decide +kernel
theorem dX6_at_17 : decode cX6_at 17 = .ok (.getfield 15, 3) := by decide +kernel
theorem dX6_at_20 : decode cX6_at 20 = .ok (.iload_n 1, 1) := by decide +kernel
theorem dX6_at_21 : decode cX6_at 21 = .ok (.baload, 1) := by decide +kernel
theorem dX6_at_22 : decode cX6_at 22 = .ok (.ireturn, 1) := by decide +kernel
theorem dX3_outputAt_0 : decode cX3_outputAt 0 = .ok (.iload_n 1, 1) := by decide +kernel
theorem dX3_outputAt_1 : decode cX3_outputAt 1 = .ok (.ifCond .lt 11, 3) := by decide +kernel
theorem dX3_outputAt_4 : decode cX3_outputAt 4 = .ok (.iload_n 1, 1) := by decide +kernel
theorem dX3_outputAt_5 : decode cX3_outputAt 5 = .ok (.aload_n 0, 1) := by decide +kernel
theorem dX3_outputAt_6 : decode cX3_outputAt 6 = .ok (.getfield 53, 3) := by decide +kernel
theorem dX3_outputAt_9 : decode cX3_outputAt 9 = .ok (.if_icmp .lt 7, 3) := by decide +kernel
theorem dX3_outputAt_12 : decode cX3_outputAt 12 = .ok (.iconst 0, 1) := by decide +kernel
theorem dX3_outputAt_13 : decode cX3_outputAt 13 = .ok (.goto 9, 3) := by decide +kernel
theorem dX3_outputAt_16 : decode cX3_outputAt 16 = .ok (.aload_n 0, 1) := by decide +kernel
theorem dX3_outputAt_17 : decode cX3_outputAt 17 = .ok (.getfield 11, 3) := by decide +kernel
theorem dX3_outputAt_20 : decode cX3_outputAt 20 = .ok (.iload_n 1, 1) := by decide +kernel
theorem dX3_outputAt_21 : decode cX3_outputAt 21 = .ok (.iaload, 1) := by decide +kernel
theorem dX3_outputAt_22 : decode cX3_outputAt 22 = .ok (.ireturn, 1) := by decide +kernel
theorem dX12_shown_0 : decode cX12_shown 0 = .ok (.aload_n 0, 1) := by decide +kernel
theorem dX12_shown_1 : decode cX12_shown 1 = .ok (.getfield 86, 3) := by decide +kernel
theorem dX12_shown_4 : decode cX12_shown 4 = .ok (.getfield 245, 3) := by decide +kernel
theorem dX12_shown_7 : decode cX12_shown 7 = .ok (.iload_n 1, 1) := by decide +kernel
theorem dX12_shown_8 : decode cX12_shown 8 = .ok (.invokevirtual 201, 3) := by decide +kernel
theorem dX12_shown_11 : decode cX12_shown 11 = .ok (.ireturn, 1) := by decide +kernel
theorem dX12_said_0 : decode cX12_said 0 = .ok (.aload_n 0, 1) := by decide +kernel
theorem dX12_said_1 : decode cX12_said 1 = .ok (.getfield 86, 3) := by decide +kernel
theorem dX12_said_4 : decode cX12_said 4 = .ok (.iload_n 1, 1) := by decide +kernel
theorem dX12_said_5 : decode cX12_said 5 = .ok (.invokevirtual 248, 3) := by decide +kernel
theorem dX12_said_8 : decode cX12_said 8 = .ok (.ireturn, 1) := by decide +kernel
theorem dX3_goesOn_0 : decode cX3_goesOn 0 = .ok (.aload_n 0, 1) := by decide +kernel
theorem dX3_goesOn_1 : decode cX3_goesOn 1 = .ok (.getfield 49, 3) := by decide +kernel
theorem dX3_goesOn_4 : decode cX3_goesOn 4 = .ok (.iconst 1, 1) := by decide +kernel
theorem dX3_goesOn_5 : decode cX3_goesOn 5 = .ok (.if_icmp .ne 7, 3) := by decide +kernel
theorem dX3_goesOn_8 : decode cX3_goesOn 8 = .ok (.iconst 1, 1) := by decide +kernel
theorem dX3_goesOn_9 : decode cX3_goesOn 9 = .ok (.goto 4, 3) := by decide +kernel
theorem dX3_goesOn_12 : decode cX3_goesOn 12 = .ok (.iconst 0, 1) := by decide +kernel
theorem dX3_goesOn_13 : decode cX3_goesOn 13 = .ok (.ireturn, 1) := by decide +kernel
def pw_c_X12_put : List Cond := .code yX12_put cX12_put 3 none :: ([.fieldLink RX12 99 "NeedHouse" "length" "I", .fieldLink RX12 9 "NeedHouse" "tape" "[B"] ++ (wsX120 ++ []))
set_option maxHeartbeats 4000000 in
set_option maxRecDepth 100000 in
theorem c_X12_put (l : Launch) (dC : Nat → ClassId) (dI : Nat → Nat → Nat) (sz : Nat) (cB : ClassId) (h0 : Nat) (fs0 : List Value) (qt : Nat) (f : Nat → Int32) (n : Nat) (p0 : Int32) (hF0 : hasF fs0 14 [(0, .ref qt), (11, .int (nI n))]) (hn : n + 4 ≤ 4000) : Met l yX12_put pw_c_X12_put ({ frames := 0, cells := 0, slots := 0, locals := 0 }) (va_Pc [.ref h0, .int p0] (fun U => U.heap.size = sz ∧ va_P (dC, dI) vwCl [(h0, .inr (12, fs0)), (qt, .inl (cB, 4000, .inl f))] U.heap ∧ va_K (dC, dI) vwCl [(cB, .byte)] U ∧ va_D (fun _ => True) [(h0, .inr (12, fs0)), (qt, .inl (cB, 4000, .inl f))])) (va_Qv (fun (u : (List Value) × (Nat → Int32)) => hasF u.1 14 [(11, .int (nI (n + 4)))] ∧ sameF fs0 u.1 [11]) (fun (u : (List Value) × (Nat → Int32)) (t : State) => va_P (dC, dI) vwCl [(h0, .inr (12, u.1)), (qt, .inl (cB, 4000, .inl u.2))] t.heap ∧ va_K (dC, dI) vwCl [(cB, .byte)] t ∧ va_D (va_A [(h0, .inr (12, fs0)), (qt, .inl (cB, 4000, .inl f))] sz) [(h0, .inr (12, u.1)), (qt, .inl (cB, 4000, .inl u.2))]) (va_A [(h0, .inr (12, fs0)), (qt, .inl (cB, 4000, .inl f))] sz)) 0 0 (va_A [(h0, .inr (12, fs0)), (qt, .inl (cB, 4000, .inl f))] sz) := by
  refine Met.ofW (cc := cX12_put) (maxL := 3) (ret := none) (by decide) rfl ?_
  intro p e s m args below meth c s₁ B hml hv
  obtain ⟨rfl, hsz, hP, hK, hD0⟩ := hv
  have hx := B.exec
  have hb := B.bytes
  have hr := B.returns
  have hts := atoms_spec (ws := pw_c_X12_put) B.pre
  have hown : s.vm.findClass RX12 = some m.cls := findClass_of_methodNamed B.named
  have hlocks := B.notSynchronized
  have hin_X12 : ∀ w ∈ u_ws RX12 TX12 14, w ∈ pw_c_X12_put := fun w h => List.mem_cons_of_mem _ (List.mem_append_right _ (List.mem_append_left _ h))
  subst hsz
  have hD := hD0.self (sz := s.heap.size)
  generalize hAe : va_A [(h0, .inr (12, fs0)), (qt, .inl (cB, 4000, .inl f))] s.heap.size = A at hD ⊢
  have hA : ∀ q : Nat, s.heap.size ≤ q → A q := fun q h => by rw [← hAe]; exact Or.inr h
  have hS : va_S A s.heap s.heap [] := va_S.rf
  have hP : va_P (dC, dI) vwCl [(h0, .inr (12, fs0)), (qt, .inl (cB, 4000, .inl f))] s.heap := hP
  have hl := lv_entry ([.ref h0, .int p0]) (n := 3) (Nat.le_of_ble_eq_true rfl)
  rw [lg_entry_eq]
  generalize (lg_sl ([.ref h0, .int p0]) ++ List.replicate (3 - (lg_sl ([.ref h0, .int p0])).length) Slot.unset).toArray = ls at hl ⊢
  have hl : lv_has ls 3 [(0, .ref h0), (1, .int p0)] := hl
  refine lv_bipush (v := 24) hx hb dX12_put_0 (by decide) ?_
  refine lv_istore_n (lv' := [(2, .int 24), (0, .ref h0), (1, .int p0)]) hx hb dX12_put_2 rfl hl (by decide) rfl (fun ls hl => ?_)
  refine lv_iload_n hx hb dX12_put_3 rfl (lv_at hl 0 rfl) ?_
  refine lv_if_lt (tgt := 46) hx hb dX12_put_4 (by decide) (fun c_1 => absurd c_1 (by decide)) (fun _ => ?_)
  refine lv_aload_n hx hb dX12_put_7 rfl (lv_at hl 1 rfl) ?_
  refine va_get (D := (dC, dI)) (ci := 12) (v := .int (nI n)) (C := RX12) (T := TX12) (N := 14) hx hb hts hin_X12 hown hK hP 0 rfl rfl 11 (by decide) (hts (.fieldLink RX12 99 "NeedHouse" "length" "I") (List.mem_of_getElem? (i := 1) rfl)) (fun _ h9 => h9) (hF0.at 1 rfl) dX12_put_8 ?_
  refine lv_sipush (v := 4000) hx hb dX12_put_11 (by decide) ?_
  refine lv_icmp_ge (tgt := 46) hx hb dX12_put_14 (by decide) (fun c_2 => absurd c_2 (nI_ge (b := 4000) (by omega) (by decide))) (fun _ => ?_)
  refine lv_aload_n hx hb dX12_put_17 rfl (lv_at hl 1 rfl) ?_
  refine va_get (D := (dC, dI)) (ci := 12) (v := .ref qt) (C := RX12) (T := TX12) (N := 14) hx hb hts hin_X12 hown hK hP 0 rfl rfl 0 (by decide) (hts (.fieldLink RX12 9 "NeedHouse" "tape" "[B") (List.mem_of_getElem? (i := 2) rfl)) (fun _ h9 => h9) (hF0.at 0 rfl) dX12_put_18 ?_
  refine lv_aload_n hx hb dX12_put_21 rfl (lv_at hl 1 rfl) ?_
  refine va_get (D := (dC, dI)) (ci := 12) (v := .int (nI n)) (C := RX12) (T := TX12) (N := 14) hx hb hts hin_X12 hown hK hP 0 rfl rfl 11 (by decide) (hts (.fieldLink RX12 99 "NeedHouse" "length" "I") (List.mem_of_getElem? (i := 1) rfl)) (fun _ h9 => h9) (hF0.at 1 rfl) dX12_put_22 ?_
  refine lv_iload_n hx hb dX12_put_25 rfl (lv_at hl 2 rfl) ?_
  refine lv_iload_n hx hb dX12_put_26 rfl (lv_at hl 0 rfl) ?_
  refine lv_ishr hx hb dX12_put_27 ?_
  refine lv_topi (fun x_3 ex_3 => ?_)
  obtain ⟨x_4, ex_4⟩ : ∃ z : Int32, z = (x_3).toInt8.toInt32 := ⟨_, rfl⟩
  refine lv_i2b (v := x_4) hx hb dX12_put_28 ex_4.symm ?_
  refine va_bast hx hb hK hP hD hS 1 0 rfl rfl (vp_in_nI (by omega) (by decide)) dX12_put_29 (fun H locs hP hD hS => ?_)
  have hP : va_P (dC, dI) vwCl [(h0, .inr (12, fs0)), (qt, .inl (cB, 4000, .inl (upd f (nI n : Int32).toNatClampNeg (vp_nar .byte x_4))))] H := hP
  have hD : va_D A [(h0, .inr (12, fs0)), (qt, .inl (cB, 4000, .inl (upd f (nI n : Int32).toNatClampNeg (vp_nar .byte x_4))))] := hD
  generalize upd f (nI n : Int32).toNatClampNeg (vp_nar .byte x_4) = f_5 at hP hD
  have hP : va_P (dC, dI) vwCl [(h0, .inr (12, fs0)), (qt, .inl (cB, 4000, .inl f_5))] H := hP
  have hD : va_D A [(h0, .inr (12, fs0)), (qt, .inl (cB, 4000, .inl f_5))] := hD
  refine lv_aload_n hx hb dX12_put_30 rfl (lv_at hl 1 rfl) ?_
  refine lv_dup hx hb dX12_put_31 rfl ?_
  refine va_get (D := (dC, dI)) (ci := 12) (v := .int (nI n)) (C := RX12) (T := TX12) (N := 14) hx hb hts hin_X12 hown hK hP 0 rfl rfl 11 (by decide) (hts (.fieldLink RX12 99 "NeedHouse" "length" "I") (List.mem_of_getElem? (i := 1) rfl)) (fun _ h9 => h9) (hF0.at 1 rfl) dX12_put_32 ?_
  refine lv_iconst (v := 1) hx hb dX12_put_35 (by decide) ?_
  refine lv_iadd hx hb dX12_put_36 ?_
  refine lv_topi (fun x_6 ex_6 => ?_)
  obtain rfl : x_6 = (nI (n + 1)) := ex_6.trans (by first | exact nI_1 _ | exact nI_add _ _)
  refine va_put (D := (dC, dI)) (ci := 12) (v := .int (nI (n + 1))) (ty := .int) (C := RX12) (T := TX12) (N := 14) hx hb hts hin_X12 tyX12 tyX12_ok nmX12 hown hK hP hD hS 0 rfl rfl 11 (by decide) (hts (.fieldLink RX12 99 "NeedHouse" "length" "I") (List.mem_of_getElem? (i := 1) rfl)) (fun _ h9 => h9) rfl (by decide +kernel) rfl rfl (by rw [hF0.1]; decide) dX12_put_37 (fun H locs hP hD hS => ?_)
  have hP : va_P (dC, dI) vwCl [(h0, .inr (12, (fs0.set 11 (.int (nI (n + 1)))))), (qt, .inl (cB, 4000, .inl f_5))] H := hP
  have hD : va_D A [(h0, .inr (12, (fs0.set 11 (.int (nI (n + 1)))))), (qt, .inl (cB, 4000, .inl f_5))] := hD
  have hF_7 := hF0.set 11 (.int (nI (n + 1))) (l' := [(11, .int (nI (n + 1))), (0, .ref qt)]) (by decide) rfl
  have hE_8 := (sameF.rf (f := fs0)).set 11 (.int (nI (n + 1)))
  generalize fs0.set 11 (.int (nI (n + 1))) = fs_9 at hP hD hF_7 hE_8
  have hP : va_P (dC, dI) vwCl [(h0, .inr (12, fs_9)), (qt, .inl (cB, 4000, .inl f_5))] H := hP
  have hD : va_D A [(h0, .inr (12, fs_9)), (qt, .inl (cB, 4000, .inl f_5))] := hD
  refine lv_iinc (v := 16) (lv' := [(2, .int 16), (0, .ref h0), (1, .int p0)]) hx hb dX12_put_40 hl (k := 0) rfl (by decide +kernel) (by decide) rfl (fun ls hl => ?_)
  refine lv_goto (tgt := 3) hx hb dX12_put_43 (by decide) ?_
  refine lv_iload_n hx hb dX12_put_3 rfl (lv_at hl 0 rfl) ?_
  refine lv_if_lt (tgt := 46) hx hb dX12_put_4 (by decide) (fun c_10 => absurd c_10 (by decide)) (fun _ => ?_)
  refine lv_aload_n hx hb dX12_put_7 rfl (lv_at hl 1 rfl) ?_
  refine va_get (D := (dC, dI)) (ci := 12) (v := .int (nI (n + 1))) (C := RX12) (T := TX12) (N := 14) hx hb hts hin_X12 hown hK hP 0 rfl rfl 11 (by decide) (hts (.fieldLink RX12 99 "NeedHouse" "length" "I") (List.mem_of_getElem? (i := 1) rfl)) (fun _ h9 => h9) (hF_7.at 0 rfl) dX12_put_8 ?_
  refine lv_sipush (v := 4000) hx hb dX12_put_11 (by decide) ?_
  refine lv_icmp_ge (tgt := 46) hx hb dX12_put_14 (by decide) (fun c_11 => absurd c_11 (nI_ge (b := 4000) (by omega) (by decide))) (fun _ => ?_)
  refine lv_aload_n hx hb dX12_put_17 rfl (lv_at hl 1 rfl) ?_
  refine va_get (D := (dC, dI)) (ci := 12) (v := .ref qt) (C := RX12) (T := TX12) (N := 14) hx hb hts hin_X12 hown hK hP 0 rfl rfl 0 (by decide) (hts (.fieldLink RX12 9 "NeedHouse" "tape" "[B") (List.mem_of_getElem? (i := 2) rfl)) (fun _ h9 => h9) (hF_7.at 1 rfl) dX12_put_18 ?_
  refine lv_aload_n hx hb dX12_put_21 rfl (lv_at hl 1 rfl) ?_
  refine va_get (D := (dC, dI)) (ci := 12) (v := .int (nI (n + 1))) (C := RX12) (T := TX12) (N := 14) hx hb hts hin_X12 hown hK hP 0 rfl rfl 11 (by decide) (hts (.fieldLink RX12 99 "NeedHouse" "length" "I") (List.mem_of_getElem? (i := 1) rfl)) (fun _ h9 => h9) (hF_7.at 0 rfl) dX12_put_22 ?_
  refine lv_iload_n hx hb dX12_put_25 rfl (lv_at hl 2 rfl) ?_
  refine lv_iload_n hx hb dX12_put_26 rfl (lv_at hl 0 rfl) ?_
  refine lv_ishr hx hb dX12_put_27 ?_
  refine lv_topi (fun x_12 ex_12 => ?_)
  obtain ⟨x_13, ex_13⟩ : ∃ z : Int32, z = (x_12).toInt8.toInt32 := ⟨_, rfl⟩
  refine lv_i2b (v := x_13) hx hb dX12_put_28 ex_13.symm ?_
  refine va_bast hx hb hK hP hD hS 1 0 rfl rfl (vp_in_nI (by omega) (by decide)) dX12_put_29 (fun H locs hP hD hS => ?_)
  have hP : va_P (dC, dI) vwCl [(h0, .inr (12, fs_9)), (qt, .inl (cB, 4000, .inl (upd f_5 ((nI (n + 1)) : Int32).toNatClampNeg (vp_nar .byte x_13))))] H := hP
  have hD : va_D A [(h0, .inr (12, fs_9)), (qt, .inl (cB, 4000, .inl (upd f_5 ((nI (n + 1)) : Int32).toNatClampNeg (vp_nar .byte x_13))))] := hD
  generalize upd f_5 ((nI (n + 1)) : Int32).toNatClampNeg (vp_nar .byte x_13) = f_14 at hP hD
  have hP : va_P (dC, dI) vwCl [(h0, .inr (12, fs_9)), (qt, .inl (cB, 4000, .inl f_14))] H := hP
  have hD : va_D A [(h0, .inr (12, fs_9)), (qt, .inl (cB, 4000, .inl f_14))] := hD
  refine lv_aload_n hx hb dX12_put_30 rfl (lv_at hl 1 rfl) ?_
  refine lv_dup hx hb dX12_put_31 rfl ?_
  refine va_get (D := (dC, dI)) (ci := 12) (v := .int (nI (n + 1))) (C := RX12) (T := TX12) (N := 14) hx hb hts hin_X12 hown hK hP 0 rfl rfl 11 (by decide) (hts (.fieldLink RX12 99 "NeedHouse" "length" "I") (List.mem_of_getElem? (i := 1) rfl)) (fun _ h9 => h9) (hF_7.at 0 rfl) dX12_put_32 ?_
  refine lv_iconst (v := 1) hx hb dX12_put_35 (by decide) ?_
  refine lv_iadd hx hb dX12_put_36 ?_
  refine lv_topi (fun x_15 ex_15 => ?_)
  obtain rfl : x_15 = (nI (n + 2)) := ex_15.trans (by first | exact nI_1 _ | exact nI_add _ _)
  refine va_put (D := (dC, dI)) (ci := 12) (v := .int (nI (n + 2))) (ty := .int) (C := RX12) (T := TX12) (N := 14) hx hb hts hin_X12 tyX12 tyX12_ok nmX12 hown hK hP hD hS 0 rfl rfl 11 (by decide) (hts (.fieldLink RX12 99 "NeedHouse" "length" "I") (List.mem_of_getElem? (i := 1) rfl)) (fun _ h9 => h9) rfl (by decide +kernel) rfl rfl (by rw [hF_7.1]; decide) dX12_put_37 (fun H locs hP hD hS => ?_)
  have hP : va_P (dC, dI) vwCl [(h0, .inr (12, (fs_9.set 11 (.int (nI (n + 2)))))), (qt, .inl (cB, 4000, .inl f_14))] H := hP
  have hD : va_D A [(h0, .inr (12, (fs_9.set 11 (.int (nI (n + 2)))))), (qt, .inl (cB, 4000, .inl f_14))] := hD
  have hF_16 := hF_7.set 11 (.int (nI (n + 2))) (l' := [(11, .int (nI (n + 2))), (0, .ref qt)]) (by decide) rfl
  have hE_17 := hE_8.set 11 (.int (nI (n + 2)))
  generalize fs_9.set 11 (.int (nI (n + 2))) = fs_18 at hP hD hF_16 hE_17
  have hP : va_P (dC, dI) vwCl [(h0, .inr (12, fs_18)), (qt, .inl (cB, 4000, .inl f_14))] H := hP
  have hD : va_D A [(h0, .inr (12, fs_18)), (qt, .inl (cB, 4000, .inl f_14))] := hD
  refine lv_iinc (v := 8) (lv' := [(2, .int 8), (0, .ref h0), (1, .int p0)]) hx hb dX12_put_40 hl (k := 0) rfl (by decide +kernel) (by decide) rfl (fun ls hl => ?_)
  refine lv_goto (tgt := 3) hx hb dX12_put_43 (by decide) ?_
  refine lv_iload_n hx hb dX12_put_3 rfl (lv_at hl 0 rfl) ?_
  refine lv_if_lt (tgt := 46) hx hb dX12_put_4 (by decide) (fun c_19 => absurd c_19 (by decide)) (fun _ => ?_)
  refine lv_aload_n hx hb dX12_put_7 rfl (lv_at hl 1 rfl) ?_
  refine va_get (D := (dC, dI)) (ci := 12) (v := .int (nI (n + 2))) (C := RX12) (T := TX12) (N := 14) hx hb hts hin_X12 hown hK hP 0 rfl rfl 11 (by decide) (hts (.fieldLink RX12 99 "NeedHouse" "length" "I") (List.mem_of_getElem? (i := 1) rfl)) (fun _ h9 => h9) (hF_16.at 0 rfl) dX12_put_8 ?_
  refine lv_sipush (v := 4000) hx hb dX12_put_11 (by decide) ?_
  refine lv_icmp_ge (tgt := 46) hx hb dX12_put_14 (by decide) (fun c_20 => absurd c_20 (nI_ge (b := 4000) (by omega) (by decide))) (fun _ => ?_)
  refine lv_aload_n hx hb dX12_put_17 rfl (lv_at hl 1 rfl) ?_
  refine va_get (D := (dC, dI)) (ci := 12) (v := .ref qt) (C := RX12) (T := TX12) (N := 14) hx hb hts hin_X12 hown hK hP 0 rfl rfl 0 (by decide) (hts (.fieldLink RX12 9 "NeedHouse" "tape" "[B") (List.mem_of_getElem? (i := 2) rfl)) (fun _ h9 => h9) (hF_16.at 1 rfl) dX12_put_18 ?_
  refine lv_aload_n hx hb dX12_put_21 rfl (lv_at hl 1 rfl) ?_
  refine va_get (D := (dC, dI)) (ci := 12) (v := .int (nI (n + 2))) (C := RX12) (T := TX12) (N := 14) hx hb hts hin_X12 hown hK hP 0 rfl rfl 11 (by decide) (hts (.fieldLink RX12 99 "NeedHouse" "length" "I") (List.mem_of_getElem? (i := 1) rfl)) (fun _ h9 => h9) (hF_16.at 0 rfl) dX12_put_22 ?_
  refine lv_iload_n hx hb dX12_put_25 rfl (lv_at hl 2 rfl) ?_
  refine lv_iload_n hx hb dX12_put_26 rfl (lv_at hl 0 rfl) ?_
  refine lv_ishr hx hb dX12_put_27 ?_
  refine lv_topi (fun x_21 ex_21 => ?_)
  obtain ⟨x_22, ex_22⟩ : ∃ z : Int32, z = (x_21).toInt8.toInt32 := ⟨_, rfl⟩
  refine lv_i2b (v := x_22) hx hb dX12_put_28 ex_22.symm ?_
  refine va_bast hx hb hK hP hD hS 1 0 rfl rfl (vp_in_nI (by omega) (by decide)) dX12_put_29 (fun H locs hP hD hS => ?_)
  have hP : va_P (dC, dI) vwCl [(h0, .inr (12, fs_18)), (qt, .inl (cB, 4000, .inl (upd f_14 ((nI (n + 2)) : Int32).toNatClampNeg (vp_nar .byte x_22))))] H := hP
  have hD : va_D A [(h0, .inr (12, fs_18)), (qt, .inl (cB, 4000, .inl (upd f_14 ((nI (n + 2)) : Int32).toNatClampNeg (vp_nar .byte x_22))))] := hD
  generalize upd f_14 ((nI (n + 2)) : Int32).toNatClampNeg (vp_nar .byte x_22) = f_23 at hP hD
  have hP : va_P (dC, dI) vwCl [(h0, .inr (12, fs_18)), (qt, .inl (cB, 4000, .inl f_23))] H := hP
  have hD : va_D A [(h0, .inr (12, fs_18)), (qt, .inl (cB, 4000, .inl f_23))] := hD
  refine lv_aload_n hx hb dX12_put_30 rfl (lv_at hl 1 rfl) ?_
  refine lv_dup hx hb dX12_put_31 rfl ?_
  refine va_get (D := (dC, dI)) (ci := 12) (v := .int (nI (n + 2))) (C := RX12) (T := TX12) (N := 14) hx hb hts hin_X12 hown hK hP 0 rfl rfl 11 (by decide) (hts (.fieldLink RX12 99 "NeedHouse" "length" "I") (List.mem_of_getElem? (i := 1) rfl)) (fun _ h9 => h9) (hF_16.at 0 rfl) dX12_put_32 ?_
  refine lv_iconst (v := 1) hx hb dX12_put_35 (by decide) ?_
  refine lv_iadd hx hb dX12_put_36 ?_
  refine lv_topi (fun x_24 ex_24 => ?_)
  obtain rfl : x_24 = (nI (n + 3)) := ex_24.trans (by first | exact nI_1 _ | exact nI_add _ _)
  refine va_put (D := (dC, dI)) (ci := 12) (v := .int (nI (n + 3))) (ty := .int) (C := RX12) (T := TX12) (N := 14) hx hb hts hin_X12 tyX12 tyX12_ok nmX12 hown hK hP hD hS 0 rfl rfl 11 (by decide) (hts (.fieldLink RX12 99 "NeedHouse" "length" "I") (List.mem_of_getElem? (i := 1) rfl)) (fun _ h9 => h9) rfl (by decide +kernel) rfl rfl (by rw [hF_16.1]; decide) dX12_put_37 (fun H locs hP hD hS => ?_)
  have hP : va_P (dC, dI) vwCl [(h0, .inr (12, (fs_18.set 11 (.int (nI (n + 3)))))), (qt, .inl (cB, 4000, .inl f_23))] H := hP
  have hD : va_D A [(h0, .inr (12, (fs_18.set 11 (.int (nI (n + 3)))))), (qt, .inl (cB, 4000, .inl f_23))] := hD
  have hF_25 := hF_16.set 11 (.int (nI (n + 3))) (l' := [(11, .int (nI (n + 3))), (0, .ref qt)]) (by decide) rfl
  have hE_26 := hE_17.set 11 (.int (nI (n + 3)))
  generalize fs_18.set 11 (.int (nI (n + 3))) = fs_27 at hP hD hF_25 hE_26
  have hP : va_P (dC, dI) vwCl [(h0, .inr (12, fs_27)), (qt, .inl (cB, 4000, .inl f_23))] H := hP
  have hD : va_D A [(h0, .inr (12, fs_27)), (qt, .inl (cB, 4000, .inl f_23))] := hD
  refine lv_iinc (v := 0) (lv' := [(2, .int 0), (0, .ref h0), (1, .int p0)]) hx hb dX12_put_40 hl (k := 0) rfl (by decide +kernel) (by decide) rfl (fun ls hl => ?_)
  refine lv_goto (tgt := 3) hx hb dX12_put_43 (by decide) ?_
  refine lv_iload_n hx hb dX12_put_3 rfl (lv_at hl 0 rfl) ?_
  refine lv_if_lt (tgt := 46) hx hb dX12_put_4 (by decide) (fun c_28 => absurd c_28 (by decide)) (fun _ => ?_)
  refine lv_aload_n hx hb dX12_put_7 rfl (lv_at hl 1 rfl) ?_
  refine va_get (D := (dC, dI)) (ci := 12) (v := .int (nI (n + 3))) (C := RX12) (T := TX12) (N := 14) hx hb hts hin_X12 hown hK hP 0 rfl rfl 11 (by decide) (hts (.fieldLink RX12 99 "NeedHouse" "length" "I") (List.mem_of_getElem? (i := 1) rfl)) (fun _ h9 => h9) (hF_25.at 0 rfl) dX12_put_8 ?_
  refine lv_sipush (v := 4000) hx hb dX12_put_11 (by decide) ?_
  refine lv_icmp_ge (tgt := 46) hx hb dX12_put_14 (by decide) (fun c_29 => absurd c_29 (nI_ge (b := 4000) (by omega) (by decide))) (fun _ => ?_)
  refine lv_aload_n hx hb dX12_put_17 rfl (lv_at hl 1 rfl) ?_
  refine va_get (D := (dC, dI)) (ci := 12) (v := .ref qt) (C := RX12) (T := TX12) (N := 14) hx hb hts hin_X12 hown hK hP 0 rfl rfl 0 (by decide) (hts (.fieldLink RX12 9 "NeedHouse" "tape" "[B") (List.mem_of_getElem? (i := 2) rfl)) (fun _ h9 => h9) (hF_25.at 1 rfl) dX12_put_18 ?_
  refine lv_aload_n hx hb dX12_put_21 rfl (lv_at hl 1 rfl) ?_
  refine va_get (D := (dC, dI)) (ci := 12) (v := .int (nI (n + 3))) (C := RX12) (T := TX12) (N := 14) hx hb hts hin_X12 hown hK hP 0 rfl rfl 11 (by decide) (hts (.fieldLink RX12 99 "NeedHouse" "length" "I") (List.mem_of_getElem? (i := 1) rfl)) (fun _ h9 => h9) (hF_25.at 0 rfl) dX12_put_22 ?_
  refine lv_iload_n hx hb dX12_put_25 rfl (lv_at hl 2 rfl) ?_
  refine lv_iload_n hx hb dX12_put_26 rfl (lv_at hl 0 rfl) ?_
  refine lv_ishr hx hb dX12_put_27 ?_
  refine lv_topi (fun x_30 ex_30 => ?_)
  obtain ⟨x_31, ex_31⟩ : ∃ z : Int32, z = (x_30).toInt8.toInt32 := ⟨_, rfl⟩
  refine lv_i2b (v := x_31) hx hb dX12_put_28 ex_31.symm ?_
  refine va_bast hx hb hK hP hD hS 1 0 rfl rfl (vp_in_nI (by omega) (by decide)) dX12_put_29 (fun H locs hP hD hS => ?_)
  have hP : va_P (dC, dI) vwCl [(h0, .inr (12, fs_27)), (qt, .inl (cB, 4000, .inl (upd f_23 ((nI (n + 3)) : Int32).toNatClampNeg (vp_nar .byte x_31))))] H := hP
  have hD : va_D A [(h0, .inr (12, fs_27)), (qt, .inl (cB, 4000, .inl (upd f_23 ((nI (n + 3)) : Int32).toNatClampNeg (vp_nar .byte x_31))))] := hD
  generalize upd f_23 ((nI (n + 3)) : Int32).toNatClampNeg (vp_nar .byte x_31) = f_32 at hP hD
  have hP : va_P (dC, dI) vwCl [(h0, .inr (12, fs_27)), (qt, .inl (cB, 4000, .inl f_32))] H := hP
  have hD : va_D A [(h0, .inr (12, fs_27)), (qt, .inl (cB, 4000, .inl f_32))] := hD
  refine lv_aload_n hx hb dX12_put_30 rfl (lv_at hl 1 rfl) ?_
  refine lv_dup hx hb dX12_put_31 rfl ?_
  refine va_get (D := (dC, dI)) (ci := 12) (v := .int (nI (n + 3))) (C := RX12) (T := TX12) (N := 14) hx hb hts hin_X12 hown hK hP 0 rfl rfl 11 (by decide) (hts (.fieldLink RX12 99 "NeedHouse" "length" "I") (List.mem_of_getElem? (i := 1) rfl)) (fun _ h9 => h9) (hF_25.at 0 rfl) dX12_put_32 ?_
  refine lv_iconst (v := 1) hx hb dX12_put_35 (by decide) ?_
  refine lv_iadd hx hb dX12_put_36 ?_
  refine lv_topi (fun x_33 ex_33 => ?_)
  obtain rfl : x_33 = (nI (n + 4)) := ex_33.trans (by first | exact nI_1 _ | exact nI_add _ _)
  refine va_put (D := (dC, dI)) (ci := 12) (v := .int (nI (n + 4))) (ty := .int) (C := RX12) (T := TX12) (N := 14) hx hb hts hin_X12 tyX12 tyX12_ok nmX12 hown hK hP hD hS 0 rfl rfl 11 (by decide) (hts (.fieldLink RX12 99 "NeedHouse" "length" "I") (List.mem_of_getElem? (i := 1) rfl)) (fun _ h9 => h9) rfl (by decide +kernel) rfl rfl (by rw [hF_25.1]; decide) dX12_put_37 (fun H locs hP hD hS => ?_)
  have hP : va_P (dC, dI) vwCl [(h0, .inr (12, (fs_27.set 11 (.int (nI (n + 4)))))), (qt, .inl (cB, 4000, .inl f_32))] H := hP
  have hD : va_D A [(h0, .inr (12, (fs_27.set 11 (.int (nI (n + 4)))))), (qt, .inl (cB, 4000, .inl f_32))] := hD
  have hF_34 := hF_25.set 11 (.int (nI (n + 4))) (l' := [(11, .int (nI (n + 4))), (0, .ref qt)]) (by decide) rfl
  have hE_35 := hE_26.set 11 (.int (nI (n + 4)))
  generalize fs_27.set 11 (.int (nI (n + 4))) = fs_36 at hP hD hF_34 hE_35
  have hP : va_P (dC, dI) vwCl [(h0, .inr (12, fs_36)), (qt, .inl (cB, 4000, .inl f_32))] H := hP
  have hD : va_D A [(h0, .inr (12, fs_36)), (qt, .inl (cB, 4000, .inl f_32))] := hD
  refine lv_iinc (v := (-8)) (lv' := [(2, .int (-8)), (0, .ref h0), (1, .int p0)]) hx hb dX12_put_40 hl (k := 0) rfl (by decide +kernel) (by decide) rfl (fun ls hl => ?_)
  refine lv_goto (tgt := 3) hx hb dX12_put_43 (by decide) ?_
  refine lv_iload_n hx hb dX12_put_3 rfl (lv_at hl 0 rfl) ?_
  refine lv_if_lt (tgt := 46) hx hb dX12_put_4 (by decide) (fun _ => ?_) (fun c_37 => absurd (by decide) c_37)
  have hP9 := hP.sub (ws' := [(h0, .inr (12, fs_36)), (qt, .inl (cB, 4000, .inl f_32))]) [0, 1] rfl
  have hD9 := hD.sub (ws' := [(h0, .inr (12, fs_36)), (qt, .inl (cB, 4000, .inl f_32))]) [0, 1] (by decide) rfl
  have hK9 := hK.sub (tys' := [(cB, .byte)]) [0] rfl
  exact W.vret hx hb hr (fun t ht hW => ⟨⟨((fs_36, f_32)), rfl, ⟨hF_34.sub [0] rfl, hE_35.mono (by decide)⟩, by rw [ht]; exact hP9, va_K.moved hW.alike hK9, hD9⟩, hS.F ht⟩) hS.2.2 dX12_put_46
def pw_c_X12_feed : List Cond := .code yX12_feed cX12_feed 6 (some .int) :: ([.fieldLink RX12 99 "NeedHouse" "length" "I", .methodLink RX12 110 yX12_put, .instanceMethod yX12_put, .selects RX12 yX12_put yX12_put, .initialized RX12, .code yX12_put cX12_put 3 none, .fieldLink RX12 9 "NeedHouse" "tape" "[B"] ++ (wsX120 ++ []))
set_option maxRecDepth 20000 in
theorem g_c_X12_feed_c_X12_put_17 : GoodIn pw_c_X12_feed (wsV RX12 110 RX12 yX12_put pw_c_X12_put) := goodIn_r _ [2, 3, 4, 5, 6, 1, 7, 8, 9, 10, 11, 12, 13, 14, 15, 16, 17, 18, 19, 20, 21] rfl (by decide +kernel)
set_option maxRecDepth 20000 in
theorem g_c_X12_feed_c_X12_put_22 : GoodIn pw_c_X12_feed (wsV RX12 110 RX12 yX12_put pw_c_X12_put) := goodIn_r _ [2, 3, 4, 5, 6, 1, 7, 8, 9, 10, 11, 12, 13, 14, 15, 16, 17, 18, 19, 20, 21] rfl (by decide +kernel)
set_option maxRecDepth 20000 in
theorem g_c_X12_feed_c_X12_put_27 : GoodIn pw_c_X12_feed (wsV RX12 110 RX12 yX12_put pw_c_X12_put) := goodIn_r _ [2, 3, 4, 5, 6, 1, 7, 8, 9, 10, 11, 12, 13, 14, 15, 16, 17, 18, 19, 20, 21] rfl (by decide +kernel)
set_option maxRecDepth 20000 in
theorem g_c_X12_feed_c_X12_put_33 : GoodIn pw_c_X12_feed (wsV RX12 110 RX12 yX12_put pw_c_X12_put) := goodIn_r _ [2, 3, 4, 5, 6, 1, 7, 8, 9, 10, 11, 12, 13, 14, 15, 16, 17, 18, 19, 20, 21] rfl (by decide +kernel)
set_option maxRecDepth 20000 in
theorem g_c_X12_feed_c_X12_put_39 : GoodIn pw_c_X12_feed (wsV RX12 110 RX12 yX12_put pw_c_X12_put) := goodIn_r _ [2, 3, 4, 5, 6, 1, 7, 8, 9, 10, 11, 12, 13, 14, 15, 16, 17, 18, 19, 20, 21] rfl (by decide +kernel)
set_option maxHeartbeats 4000000 in
set_option maxRecDepth 100000 in
theorem c_X12_feed (l : Launch) (dC : Nat → ClassId) (dI : Nat → Nat → Nat) (sz : Nat) (cB : ClassId) (h0 : Nat) (fs0 : List Value) (qt : Nat) (f : Nat → Int32) (p0 : Int32) (p1 : Int32) (p2 : Int32) (p3 : Int32) (p4 : Int32) (hF0 : hasF fs0 14 [(0, .ref qt), (11, .int 0)]) : Met l yX12_feed pw_c_X12_feed ({ frames := 1, cells := 0, slots := 0, locals := 22 }) (va_Pc [.ref h0, .int p0, .int p1, .int p2, .int p3, .int p4] (fun U => U.heap.size = sz ∧ va_P (dC, dI) vwCl [(h0, .inr (12, fs0)), (qt, .inl (cB, 4000, .inl f))] U.heap ∧ va_K (dC, dI) vwCl [(cB, .byte)] U ∧ va_D (fun _ => True) [(h0, .inr (12, fs0)), (qt, .inl (cB, 4000, .inl f))])) (va_Qi (fun (r : Int32) (u : (List Value) × (Nat → Int32)) => r = nI 20 ∧ sameF fs0 u.1 [11]) (fun (u : (List Value) × (Nat → Int32)) (t : State) => va_P (dC, dI) vwCl [(h0, .inr (12, u.1)), (qt, .inl (cB, 4000, .inl u.2))] t.heap ∧ va_K (dC, dI) vwCl [(cB, .byte)] t ∧ va_D (va_A [(h0, .inr (12, fs0)), (qt, .inl (cB, 4000, .inl f))] sz) [(h0, .inr (12, u.1)), (qt, .inl (cB, 4000, .inl u.2))]) (va_A [(h0, .inr (12, fs0)), (qt, .inl (cB, 4000, .inl f))] sz)) 0 0 (va_A [(h0, .inr (12, fs0)), (qt, .inl (cB, 4000, .inl f))] sz) := by
  refine Met.ofW (cc := cX12_feed) (maxL := 6) (ret := (some .int)) (by decide) rfl ?_
  intro p e s m args below meth c s₁ B hml hv
  obtain ⟨rfl, hsz, hP, hK, hD0⟩ := hv
  have hx := B.exec
  have hb := B.bytes
  have hr := B.returns
  have hts := atoms_spec (ws := pw_c_X12_feed) B.pre
  have hown : s.vm.findClass RX12 = some m.cls := findClass_of_methodNamed B.named
  have hlocks := B.notSynchronized
  have hin_X12 : ∀ w ∈ u_ws RX12 TX12 14, w ∈ pw_c_X12_feed := fun w h => List.mem_cons_of_mem _ (List.mem_append_right _ (List.mem_append_left _ h))
  subst hsz
  have hD := hD0.self (sz := s.heap.size)
  generalize hAe : va_A [(h0, .inr (12, fs0)), (qt, .inl (cB, 4000, .inl f))] s.heap.size = A at hD ⊢
  have hA : ∀ q : Nat, s.heap.size ≤ q → A q := fun q h => by rw [← hAe]; exact Or.inr h
  have hS : va_S A s.heap s.heap [] := va_S.rf
  have hP : va_P (dC, dI) vwCl [(h0, .inr (12, fs0)), (qt, .inl (cB, 4000, .inl f))] s.heap := hP
  have hl := lv_entry ([.ref h0, .int p0, .int p1, .int p2, .int p3, .int p4]) (n := 6) (Nat.le_of_ble_eq_true rfl)
  rw [lg_entry_eq]
  generalize (lg_sl ([.ref h0, .int p0, .int p1, .int p2, .int p3, .int p4]) ++ List.replicate (6 - (lg_sl ([.ref h0, .int p0, .int p1, .int p2, .int p3, .int p4])).length) Slot.unset).toArray = ls at hl ⊢
  have hl : lv_has ls 6 [(0, .ref h0), (1, .int p0), (2, .int p1), (3, .int p2), (4, .int p3), (5, .int p4)] := hl
  refine lv_aload_n hx hb dX12_feed_0 rfl (lv_at hl 0 rfl) ?_
  refine va_get (D := (dC, dI)) (ci := 12) (v := .int 0) (C := RX12) (T := TX12) (N := 14) hx hb hts hin_X12 hown hK hP 0 rfl rfl 11 (by decide) (hts (.fieldLink RX12 99 "NeedHouse" "length" "I") (List.mem_of_getElem? (i := 1) rfl)) (fun _ h9 => h9) (hF0.at 1 rfl) dX12_feed_1 ?_
  refine lv_bipush (v := 20) hx hb dX12_feed_4 (by decide) ?_
  refine lv_iadd hx hb dX12_feed_6 ?_
  refine lv_topi (fun x_1 ex_1 => ?_)
  obtain rfl : x_1 = 20 := ex_1.trans (by decide +kernel)
  refine lv_sipush (v := 4000) hx hb dX12_feed_7 (by decide) ?_
  refine lv_icmp_le (tgt := 15) hx hb dX12_feed_10 (by decide) (fun _ => ?_) (fun c_2 => absurd (by decide) c_2)
  refine lv_aload_n hx hb dX12_feed_15 rfl (lv_at hl 0 rfl) ?_
  refine lv_iload_n hx hb dX12_feed_16 rfl (lv_at hl 1 rfl) ?_
  have hF_3 : hasF fs0 14 [(0, .ref qt), (11, .int (nI 0))] := hF0
  have hPc := hP.sub (ws' := [(h0, .inr (12, fs0)), (qt, .inl (cB, 4000, .inl f))]) [0, 1] rfl
  have hDc := hD.sub (ws' := [(h0, .inr (12, fs0)), (qt, .inl (cB, 4000, .inl f))]) [0, 1] (by decide) rfl
  have hKc := hK.sub (tys' := [(cB, .byte)]) [0] rfl
  have hFc := va_free (wc := [(h0, .inr (12, fs0)), (qt, .inl (cB, 4000, .inl f))]) hD hS hA [0, 1] rfl
  refine va_callv (va_runV (As := [.int p0]) (rest := []) ⟨hx, hb, hml, hown, hts⟩ (c_X12_put l dC dI s.heap.size cB h0 fs0 qt f 0 p0 (hF_3.sub [0, 1] rfl) (by decide)) (cwV 1 hts g_c_X12_feed_c_X12_put_17 rfl rfl rfl (by decide +kernel) ⟨Nat.le_of_ble_eq_true rfl, Nat.le_of_ble_eq_true rfl⟩) ⟨fun a U g mk q => by obtain ⟨q0, q1, qP, qK, qD⟩ := q; exact ⟨q0, q1, qP, va_K.moved (u := U) (U := U.calling g mk a) (Vm.Alike.refl U.vm) qK, qD⟩, va_recv hKc hPc (ci := 12) (q0 := 0) rfl rfl, fun U hU hW => ⟨rfl, by rw [hU], by rw [hU]; exact hPc, va_K.moved hW.alike hKc, hDc.weaken (fun _ _ _ _ => trivial)⟩⟩ rfl rfl hl.1 rfl (lv_room (Nat.le_of_ble_eq_true rfl)) dX12_feed_17 ⟨show 0 + 0 ≤ 0 by decide, show 0 + 0 ≤ 0 by decide⟩) hS (fun q _ h => hFc q h) hFc (fun u t H1 locs ht hvm hw hB hz1 hk1 hS => ?_)
  obtain ⟨fs0z_6, fz_7⟩ := u
  obtain ⟨hP1, hK1, hD1⟩ := hB
  rw [ht] at hP1
  have hK1 := va_K.moved hvm.symm hK1
  try dsimp only at hw hP1 hK1 hD1
  obtain ⟨hF_8, hE_9⟩ := hw
  obtain ⟨hP, hD⟩ := va_join (wr := []) (w1 := [(h0, .inr (12, fs0z_6)), (qt, .inl (cB, 4000, .inl fz_7))]) hP hD [0, 1] [] rfl rfl (by decide) (by decide) hk1 hFc hP1 hD1
  generalize H1 = H at hP hS ⊢
  have hK := (hK.sub (tys' := []) [] rfl).app hK1
  have hK : va_K (dC, dI) vwCl [(cB, .byte)] s := hK
  have hP : va_P (dC, dI) vwCl [(h0, .inr (12, fs0z_6)), (qt, .inl (cB, 4000, .inl fz_7))] H := hP
  have hD : va_D A [(h0, .inr (12, fs0z_6)), (qt, .inl (cB, 4000, .inl fz_7))] := hD
  have hF_10 := hF_3.same hE_9 (l' := [(0, .ref qt)]) rfl
  have hF_11 := hF_8.app hF_10
  have hE_12 := (sameF.rf (f := fs0)).trans hE_9
  refine lv_aload_n hx hb dX12_feed_20 rfl (lv_at hl 0 rfl) ?_
  refine lv_iload_n hx hb dX12_feed_21 rfl (lv_at hl 2 rfl) ?_
  have hF_13 : hasF fs0z_6 14 [(11, .int (nI 4)), (0, .ref qt)] := hF_11
  have hPc := hP.sub (ws' := [(h0, .inr (12, fs0z_6)), (qt, .inl (cB, 4000, .inl fz_7))]) [0, 1] rfl
  have hDc := hD.sub (ws' := [(h0, .inr (12, fs0z_6)), (qt, .inl (cB, 4000, .inl fz_7))]) [0, 1] (by decide) rfl
  have hKc := hK.sub (tys' := [(cB, .byte)]) [0] rfl
  have hFc := va_free (wc := [(h0, .inr (12, fs0z_6)), (qt, .inl (cB, 4000, .inl fz_7))]) hD hS hA [0, 1] rfl
  refine va_callv (va_runV (As := [.int p1]) (rest := []) ⟨hx, hb, hml, hown, hts⟩ (c_X12_put l dC dI H.size cB h0 fs0z_6 qt fz_7 4 p1 (hF_13.sub [1, 0] rfl) (by decide)) (cwV 1 hts g_c_X12_feed_c_X12_put_22 rfl rfl rfl (by decide +kernel) ⟨Nat.le_of_ble_eq_true rfl, Nat.le_of_ble_eq_true rfl⟩) ⟨fun a U g mk q => by obtain ⟨q0, q1, qP, qK, qD⟩ := q; exact ⟨q0, q1, qP, va_K.moved (u := U) (U := U.calling g mk a) (Vm.Alike.refl U.vm) qK, qD⟩, va_recv hKc hPc (ci := 12) (q0 := 0) rfl rfl, fun U hU hW => ⟨rfl, by rw [hU], by rw [hU]; exact hPc, va_K.moved hW.alike hKc, hDc.weaken (fun _ _ _ _ => trivial)⟩⟩ rfl rfl hl.1 rfl (lv_room (Nat.le_of_ble_eq_true rfl)) dX12_feed_22 ⟨show 0 + 0 ≤ 0 by decide, show 0 + 0 ≤ 0 by decide⟩) hS (fun q _ h => hFc q h) hFc (fun u t H1 locs ht hvm hw hB hz1 hk1 hS => ?_)
  obtain ⟨fs0z_16, fz_17⟩ := u
  obtain ⟨hP1, hK1, hD1⟩ := hB
  rw [ht] at hP1
  have hK1 := va_K.moved hvm.symm hK1
  try dsimp only at hw hP1 hK1 hD1
  obtain ⟨hF_18, hE_19⟩ := hw
  obtain ⟨hP, hD⟩ := va_join (wr := []) (w1 := [(h0, .inr (12, fs0z_16)), (qt, .inl (cB, 4000, .inl fz_17))]) hP hD [0, 1] [] rfl rfl (by decide) (by decide) hk1 hFc hP1 hD1
  generalize H1 = H at hP hS ⊢
  have hK := (hK.sub (tys' := []) [] rfl).app hK1
  have hK : va_K (dC, dI) vwCl [(cB, .byte)] s := hK
  have hP : va_P (dC, dI) vwCl [(h0, .inr (12, fs0z_16)), (qt, .inl (cB, 4000, .inl fz_17))] H := hP
  have hD : va_D A [(h0, .inr (12, fs0z_16)), (qt, .inl (cB, 4000, .inl fz_17))] := hD
  have hF_20 := hF_13.same hE_19 (l' := [(0, .ref qt)]) rfl
  have hF_21 := hF_18.app hF_20
  have hE_22 := hE_12.trans hE_19
  refine lv_aload_n hx hb dX12_feed_25 rfl (lv_at hl 0 rfl) ?_
  refine lv_iload_n hx hb dX12_feed_26 rfl (lv_at hl 3 rfl) ?_
  have hF_23 : hasF fs0z_16 14 [(11, .int (nI 8)), (0, .ref qt)] := hF_21
  have hPc := hP.sub (ws' := [(h0, .inr (12, fs0z_16)), (qt, .inl (cB, 4000, .inl fz_17))]) [0, 1] rfl
  have hDc := hD.sub (ws' := [(h0, .inr (12, fs0z_16)), (qt, .inl (cB, 4000, .inl fz_17))]) [0, 1] (by decide) rfl
  have hKc := hK.sub (tys' := [(cB, .byte)]) [0] rfl
  have hFc := va_free (wc := [(h0, .inr (12, fs0z_16)), (qt, .inl (cB, 4000, .inl fz_17))]) hD hS hA [0, 1] rfl
  refine va_callv (va_runV (As := [.int p2]) (rest := []) ⟨hx, hb, hml, hown, hts⟩ (c_X12_put l dC dI H.size cB h0 fs0z_16 qt fz_17 8 p2 (hF_23.sub [1, 0] rfl) (by decide)) (cwV 1 hts g_c_X12_feed_c_X12_put_27 rfl rfl rfl (by decide +kernel) ⟨Nat.le_of_ble_eq_true rfl, Nat.le_of_ble_eq_true rfl⟩) ⟨fun a U g mk q => by obtain ⟨q0, q1, qP, qK, qD⟩ := q; exact ⟨q0, q1, qP, va_K.moved (u := U) (U := U.calling g mk a) (Vm.Alike.refl U.vm) qK, qD⟩, va_recv hKc hPc (ci := 12) (q0 := 0) rfl rfl, fun U hU hW => ⟨rfl, by rw [hU], by rw [hU]; exact hPc, va_K.moved hW.alike hKc, hDc.weaken (fun _ _ _ _ => trivial)⟩⟩ rfl rfl hl.1 rfl (lv_room (Nat.le_of_ble_eq_true rfl)) dX12_feed_27 ⟨show 0 + 0 ≤ 0 by decide, show 0 + 0 ≤ 0 by decide⟩) hS (fun q _ h => hFc q h) hFc (fun u t H1 locs ht hvm hw hB hz1 hk1 hS => ?_)
  obtain ⟨fs0z_26, fz_27⟩ := u
  obtain ⟨hP1, hK1, hD1⟩ := hB
  rw [ht] at hP1
  have hK1 := va_K.moved hvm.symm hK1
  try dsimp only at hw hP1 hK1 hD1
  obtain ⟨hF_28, hE_29⟩ := hw
  obtain ⟨hP, hD⟩ := va_join (wr := []) (w1 := [(h0, .inr (12, fs0z_26)), (qt, .inl (cB, 4000, .inl fz_27))]) hP hD [0, 1] [] rfl rfl (by decide) (by decide) hk1 hFc hP1 hD1
  generalize H1 = H at hP hS ⊢
  have hK := (hK.sub (tys' := []) [] rfl).app hK1
  have hK : va_K (dC, dI) vwCl [(cB, .byte)] s := hK
  have hP : va_P (dC, dI) vwCl [(h0, .inr (12, fs0z_26)), (qt, .inl (cB, 4000, .inl fz_27))] H := hP
  have hD : va_D A [(h0, .inr (12, fs0z_26)), (qt, .inl (cB, 4000, .inl fz_27))] := hD
  have hF_30 := hF_23.same hE_29 (l' := [(0, .ref qt)]) rfl
  have hF_31 := hF_28.app hF_30
  have hE_32 := hE_22.trans hE_29
  refine lv_aload_n hx hb dX12_feed_30 rfl (lv_at hl 0 rfl) ?_
  refine lv_iload hx hb dX12_feed_31 (lv_at hl 4 rfl) ?_
  have hF_33 : hasF fs0z_26 14 [(11, .int (nI 12)), (0, .ref qt)] := hF_31
  have hPc := hP.sub (ws' := [(h0, .inr (12, fs0z_26)), (qt, .inl (cB, 4000, .inl fz_27))]) [0, 1] rfl
  have hDc := hD.sub (ws' := [(h0, .inr (12, fs0z_26)), (qt, .inl (cB, 4000, .inl fz_27))]) [0, 1] (by decide) rfl
  have hKc := hK.sub (tys' := [(cB, .byte)]) [0] rfl
  have hFc := va_free (wc := [(h0, .inr (12, fs0z_26)), (qt, .inl (cB, 4000, .inl fz_27))]) hD hS hA [0, 1] rfl
  refine va_callv (va_runV (As := [.int p3]) (rest := []) ⟨hx, hb, hml, hown, hts⟩ (c_X12_put l dC dI H.size cB h0 fs0z_26 qt fz_27 12 p3 (hF_33.sub [1, 0] rfl) (by decide)) (cwV 1 hts g_c_X12_feed_c_X12_put_33 rfl rfl rfl (by decide +kernel) ⟨Nat.le_of_ble_eq_true rfl, Nat.le_of_ble_eq_true rfl⟩) ⟨fun a U g mk q => by obtain ⟨q0, q1, qP, qK, qD⟩ := q; exact ⟨q0, q1, qP, va_K.moved (u := U) (U := U.calling g mk a) (Vm.Alike.refl U.vm) qK, qD⟩, va_recv hKc hPc (ci := 12) (q0 := 0) rfl rfl, fun U hU hW => ⟨rfl, by rw [hU], by rw [hU]; exact hPc, va_K.moved hW.alike hKc, hDc.weaken (fun _ _ _ _ => trivial)⟩⟩ rfl rfl hl.1 rfl (lv_room (Nat.le_of_ble_eq_true rfl)) dX12_feed_33 ⟨show 0 + 0 ≤ 0 by decide, show 0 + 0 ≤ 0 by decide⟩) hS (fun q _ h => hFc q h) hFc (fun u t H1 locs ht hvm hw hB hz1 hk1 hS => ?_)
  obtain ⟨fs0z_36, fz_37⟩ := u
  obtain ⟨hP1, hK1, hD1⟩ := hB
  rw [ht] at hP1
  have hK1 := va_K.moved hvm.symm hK1
  try dsimp only at hw hP1 hK1 hD1
  obtain ⟨hF_38, hE_39⟩ := hw
  obtain ⟨hP, hD⟩ := va_join (wr := []) (w1 := [(h0, .inr (12, fs0z_36)), (qt, .inl (cB, 4000, .inl fz_37))]) hP hD [0, 1] [] rfl rfl (by decide) (by decide) hk1 hFc hP1 hD1
  generalize H1 = H at hP hS ⊢
  have hK := (hK.sub (tys' := []) [] rfl).app hK1
  have hK : va_K (dC, dI) vwCl [(cB, .byte)] s := hK
  have hP : va_P (dC, dI) vwCl [(h0, .inr (12, fs0z_36)), (qt, .inl (cB, 4000, .inl fz_37))] H := hP
  have hD : va_D A [(h0, .inr (12, fs0z_36)), (qt, .inl (cB, 4000, .inl fz_37))] := hD
  have hF_40 := hF_33.same hE_39 (l' := [(0, .ref qt)]) rfl
  have hF_41 := hF_38.app hF_40
  have hE_42 := hE_32.trans hE_39
  refine lv_aload_n hx hb dX12_feed_36 rfl (lv_at hl 0 rfl) ?_
  refine lv_iload hx hb dX12_feed_37 (lv_at hl 5 rfl) ?_
  have hF_43 : hasF fs0z_36 14 [(11, .int (nI 16)), (0, .ref qt)] := hF_41
  have hPc := hP.sub (ws' := [(h0, .inr (12, fs0z_36)), (qt, .inl (cB, 4000, .inl fz_37))]) [0, 1] rfl
  have hDc := hD.sub (ws' := [(h0, .inr (12, fs0z_36)), (qt, .inl (cB, 4000, .inl fz_37))]) [0, 1] (by decide) rfl
  have hKc := hK.sub (tys' := [(cB, .byte)]) [0] rfl
  have hFc := va_free (wc := [(h0, .inr (12, fs0z_36)), (qt, .inl (cB, 4000, .inl fz_37))]) hD hS hA [0, 1] rfl
  refine va_callv (va_runV (As := [.int p4]) (rest := []) ⟨hx, hb, hml, hown, hts⟩ (c_X12_put l dC dI H.size cB h0 fs0z_36 qt fz_37 16 p4 (hF_43.sub [1, 0] rfl) (by decide)) (cwV 1 hts g_c_X12_feed_c_X12_put_39 rfl rfl rfl (by decide +kernel) ⟨Nat.le_of_ble_eq_true rfl, Nat.le_of_ble_eq_true rfl⟩) ⟨fun a U g mk q => by obtain ⟨q0, q1, qP, qK, qD⟩ := q; exact ⟨q0, q1, qP, va_K.moved (u := U) (U := U.calling g mk a) (Vm.Alike.refl U.vm) qK, qD⟩, va_recv hKc hPc (ci := 12) (q0 := 0) rfl rfl, fun U hU hW => ⟨rfl, by rw [hU], by rw [hU]; exact hPc, va_K.moved hW.alike hKc, hDc.weaken (fun _ _ _ _ => trivial)⟩⟩ rfl rfl hl.1 rfl (lv_room (Nat.le_of_ble_eq_true rfl)) dX12_feed_39 ⟨show 0 + 0 ≤ 0 by decide, show 0 + 0 ≤ 0 by decide⟩) hS (fun q _ h => hFc q h) hFc (fun u t H1 locs ht hvm hw hB hz1 hk1 hS => ?_)
  obtain ⟨fs0z_46, fz_47⟩ := u
  obtain ⟨hP1, hK1, hD1⟩ := hB
  rw [ht] at hP1
  have hK1 := va_K.moved hvm.symm hK1
  try dsimp only at hw hP1 hK1 hD1
  obtain ⟨hF_48, hE_49⟩ := hw
  obtain ⟨hP, hD⟩ := va_join (wr := []) (w1 := [(h0, .inr (12, fs0z_46)), (qt, .inl (cB, 4000, .inl fz_47))]) hP hD [0, 1] [] rfl rfl (by decide) (by decide) hk1 hFc hP1 hD1
  generalize H1 = H at hP hS ⊢
  have hK := (hK.sub (tys' := []) [] rfl).app hK1
  have hK : va_K (dC, dI) vwCl [(cB, .byte)] s := hK
  have hP : va_P (dC, dI) vwCl [(h0, .inr (12, fs0z_46)), (qt, .inl (cB, 4000, .inl fz_47))] H := hP
  have hD : va_D A [(h0, .inr (12, fs0z_46)), (qt, .inl (cB, 4000, .inl fz_47))] := hD
  have hF_50 := hF_43.same hE_49 (l' := [(0, .ref qt)]) rfl
  have hF_51 := hF_48.app hF_50
  have hE_52 := hE_42.trans hE_49
  refine lv_aload_n hx hb dX12_feed_42 rfl (lv_at hl 0 rfl) ?_
  refine va_get (D := (dC, dI)) (ci := 12) (v := .int (nI (16 + 4))) (C := RX12) (T := TX12) (N := 14) hx hb hts hin_X12 hown hK hP 0 rfl rfl 11 (by decide) (hts (.fieldLink RX12 99 "NeedHouse" "length" "I") (List.mem_of_getElem? (i := 1) rfl)) (fun _ h9 => h9) (hF_51.at 0 rfl) dX12_feed_43 ?_
  have hP9 := hP.sub (ws' := [(h0, .inr (12, fs0z_46)), (qt, .inl (cB, 4000, .inl fz_47))]) [0, 1] rfl
  have hD9 := hD.sub (ws' := [(h0, .inr (12, fs0z_46)), (qt, .inl (cB, 4000, .inl fz_47))]) [0, 1] (by decide) rfl
  have hK9 := hK.sub (tys' := [(cB, .byte)]) [0] rfl
  exact W.iret (v := nI (16 + 4)) hx hb hr (fun t ht hW => ⟨⟨nI (16 + 4), ((fs0z_46, fz_47)), rfl, ⟨rfl, hE_52.mono (by decide)⟩, by rw [ht]; exact hP9, va_K.moved hW.alike hK9, hD9⟩, hS.F ht⟩) hS.2.2 dX12_feed_46
def pw_c_X12_back : List Cond := .code yX12_back cX12_back 2 (some .int) :: ([.fieldLink RX12 99 "NeedHouse" "length" "I"] ++ (wsX120 ++ []))
set_option maxHeartbeats 4000000 in
set_option maxRecDepth 100000 in
theorem c_X12_back (l : Launch) (dC : Nat → ClassId) (dI : Nat → Nat → Nat) (sz : Nat) (h0 : Nat) (fs0 : List Value) (p0 : Int32) (hF0 : hasF fs0 14 [(11, .int 0)]) : Met l yX12_back pw_c_X12_back ({ frames := 0, cells := 0, slots := 0, locals := 0 }) (va_Pc [.ref h0, .int p0] (fun U => U.heap.size = sz ∧ va_P (dC, dI) vwCl [(h0, .inr (12, fs0))] U.heap ∧ va_K (dC, dI) vwCl [] U ∧ va_D (fun _ => True) [(h0, .inr (12, fs0))])) (va_Qi (fun (r : Int32) (u : (List Value)) => r = (if p0 < 0 ∨ ¬ p0 ≤ 0 then -1 else 0) ∧ sameF fs0 u [11]) (fun (u : (List Value)) (t : State) => va_P (dC, dI) vwCl [(h0, .inr (12, u))] t.heap ∧ va_K (dC, dI) vwCl [] t ∧ va_D (va_A [(h0, .inr (12, fs0))] sz) [(h0, .inr (12, u))]) (va_A [(h0, .inr (12, fs0))] sz)) 0 0 (va_A [(h0, .inr (12, fs0))] sz) := by
  refine Met.ofW (cc := cX12_back) (maxL := 2) (ret := (some .int)) (by decide) rfl ?_
  intro p e s m args below meth c s₁ B hml hv
  obtain ⟨rfl, hsz, hP, hK, hD0⟩ := hv
  have hx := B.exec
  have hb := B.bytes
  have hr := B.returns
  have hts := atoms_spec (ws := pw_c_X12_back) B.pre
  have hown : s.vm.findClass RX12 = some m.cls := findClass_of_methodNamed B.named
  have hlocks := B.notSynchronized
  have hin_X12 : ∀ w ∈ u_ws RX12 TX12 14, w ∈ pw_c_X12_back := fun w h => List.mem_cons_of_mem _ (List.mem_append_right _ (List.mem_append_left _ h))
  subst hsz
  have hD := hD0.self (sz := s.heap.size)
  generalize hAe : va_A [(h0, .inr (12, fs0))] s.heap.size = A at hD ⊢
  have hA : ∀ q : Nat, s.heap.size ≤ q → A q := fun q h => by rw [← hAe]; exact Or.inr h
  have hS : va_S A s.heap s.heap [] := va_S.rf
  have hP : va_P (dC, dI) vwCl [(h0, .inr (12, fs0))] s.heap := hP
  have hl := lv_entry ([.ref h0, .int p0]) (n := 2) (Nat.le_of_ble_eq_true rfl)
  rw [lg_entry_eq]
  generalize (lg_sl ([.ref h0, .int p0]) ++ List.replicate (2 - (lg_sl ([.ref h0, .int p0])).length) Slot.unset).toArray = ls at hl ⊢
  have hl : lv_has ls 2 [(0, .ref h0), (1, .int p0)] := hl
  refine lv_iload_n hx hb dX12_back_0 rfl (lv_at hl 1 rfl) ?_
  refine lv_if_lt (tgt := 12) hx hb dX12_back_1 (by decide) (fun c_1 => ?_) (fun c_1 => ?_)
  ·
    refine lv_iconst (v := (-1)) hx hb dX12_back_12 (by decide) ?_
    have hP9 := hP.sub (ws' := [(h0, .inr (12, fs0))]) [0] rfl
    have hD9 := hD.sub (ws' := [(h0, .inr (12, fs0))]) [0] (by decide) rfl
    have hK9 := hK.sub (tys' := []) [] rfl
    exact W.iret (v := (-1)) hx hb hr (fun t ht hW => ⟨⟨(-1), (fs0), rfl, ⟨(if_pos (Or.inl c_1)).symm, (sameF.rf (f := fs0)).mono (by decide)⟩, by rw [ht]; exact hP9, va_K.moved hW.alike hK9, hD9⟩, hS.F ht⟩) hS.2.2 dX12_back_13
  ·
    refine lv_iload_n hx hb dX12_back_4 rfl (lv_at hl 1 rfl) ?_
    refine lv_aload_n hx hb dX12_back_5 rfl (lv_at hl 0 rfl) ?_
    refine va_get (D := (dC, dI)) (ci := 12) (v := .int 0) (C := RX12) (T := TX12) (N := 14) hx hb hts hin_X12 hown hK hP 0 rfl rfl 11 (by decide) (hts (.fieldLink RX12 99 "NeedHouse" "length" "I") (List.mem_of_getElem? (i := 1) rfl)) (fun _ h9 => h9) (hF0.at 0 rfl) dX12_back_6 ?_
    refine lv_icmp_le (tgt := 14) hx hb dX12_back_9 (by decide) (fun c_2 => ?_) (fun c_2 => ?_)
    ·
      obtain rfl : p0 = 0 := Int32.le_antisymm c_2 (Int32.not_lt.mp c_1)
      refine lv_aload_n hx hb dX12_back_14 rfl (lv_at hl 0 rfl) ?_
      refine lv_dup hx hb dX12_back_15 rfl ?_
      refine va_get (D := (dC, dI)) (ci := 12) (v := .int 0) (C := RX12) (T := TX12) (N := 14) hx hb hts hin_X12 hown hK hP 0 rfl rfl 11 (by decide) (hts (.fieldLink RX12 99 "NeedHouse" "length" "I") (List.mem_of_getElem? (i := 1) rfl)) (fun _ h9 => h9) (hF0.at 0 rfl) dX12_back_16 ?_
      refine lv_iload_n hx hb dX12_back_19 rfl (lv_at hl 1 rfl) ?_
      refine lv_isub hx hb dX12_back_20 ?_
      refine lv_topi (fun x_3 ex_3 => ?_)
      obtain rfl : x_3 = 0 := ex_3.trans (by decide +kernel)
      refine va_put (D := (dC, dI)) (ci := 12) (v := .int 0) (ty := .int) (C := RX12) (T := TX12) (N := 14) hx hb hts hin_X12 tyX12 tyX12_ok nmX12 hown hK hP hD hS 0 rfl rfl 11 (by decide) (hts (.fieldLink RX12 99 "NeedHouse" "length" "I") (List.mem_of_getElem? (i := 1) rfl)) (fun _ h9 => h9) rfl (by decide +kernel) rfl rfl (by rw [hF0.1]; decide) dX12_back_21 (fun H locs hP hD hS => ?_)
      have hP : va_P (dC, dI) vwCl [(h0, .inr (12, (fs0.set 11 (.int 0))))] H := hP
      have hD : va_D A [(h0, .inr (12, (fs0.set 11 (.int 0))))] := hD
      have hF_4 := hF0.set 11 (.int 0) (l' := [(11, .int 0)]) (by decide) rfl
      have hE_5 := (sameF.rf (f := fs0)).set 11 (.int 0)
      generalize fs0.set 11 (.int 0) = fs_6 at hP hD hF_4 hE_5
      have hP : va_P (dC, dI) vwCl [(h0, .inr (12, fs_6))] H := hP
      have hD : va_D A [(h0, .inr (12, fs_6))] := hD
      refine lv_aload_n hx hb dX12_back_24 rfl (lv_at hl 0 rfl) ?_
      refine va_get (D := (dC, dI)) (ci := 12) (v := .int 0) (C := RX12) (T := TX12) (N := 14) hx hb hts hin_X12 hown hK hP 0 rfl rfl 11 (by decide) (hts (.fieldLink RX12 99 "NeedHouse" "length" "I") (List.mem_of_getElem? (i := 1) rfl)) (fun _ h9 => h9) (hF_4.at 0 rfl) dX12_back_25 ?_
      have hP9 := hP.sub (ws' := [(h0, .inr (12, fs_6))]) [0] rfl
      have hD9 := hD.sub (ws' := [(h0, .inr (12, fs_6))]) [0] (by decide) rfl
      have hK9 := hK.sub (tys' := []) [] rfl
      exact W.iret (v := 0) hx hb hr (fun t ht hW => ⟨⟨0, (fs_6), rfl, ⟨by decide, hE_5.mono (by decide)⟩, by rw [ht]; exact hP9, va_K.moved hW.alike hK9, hD9⟩, hS.F ht⟩) hS.2.2 dX12_back_28
    ·
      refine lv_iconst (v := (-1)) hx hb dX12_back_12 (by decide) ?_
      have hP9 := hP.sub (ws' := [(h0, .inr (12, fs0))]) [0] rfl
      have hD9 := hD.sub (ws' := [(h0, .inr (12, fs0))]) [0] (by decide) rfl
      have hK9 := hK.sub (tys' := []) [] rfl
      exact W.iret (v := (-1)) hx hb hr (fun t ht hW => ⟨⟨(-1), (fs0), rfl, ⟨(if_pos (Or.inr c_2)).symm, (sameF.rf (f := fs0)).mono (by decide)⟩, by rw [ht]; exact hP9, va_K.moved hW.alike hK9, hD9⟩, hS.F ht⟩) hS.2.2 dX12_back_13
def pw_c_X6_size : List Cond := .code yX6_size cX6_size 1 (some .int) :: ([.fieldLink RX6 19 "NeedHouse$Sheet" "size" "I"] ++ (wsX60 ++ []))
set_option maxHeartbeats 4000000 in
set_option maxRecDepth 100000 in
theorem c_X6_size (l : Launch) (dC : Nat → ClassId) (dI : Nat → Nat → Nat) (sz : Nat) (h0 : Nat) (fs0 : List Value) (hF0 : hasF fs0 3 [(2, .int 0)]) : Met l yX6_size pw_c_X6_size ({ frames := 0, cells := 0, slots := 0, locals := 0 }) (va_Pc [.ref h0] (fun U => U.heap.size = sz ∧ va_P (dC, dI) vwCl [(h0, .inr (6, fs0))] U.heap ∧ va_K (dC, dI) vwCl [] U ∧ va_D (fun _ => True) [(h0, .inr (6, fs0))])) (va_Qi (fun (r : Int32) (u : Unit) => r = 0) (fun (u : Unit) (t : State) => va_P (dC, dI) vwCl [(h0, .inr (6, fs0))] t.heap ∧ va_K (dC, dI) vwCl [] t ∧ va_D (va_A [(h0, .inr (6, fs0))] sz) [(h0, .inr (6, fs0))]) (va_A [(h0, .inr (6, fs0))] sz)) 0 0 (va_A [(h0, .inr (6, fs0))] sz) := by
  refine Met.ofW (cc := cX6_size) (maxL := 1) (ret := (some .int)) (by decide) rfl ?_
  intro p e s m args below meth c s₁ B hml hv
  obtain ⟨rfl, hsz, hP, hK, hD0⟩ := hv
  have hx := B.exec
  have hb := B.bytes
  have hr := B.returns
  have hts := atoms_spec (ws := pw_c_X6_size) B.pre
  have hown : s.vm.findClass RX6 = some m.cls := findClass_of_methodNamed B.named
  have hlocks := B.notSynchronized
  have hin_X6 : ∀ w ∈ u_ws RX6 TX6 3, w ∈ pw_c_X6_size := fun w h => List.mem_cons_of_mem _ (List.mem_append_right _ (List.mem_append_left _ h))
  subst hsz
  have hD := hD0.self (sz := s.heap.size)
  generalize hAe : va_A [(h0, .inr (6, fs0))] s.heap.size = A at hD ⊢
  have hA : ∀ q : Nat, s.heap.size ≤ q → A q := fun q h => by rw [← hAe]; exact Or.inr h
  have hS : va_S A s.heap s.heap [] := va_S.rf
  have hP : va_P (dC, dI) vwCl [(h0, .inr (6, fs0))] s.heap := hP
  have hl := lv_entry ([.ref h0]) (n := 1) (Nat.le_of_ble_eq_true rfl)
  rw [lg_entry_eq]
  generalize (lg_sl ([.ref h0]) ++ List.replicate (1 - (lg_sl ([.ref h0])).length) Slot.unset).toArray = ls at hl ⊢
  have hl : lv_has ls 1 [(0, .ref h0)] := hl
  refine lv_aload_n hx hb dX6_size_0 rfl (lv_at hl 0 rfl) ?_
  refine va_get (D := (dC, dI)) (ci := 6) (v := .int 0) (C := RX6) (T := TX6) (N := 3) hx hb hts hin_X6 hown hK hP 0 rfl rfl 2 (by decide) (hts (.fieldLink RX6 19 "NeedHouse$Sheet" "size" "I") (List.mem_of_getElem? (i := 1) rfl)) (fun _ h9 => h9) (hF0.at 0 rfl) dX6_size_1 ?_
  have hP9 := hP.sub (ws' := [(h0, .inr (6, fs0))]) [0] rfl
  have hD9 := hD.sub (ws' := [(h0, .inr (6, fs0))]) [0] (by decide) rfl
  have hK9 := hK.sub (tys' := []) [] rfl
  exact W.iret (v := 0) hx hb hr (fun t ht hW => ⟨⟨0, (()), rfl, rfl, by rw [ht]; exact hP9, va_K.moved hW.alike hK9, hD9⟩, hS.F ht⟩) hS.2.2 dX6_size_4
def pw_c_X3_counted : List Cond := .code yX3_counted cX3_counted 2 (some .int) :: ([.fieldLink RX3 49 "NeedHouse$Machine" "state" "I", .fieldLink RX3 56 "NeedHouse$Machine" "steps" "I", .fieldLink RX3 59 "NeedHouse$Machine" "made" "I", .fieldLink RX3 62 "NeedHouse$Machine" "got" "I", .fieldLink RX3 45 "NeedHouse$Machine" "text" "LNeedHouse$Sheet;", .methodLink RX3 163 yX6_size, .instanceMethod yX6_size, .selects RX6 yX6_size yX6_size, .initialized RX6, .code yX6_size cX6_size 1 (some .int), .fieldLink RX6 19 "NeedHouse$Sheet" "size" "I", .fieldLink RX3 53 "NeedHouse$Machine" "outputs" "I"] ++ (wsX30 ++ (wsX60 ++ [])))
set_option maxRecDepth 20000 in
theorem g_c_X3_counted_c_X6_size_108 : GoodIn pw_c_X3_counted (wsV RX3 163 RX6 yX6_size pw_c_X6_size) := goodIn_r _ [6, 7, 8, 9, 10, 11, 27, 28, 29] rfl (by decide +kernel)
set_option maxHeartbeats 4000000 in
set_option maxRecDepth 100000 in
theorem c_X3_counted (l : Launch) (dC : Nat → ClassId) (dI : Nat → Nat → Nat) (sz : Nat) (h0 : Nat) (fs0 : List Value) (qx : Nat) (fsx : List Value) (p0 : Int32) (hF0 : hasF fs0 14 [(8, .int 0), (9, .int 0), (10, .int 0), (11, .int 0), (7, .int 0), (5, .ref qx)]) (hFx : hasF fsx 3 [(2, .int 0)]) : Met l yX3_counted pw_c_X3_counted ({ frames := 1, cells := 0, slots := 0, locals := 20 }) (va_Pc [.ref h0, .int p0] (fun U => U.heap.size = sz ∧ va_P (dC, dI) vwCl [(h0, .inr (3, fs0)), (qx, .inr (6, fsx))] U.heap ∧ va_K (dC, dI) vwCl [] U ∧ va_D (fun _ => True) [(h0, .inr (3, fs0)), (qx, .inr (6, fsx))])) (va_Qi (fun (r : Int32) (u : Unit) => r = 0) (fun (u : Unit) (t : State) => va_P (dC, dI) vwCl [(h0, .inr (3, fs0)), (qx, .inr (6, fsx))] t.heap ∧ va_K (dC, dI) vwCl [] t ∧ va_D (va_A [(h0, .inr (3, fs0)), (qx, .inr (6, fsx))] sz) [(h0, .inr (3, fs0)), (qx, .inr (6, fsx))]) (va_A [(h0, .inr (3, fs0)), (qx, .inr (6, fsx))] sz)) 0 0 (va_A [(h0, .inr (3, fs0)), (qx, .inr (6, fsx))] sz) := by
  refine Met.ofW (cc := cX3_counted) (maxL := 2) (ret := (some .int)) (by decide) rfl ?_
  intro p e s m args below meth c s₁ B hml hv
  obtain ⟨rfl, hsz, hP, hK, hD0⟩ := hv
  have hx := B.exec
  have hb := B.bytes
  have hr := B.returns
  have hts := atoms_spec (ws := pw_c_X3_counted) B.pre
  have hown : s.vm.findClass RX3 = some m.cls := findClass_of_methodNamed B.named
  have hlocks := B.notSynchronized
  have hin_X3 : ∀ w ∈ u_ws RX3 TX3 14, w ∈ pw_c_X3_counted := fun w h => List.mem_cons_of_mem _ (List.mem_append_right _ (List.mem_append_left _ h))
  have hin_X6 : ∀ w ∈ u_ws RX6 TX6 3, w ∈ pw_c_X3_counted := fun w h => List.mem_cons_of_mem _ (List.mem_append_right _ (List.mem_append_right _ (List.mem_append_left _ h)))
  subst hsz
  have hD := hD0.self (sz := s.heap.size)
  generalize hAe : va_A [(h0, .inr (3, fs0)), (qx, .inr (6, fsx))] s.heap.size = A at hD ⊢
  have hA : ∀ q : Nat, s.heap.size ≤ q → A q := fun q h => by rw [← hAe]; exact Or.inr h
  have hS : va_S A s.heap s.heap [] := va_S.rf
  have hP : va_P (dC, dI) vwCl [(h0, .inr (3, fs0)), (qx, .inr (6, fsx))] s.heap := hP
  have hl := lv_entry ([.ref h0, .int p0]) (n := 2) (Nat.le_of_ble_eq_true rfl)
  rw [lg_entry_eq]
  generalize (lg_sl ([.ref h0, .int p0]) ++ List.replicate (2 - (lg_sl ([.ref h0, .int p0])).length) Slot.unset).toArray = ls at hl ⊢
  have hl : lv_has ls 2 [(0, .ref h0), (1, .int p0)] := hl
  refine lv_iload_n hx hb dX3_counted_0 rfl (lv_at hl 1 rfl) ?_
  by_cases hs_1 : p0 = 5
  ·
    obtain rfl := hs_1
    refine lv_tableIn (off := 43) (tgt := 44) hx hb dX3_counted_1 (by decide) (by decide) (by decide) (by decide) ?_
    refine lv_aload_n hx hb dX3_counted_44 rfl (lv_at hl 0 rfl) ?_
    refine va_get (D := (dC, dI)) (ci := 3) (v := .int 0) (C := RX3) (T := TX3) (N := 14) hx hb hts hin_X3 hown hK hP 0 rfl rfl 8 (by decide) (hts (.fieldLink RX3 49 "NeedHouse$Machine" "state" "I") (List.mem_of_getElem? (i := 1) rfl)) (fun _ h9 => h9) (hF0.at 0 rfl) dX3_counted_45 ?_
    have hP9 := hP.sub (ws' := [(h0, .inr (3, fs0)), (qx, .inr (6, fsx))]) [0, 1] rfl
    have hD9 := hD.sub (ws' := [(h0, .inr (3, fs0)), (qx, .inr (6, fsx))]) [0, 1] (by decide) rfl
    have hK9 := hK.sub (tys' := []) [] rfl
    exact W.iret (v := 0) hx hb hr (fun t ht hW => ⟨⟨0, (()), rfl, rfl, by rw [ht]; exact hP9, va_K.moved hW.alike hK9, hD9⟩, hS.F ht⟩) hS.2.2 dX3_counted_48
  by_cases hs_2 : p0 = 6
  ·
    obtain rfl := hs_2
    refine lv_tableIn (off := 48) (tgt := 49) hx hb dX3_counted_1 (by decide) (by decide) (by decide) (by decide) ?_
    refine lv_aload_n hx hb dX3_counted_49 rfl (lv_at hl 0 rfl) ?_
    refine va_get (D := (dC, dI)) (ci := 3) (v := .int 0) (C := RX3) (T := TX3) (N := 14) hx hb hts hin_X3 hown hK hP 0 rfl rfl 9 (by decide) (hts (.fieldLink RX3 56 "NeedHouse$Machine" "steps" "I") (List.mem_of_getElem? (i := 2) rfl)) (fun _ h9 => h9) (hF0.at 1 rfl) dX3_counted_50 ?_
    have hP9 := hP.sub (ws' := [(h0, .inr (3, fs0)), (qx, .inr (6, fsx))]) [0, 1] rfl
    have hD9 := hD.sub (ws' := [(h0, .inr (3, fs0)), (qx, .inr (6, fsx))]) [0, 1] (by decide) rfl
    have hK9 := hK.sub (tys' := []) [] rfl
    exact W.iret (v := 0) hx hb hr (fun t ht hW => ⟨⟨0, (()), rfl, rfl, by rw [ht]; exact hP9, va_K.moved hW.alike hK9, hD9⟩, hS.F ht⟩) hS.2.2 dX3_counted_53
  by_cases hs_3 : p0 = 7
  ·
    obtain rfl := hs_3
    refine lv_tableIn (off := 53) (tgt := 54) hx hb dX3_counted_1 (by decide) (by decide) (by decide) (by decide) ?_
    refine lv_aload_n hx hb dX3_counted_54 rfl (lv_at hl 0 rfl) ?_
    refine va_get (D := (dC, dI)) (ci := 3) (v := .int 0) (C := RX3) (T := TX3) (N := 14) hx hb hts hin_X3 hown hK hP 0 rfl rfl 10 (by decide) (hts (.fieldLink RX3 59 "NeedHouse$Machine" "made" "I") (List.mem_of_getElem? (i := 3) rfl)) (fun _ h9 => h9) (hF0.at 2 rfl) dX3_counted_55 ?_
    have hP9 := hP.sub (ws' := [(h0, .inr (3, fs0)), (qx, .inr (6, fsx))]) [0, 1] rfl
    have hD9 := hD.sub (ws' := [(h0, .inr (3, fs0)), (qx, .inr (6, fsx))]) [0, 1] (by decide) rfl
    have hK9 := hK.sub (tys' := []) [] rfl
    exact W.iret (v := 0) hx hb hr (fun t ht hW => ⟨⟨0, (()), rfl, rfl, by rw [ht]; exact hP9, va_K.moved hW.alike hK9, hD9⟩, hS.F ht⟩) hS.2.2 dX3_counted_58
  by_cases hs_4 : p0 = 8
  ·
    obtain rfl := hs_4
    refine lv_tableIn (off := 58) (tgt := 59) hx hb dX3_counted_1 (by decide) (by decide) (by decide) (by decide) ?_
    refine lv_aload_n hx hb dX3_counted_59 rfl (lv_at hl 0 rfl) ?_
    refine va_get (D := (dC, dI)) (ci := 3) (v := .int 0) (C := RX3) (T := TX3) (N := 14) hx hb hts hin_X3 hown hK hP 0 rfl rfl 11 (by decide) (hts (.fieldLink RX3 62 "NeedHouse$Machine" "got" "I") (List.mem_of_getElem? (i := 4) rfl)) (fun _ h9 => h9) (hF0.at 3 rfl) dX3_counted_60 ?_
    have hP9 := hP.sub (ws' := [(h0, .inr (3, fs0)), (qx, .inr (6, fsx))]) [0, 1] rfl
    have hD9 := hD.sub (ws' := [(h0, .inr (3, fs0)), (qx, .inr (6, fsx))]) [0, 1] (by decide) rfl
    have hK9 := hK.sub (tys' := []) [] rfl
    exact W.iret (v := 0) hx hb hr (fun t ht hW => ⟨⟨0, (()), rfl, rfl, by rw [ht]; exact hP9, va_K.moved hW.alike hK9, hD9⟩, hS.F ht⟩) hS.2.2 dX3_counted_63
  by_cases hs_5 : p0 = 9
  ·
    obtain rfl := hs_5
    refine lv_tableIn (off := 63) (tgt := 64) hx hb dX3_counted_1 (by decide) (by decide) (by decide) (by decide) ?_
    refine lv_aload_n hx hb dX3_counted_64 rfl (lv_at hl 0 rfl) ?_
    refine va_get (D := (dC, dI)) (ci := 3) (v := .int 0) (C := RX3) (T := TX3) (N := 14) hx hb hts hin_X3 hown hK hP 0 rfl rfl 8 (by decide) (hts (.fieldLink RX3 49 "NeedHouse$Machine" "state" "I") (List.mem_of_getElem? (i := 1) rfl)) (fun _ h9 => h9) (hF0.at 0 rfl) dX3_counted_65 ?_
    refine lv_iconst (v := 1) hx hb dX3_counted_68 (by decide) ?_
    refine lv_icmp_ne (tgt := 82) hx hb dX3_counted_69 (by decide) (fun _ => ?_) (fun c_6 => absurd c_6 (by decide))
    refine lv_iconst (v := 0) hx hb dX3_counted_82 (by decide) ?_
    have hP9 := hP.sub (ws' := [(h0, .inr (3, fs0)), (qx, .inr (6, fsx))]) [0, 1] rfl
    have hD9 := hD.sub (ws' := [(h0, .inr (3, fs0)), (qx, .inr (6, fsx))]) [0, 1] (by decide) rfl
    have hK9 := hK.sub (tys' := []) [] rfl
    exact W.iret (v := 0) hx hb hr (fun t ht hW => ⟨⟨0, (()), rfl, rfl, by rw [ht]; exact hP9, va_K.moved hW.alike hK9, hD9⟩, hS.F ht⟩) hS.2.2 dX3_counted_83
  by_cases hs_7 : p0 = 10
  ·
    obtain rfl := hs_7
    refine lv_tableIn (off := 83) (tgt := 84) hx hb dX3_counted_1 (by decide) (by decide) (by decide) (by decide) ?_
    refine lv_aload_n hx hb dX3_counted_84 rfl (lv_at hl 0 rfl) ?_
    refine va_get (D := (dC, dI)) (ci := 3) (v := .int 0) (C := RX3) (T := TX3) (N := 14) hx hb hts hin_X3 hown hK hP 0 rfl rfl 8 (by decide) (hts (.fieldLink RX3 49 "NeedHouse$Machine" "state" "I") (List.mem_of_getElem? (i := 1) rfl)) (fun _ h9 => h9) (hF0.at 0 rfl) dX3_counted_85 ?_
    refine lv_iconst (v := 1) hx hb dX3_counted_88 (by decide) ?_
    refine lv_icmp_ne (tgt := 102) hx hb dX3_counted_89 (by decide) (fun _ => ?_) (fun c_8 => absurd c_8 (by decide))
    refine lv_iconst (v := 0) hx hb dX3_counted_102 (by decide) ?_
    have hP9 := hP.sub (ws' := [(h0, .inr (3, fs0)), (qx, .inr (6, fsx))]) [0, 1] rfl
    have hD9 := hD.sub (ws' := [(h0, .inr (3, fs0)), (qx, .inr (6, fsx))]) [0, 1] (by decide) rfl
    have hK9 := hK.sub (tys' := []) [] rfl
    exact W.iret (v := 0) hx hb hr (fun t ht hW => ⟨⟨0, (()), rfl, rfl, by rw [ht]; exact hP9, va_K.moved hW.alike hK9, hD9⟩, hS.F ht⟩) hS.2.2 dX3_counted_103
  by_cases hs_9 : p0 = 11
  ·
    obtain rfl := hs_9
    refine lv_tableIn (off := 103) (tgt := 104) hx hb dX3_counted_1 (by decide) (by decide) (by decide) (by decide) ?_
    refine lv_aload_n hx hb dX3_counted_104 rfl (lv_at hl 0 rfl) ?_
    refine va_get (D := (dC, dI)) (ci := 3) (v := .ref qx) (C := RX3) (T := TX3) (N := 14) hx hb hts hin_X3 hown hK hP 0 rfl rfl 5 (by decide) (hts (.fieldLink RX3 45 "NeedHouse$Machine" "text" "LNeedHouse$Sheet;") (List.mem_of_getElem? (i := 5) rfl)) (fun _ h9 => h9) (hF0.at 5 rfl) dX3_counted_105 ?_
    have hPc := hP.sub (ws' := [(qx, .inr (6, fsx))]) [1] rfl
    have hDc := hD.sub (ws' := [(qx, .inr (6, fsx))]) [1] (by decide) rfl
    have hKc := hK.sub (tys' := []) [] rfl
    have hFc := va_free (wc := [(qx, .inr (6, fsx))]) hD hS hA [1] rfl
    refine va_calli (va_runV (As := []) (rest := []) ⟨hx, hb, hml, hown, hts⟩ (c_X6_size l dC dI s.heap.size qx fsx (hFx.sub [0] rfl)) (cwV 0 hts g_c_X3_counted_c_X6_size_108 rfl rfl rfl (by decide +kernel) ⟨Nat.le_of_ble_eq_true rfl, Nat.le_of_ble_eq_true rfl⟩) ⟨fun a U g mk q => by obtain ⟨q0, q1, qP, qK, qD⟩ := q; exact ⟨q0, q1, qP, va_K.moved (u := U) (U := U.calling g mk a) (Vm.Alike.refl U.vm) qK, qD⟩, va_recv hKc hPc (ci := 6) (q0 := 0) rfl rfl, fun U hU hW => ⟨rfl, by rw [hU], by rw [hU]; exact hPc, va_K.moved hW.alike hKc, hDc.weaken (fun _ _ _ _ => trivial)⟩⟩ rfl rfl hl.1 rfl (lv_room (Nat.le_of_ble_eq_true rfl)) dX3_counted_108 ⟨show 0 + 0 ≤ 0 by decide, show 0 + 0 ≤ 0 by decide⟩) hS (fun q _ h => hFc q h) hFc (fun r_10 u t H1 locs ht hvm hw hB hz1 hk1 hS => ?_)
    obtain ⟨hP1, hK1, hD1⟩ := hB
    rw [ht] at hP1
    have hK1 := va_K.moved hvm.symm hK1
    try dsimp only at hw hP1 hK1 hD1
    have hr_12 := hw
    obtain ⟨hP, hD⟩ := va_join (wr := [(h0, .inr (3, fs0))]) (w1 := [(qx, .inr (6, fsx))]) hP hD [1] [0] rfl rfl (by decide) (by decide) hk1 hFc hP1 hD1
    generalize H1 = H at hP hS ⊢
    have hK := (hK.sub (tys' := []) [] rfl).app hK1
    have hK : va_K (dC, dI) vwCl [] s := hK
    have hP : va_P (dC, dI) vwCl [(h0, .inr (3, fs0)), (qx, .inr (6, fsx))] H := hP
    have hD : va_D A [(h0, .inr (3, fs0)), (qx, .inr (6, fsx))] := hD
    subst hr_12
    have hP9 := hP.sub (ws' := [(h0, .inr (3, fs0)), (qx, .inr (6, fsx))]) [0, 1] rfl
    have hD9 := hD.sub (ws' := [(h0, .inr (3, fs0)), (qx, .inr (6, fsx))]) [0, 1] (by decide) rfl
    have hK9 := hK.sub (tys' := []) [] rfl
    exact W.iret (v := 0) hx hb hr (fun t ht hW => ⟨⟨0, (()), rfl, rfl, by rw [ht]; exact hP9, va_K.moved hW.alike hK9, hD9⟩, hS.F ht⟩) hS.2.2 dX3_counted_111
  refine lv_tableOut (tgt := 112) hx hb dX3_counted_1 (sw_out (fun k h1 h2 ek => ?_)) (by decide) ?_
  · rcases (show k = 5 ∨ k = 6 ∨ k = 7 ∨ k = 8 ∨ k = 9 ∨ k = 10 ∨ k = 11 by omega) with rfl | rfl | rfl | rfl | rfl | rfl | rfl
    · exact hs_1 ek
    · exact hs_2 ek
    · exact hs_3 ek
    · exact hs_4 ek
    · exact hs_5 ek
    · exact hs_7 ek
    · exact hs_9 ek
  refine lv_aload_n hx hb dX3_counted_112 rfl (lv_at hl 0 rfl) ?_
  refine va_get (D := (dC, dI)) (ci := 3) (v := .int 0) (C := RX3) (T := TX3) (N := 14) hx hb hts hin_X3 hown hK hP 0 rfl rfl 7 (by decide) (hts (.fieldLink RX3 53 "NeedHouse$Machine" "outputs" "I") (List.mem_of_getElem? (i := 12) rfl)) (fun _ h9 => h9) (hF0.at 4 rfl) dX3_counted_113 ?_
  have hP9 := hP.sub (ws' := [(h0, .inr (3, fs0)), (qx, .inr (6, fsx))]) [0, 1] rfl
  have hD9 := hD.sub (ws' := [(h0, .inr (3, fs0)), (qx, .inr (6, fsx))]) [0, 1] (by decide) rfl
  have hK9 := hK.sub (tys' := []) [] rfl
  exact W.iret (v := 0) hx hb hr (fun t ht hW => ⟨⟨0, (()), rfl, rfl, by rw [ht]; exact hP9, va_K.moved hW.alike hK9, hD9⟩, hS.F ht⟩) hS.2.2 dX3_counted_116
def pw_c_X12_count : List Cond := .code yX12_count cX12_count 2 (some .int) :: ([.fieldLink RX12 106 "NeedHouse" "ready" "Z", .fieldLink RX12 86 "NeedHouse" "machine" "LNeedHouse$Machine;", .methodLink RX12 171 yX3_counted, .instanceMethod yX3_counted, .selects RX3 yX3_counted yX3_counted, .initialized RX3, .code yX3_counted cX3_counted 2 (some .int), .fieldLink RX3 49 "NeedHouse$Machine" "state" "I", .fieldLink RX3 56 "NeedHouse$Machine" "steps" "I", .fieldLink RX3 59 "NeedHouse$Machine" "made" "I", .fieldLink RX3 62 "NeedHouse$Machine" "got" "I", .fieldLink RX3 45 "NeedHouse$Machine" "text" "LNeedHouse$Sheet;", .methodLink RX3 163 yX6_size, .instanceMethod yX6_size, .selects RX6 yX6_size yX6_size, .initialized RX6, .code yX6_size cX6_size 1 (some .int), .fieldLink RX6 19 "NeedHouse$Sheet" "size" "I", .fieldLink RX3 53 "NeedHouse$Machine" "outputs" "I"] ++ (wsX120 ++ (wsX30 ++ (wsX60 ++ []))))
set_option maxRecDepth 20000 in
theorem g_c_X12_count_c_X3_counted_22 : GoodIn pw_c_X12_count (wsV RX12 171 RX3 yX3_counted pw_c_X3_counted) := goodIn_r _ [3, 4, 5, 6, 7, 8, 9, 10, 11, 12, 13, 14, 15, 16, 17, 18, 19, 34, 35, 36, 37, 38, 39, 40, 41, 42, 43, 44, 45, 46, 47, 48, 49, 50] rfl (by decide +kernel)
set_option maxHeartbeats 4000000 in
set_option maxRecDepth 100000 in
theorem c_X12_count (l : Launch) (dC : Nat → ClassId) (dI : Nat → Nat → Nat) (sz : Nat) (h0 : Nat) (fs0 : List Value) (qm : Nat) (fsm : List Value) (qx : Nat) (fsx : List Value) (p0 : Int32) (hF0 : hasF fs0 14 [(9, .ref qm), (13, .int 0)]) (hFm : hasF fsm 14 [(8, .int 0), (9, .int 0), (10, .int 0), (11, .int 0), (7, .int 0), (5, .ref qx)]) (hFx : hasF fsx 3 [(2, .int 0)]) : Met l yX12_count pw_c_X12_count ({ frames := 2, cells := 0, slots := 0, locals := 41 }) (va_Pc [.ref h0, .int p0] (fun U => U.heap.size = sz ∧ va_P (dC, dI) vwCl [(h0, .inr (12, fs0)), (qm, .inr (3, fsm)), (qx, .inr (6, fsx))] U.heap ∧ va_K (dC, dI) vwCl [] U ∧ va_D (fun _ => True) [(h0, .inr (12, fs0)), (qm, .inr (3, fsm)), (qx, .inr (6, fsx))])) (va_Qi (fun (r : Int32) (u : Unit) => r = (if p0 < 0 ∨ ¬ p0 ≤ 12 then -1 else 0)) (fun (u : Unit) (t : State) => va_P (dC, dI) vwCl [(h0, .inr (12, fs0)), (qm, .inr (3, fsm)), (qx, .inr (6, fsx))] t.heap ∧ va_K (dC, dI) vwCl [] t ∧ va_D (va_A [(h0, .inr (12, fs0)), (qm, .inr (3, fsm)), (qx, .inr (6, fsx))] sz) [(h0, .inr (12, fs0)), (qm, .inr (3, fsm)), (qx, .inr (6, fsx))]) (va_A [(h0, .inr (12, fs0)), (qm, .inr (3, fsm)), (qx, .inr (6, fsx))] sz)) 0 0 (va_A [(h0, .inr (12, fs0)), (qm, .inr (3, fsm)), (qx, .inr (6, fsx))] sz) := by
  refine Met.ofW (cc := cX12_count) (maxL := 2) (ret := (some .int)) (by decide) rfl ?_
  intro p e s m args below meth c s₁ B hml hv
  obtain ⟨rfl, hsz, hP, hK, hD0⟩ := hv
  have hx := B.exec
  have hb := B.bytes
  have hr := B.returns
  have hts := atoms_spec (ws := pw_c_X12_count) B.pre
  have hown : s.vm.findClass RX12 = some m.cls := findClass_of_methodNamed B.named
  have hlocks := B.notSynchronized
  have hin_X12 : ∀ w ∈ u_ws RX12 TX12 14, w ∈ pw_c_X12_count := fun w h => List.mem_cons_of_mem _ (List.mem_append_right _ (List.mem_append_left _ h))
  have hin_X3 : ∀ w ∈ u_ws RX3 TX3 14, w ∈ pw_c_X12_count := fun w h => List.mem_cons_of_mem _ (List.mem_append_right _ (List.mem_append_right _ (List.mem_append_left _ h)))
  have hin_X6 : ∀ w ∈ u_ws RX6 TX6 3, w ∈ pw_c_X12_count := fun w h => List.mem_cons_of_mem _ (List.mem_append_right _ (List.mem_append_right _ (List.mem_append_right _ (List.mem_append_left _ h))))
  subst hsz
  have hD := hD0.self (sz := s.heap.size)
  generalize hAe : va_A [(h0, .inr (12, fs0)), (qm, .inr (3, fsm)), (qx, .inr (6, fsx))] s.heap.size = A at hD ⊢
  have hA : ∀ q : Nat, s.heap.size ≤ q → A q := fun q h => by rw [← hAe]; exact Or.inr h
  have hS : va_S A s.heap s.heap [] := va_S.rf
  have hP : va_P (dC, dI) vwCl [(h0, .inr (12, fs0)), (qm, .inr (3, fsm)), (qx, .inr (6, fsx))] s.heap := hP
  have hl := lv_entry ([.ref h0, .int p0]) (n := 2) (Nat.le_of_ble_eq_true rfl)
  rw [lg_entry_eq]
  generalize (lg_sl ([.ref h0, .int p0]) ++ List.replicate (2 - (lg_sl ([.ref h0, .int p0])).length) Slot.unset).toArray = ls at hl ⊢
  have hl : lv_has ls 2 [(0, .ref h0), (1, .int p0)] := hl
  refine lv_iload_n hx hb dX12_count_0 rfl (lv_at hl 1 rfl) ?_
  refine lv_if_lt (tgt := 10) hx hb dX12_count_1 (by decide) (fun c_1 => ?_) (fun c_1 => ?_)
  ·
    refine lv_iconst (v := (-1)) hx hb dX12_count_10 (by decide) ?_
    have hP9 := hP.sub (ws' := [(h0, .inr (12, fs0)), (qm, .inr (3, fsm)), (qx, .inr (6, fsx))]) [0, 1, 2] rfl
    have hD9 := hD.sub (ws' := [(h0, .inr (12, fs0)), (qm, .inr (3, fsm)), (qx, .inr (6, fsx))]) [0, 1, 2] (by decide) rfl
    have hK9 := hK.sub (tys' := []) [] rfl
    exact W.iret (v := (-1)) hx hb hr (fun t ht hW => ⟨⟨(-1), (()), rfl, (if_pos (Or.inl c_1)).symm, by rw [ht]; exact hP9, va_K.moved hW.alike hK9, hD9⟩, hS.F ht⟩) hS.2.2 dX12_count_11
  ·
    refine lv_iload_n hx hb dX12_count_4 rfl (lv_at hl 1 rfl) ?_
    refine lv_bipush (v := 12) hx hb dX12_count_5 (by decide) ?_
    refine lv_icmp_le (tgt := 12) hx hb dX12_count_7 (by decide) (fun c_2 => ?_) (fun c_2 => ?_)
    ·
      refine lv_iload_n hx hb dX12_count_12 rfl (lv_at hl 1 rfl) ?_
      refine lv_iconst (v := 5) hx hb dX12_count_13 (by decide) ?_
      refine lv_icmp_lt (tgt := 26) hx hb dX12_count_14 (by decide) (fun c_3 => ?_) (fun c_3 => ?_)
      ·
        refine lv_aload_n hx hb dX12_count_26 rfl (lv_at hl 0 rfl) ?_
        refine va_get (D := (dC, dI)) (ci := 12) (v := .int 0) (C := RX12) (T := TX12) (N := 14) hx hb hts hin_X12 hown hK hP 0 rfl rfl 13 (by decide) (hts (.fieldLink RX12 106 "NeedHouse" "ready" "Z") (List.mem_of_getElem? (i := 1) rfl)) (fun _ h9 => h9) (hF0.at 1 rfl) dX12_count_27 ?_
        refine lv_if_ne (tgt := 35) hx hb dX12_count_30 (by decide) (fun c_4 => absurd c_4 (by decide)) (fun _ => ?_)
        refine lv_iconst (v := 0) hx hb dX12_count_33 (by decide) ?_
        have hP9 := hP.sub (ws' := [(h0, .inr (12, fs0)), (qm, .inr (3, fsm)), (qx, .inr (6, fsx))]) [0, 1, 2] rfl
        have hD9 := hD.sub (ws' := [(h0, .inr (12, fs0)), (qm, .inr (3, fsm)), (qx, .inr (6, fsx))]) [0, 1, 2] (by decide) rfl
        have hK9 := hK.sub (tys' := []) [] rfl
        exact W.iret (v := 0) hx hb hr (fun t ht hW => ⟨⟨0, (()), rfl, (if_neg (fun z => z.elim c_1 (fun k => k c_2))).symm, by rw [ht]; exact hP9, va_K.moved hW.alike hK9, hD9⟩, hS.F ht⟩) hS.2.2 dX12_count_34
      ·
        refine lv_aload_n hx hb dX12_count_17 rfl (lv_at hl 0 rfl) ?_
        refine va_get (D := (dC, dI)) (ci := 12) (v := .ref qm) (C := RX12) (T := TX12) (N := 14) hx hb hts hin_X12 hown hK hP 0 rfl rfl 9 (by decide) (hts (.fieldLink RX12 86 "NeedHouse" "machine" "LNeedHouse$Machine;") (List.mem_of_getElem? (i := 2) rfl)) (fun _ h9 => h9) (hF0.at 0 rfl) dX12_count_18 ?_
        refine lv_iload_n hx hb dX12_count_21 rfl (lv_at hl 1 rfl) ?_
        have hPc := hP.sub (ws' := [(qm, .inr (3, fsm)), (qx, .inr (6, fsx))]) [1, 2] rfl
        have hDc := hD.sub (ws' := [(qm, .inr (3, fsm)), (qx, .inr (6, fsx))]) [1, 2] (by decide) rfl
        have hKc := hK.sub (tys' := []) [] rfl
        have hFc := va_free (wc := [(qm, .inr (3, fsm)), (qx, .inr (6, fsx))]) hD hS hA [1, 2] rfl
        refine va_calli (va_runV (As := [.int p0]) (rest := []) ⟨hx, hb, hml, hown, hts⟩ (c_X3_counted l dC dI s.heap.size qm fsm qx fsx p0 (hFm.sub [0, 1, 2, 3, 4, 5] rfl) (hFx.sub [0] rfl)) (cwV 1 hts g_c_X12_count_c_X3_counted_22 rfl rfl rfl (by decide +kernel) ⟨Nat.le_of_ble_eq_true rfl, Nat.le_of_ble_eq_true rfl⟩) ⟨fun a U g mk q => by obtain ⟨q0, q1, qP, qK, qD⟩ := q; exact ⟨q0, q1, qP, va_K.moved (u := U) (U := U.calling g mk a) (Vm.Alike.refl U.vm) qK, qD⟩, va_recv hKc hPc (ci := 3) (q0 := 0) rfl rfl, fun U hU hW => ⟨rfl, by rw [hU], by rw [hU]; exact hPc, va_K.moved hW.alike hKc, hDc.weaken (fun _ _ _ _ => trivial)⟩⟩ rfl rfl hl.1 rfl (lv_room (Nat.le_of_ble_eq_true rfl)) dX12_count_22 ⟨show 0 + 0 ≤ 0 by decide, show 0 + 0 ≤ 0 by decide⟩) hS (fun q _ h => hFc q h) hFc (fun r_5 u t H1 locs ht hvm hw hB hz1 hk1 hS => ?_)
        obtain ⟨hP1, hK1, hD1⟩ := hB
        rw [ht] at hP1
        have hK1 := va_K.moved hvm.symm hK1
        try dsimp only at hw hP1 hK1 hD1
        have hr_7 := hw
        obtain ⟨hP, hD⟩ := va_join (wr := [(h0, .inr (12, fs0))]) (w1 := [(qm, .inr (3, fsm)), (qx, .inr (6, fsx))]) hP hD [1, 2] [0] rfl rfl (by decide) (by decide) hk1 hFc hP1 hD1
        generalize H1 = H at hP hS ⊢
        have hK := (hK.sub (tys' := []) [] rfl).app hK1
        have hK : va_K (dC, dI) vwCl [] s := hK
        have hP : va_P (dC, dI) vwCl [(h0, .inr (12, fs0)), (qm, .inr (3, fsm)), (qx, .inr (6, fsx))] H := hP
        have hD : va_D A [(h0, .inr (12, fs0)), (qm, .inr (3, fsm)), (qx, .inr (6, fsx))] := hD
        subst hr_7
        have hP9 := hP.sub (ws' := [(h0, .inr (12, fs0)), (qm, .inr (3, fsm)), (qx, .inr (6, fsx))]) [0, 1, 2] rfl
        have hD9 := hD.sub (ws' := [(h0, .inr (12, fs0)), (qm, .inr (3, fsm)), (qx, .inr (6, fsx))]) [0, 1, 2] (by decide) rfl
        have hK9 := hK.sub (tys' := []) [] rfl
        exact W.iret (v := 0) hx hb hr (fun t ht hW => ⟨⟨0, (()), rfl, (if_neg (fun z => z.elim c_1 (fun k => k c_2))).symm, by rw [ht]; exact hP9, va_K.moved hW.alike hK9, hD9⟩, hS.F ht⟩) hS.2.2 dX12_count_25
    ·
      refine lv_iconst (v := (-1)) hx hb dX12_count_10 (by decide) ?_
      have hP9 := hP.sub (ws' := [(h0, .inr (12, fs0)), (qm, .inr (3, fsm)), (qx, .inr (6, fsx))]) [0, 1, 2] rfl
      have hD9 := hD.sub (ws' := [(h0, .inr (12, fs0)), (qm, .inr (3, fsm)), (qx, .inr (6, fsx))]) [0, 1, 2] (by decide) rfl
      have hK9 := hK.sub (tys' := []) [] rfl
      exact W.iret (v := (-1)) hx hb hr (fun t ht hW => ⟨⟨(-1), (()), rfl, (if_pos (Or.inr c_2)).symm, by rw [ht]; exact hP9, va_K.moved hW.alike hK9, hD9⟩, hS.F ht⟩) hS.2.2 dX12_count_11
def pw_c_X12_definition : List Cond := .code yX12_definition cX12_definition 2 (some .int) :: ([.fieldLink RX12 106 "NeedHouse" "ready" "Z"] ++ (wsX120 ++ []))
set_option maxHeartbeats 4000000 in
set_option maxRecDepth 100000 in
theorem c_X12_definition (l : Launch) (dC : Nat → ClassId) (dI : Nat → Nat → Nat) (sz : Nat) (h0 : Nat) (fs0 : List Value) (p0 : Int32) (hF0 : hasF fs0 14 [(13, .int 0)]) : Met l yX12_definition pw_c_X12_definition ({ frames := 0, cells := 0, slots := 0, locals := 0 }) (va_Pc [.ref h0, .int p0] (fun U => U.heap.size = sz ∧ va_P (dC, dI) vwCl [(h0, .inr (12, fs0))] U.heap ∧ va_K (dC, dI) vwCl [] U ∧ va_D (fun _ => True) [(h0, .inr (12, fs0))])) (va_Qi (fun (r : Int32) (u : Unit) => r = -1) (fun (u : Unit) (t : State) => va_P (dC, dI) vwCl [(h0, .inr (12, fs0))] t.heap ∧ va_K (dC, dI) vwCl [] t ∧ va_D (va_A [(h0, .inr (12, fs0))] sz) [(h0, .inr (12, fs0))]) (va_A [(h0, .inr (12, fs0))] sz)) 0 0 (va_A [(h0, .inr (12, fs0))] sz) := by
  refine Met.ofW (cc := cX12_definition) (maxL := 2) (ret := (some .int)) (by decide) rfl ?_
  intro p e s m args below meth c s₁ B hml hv
  obtain ⟨rfl, hsz, hP, hK, hD0⟩ := hv
  have hx := B.exec
  have hb := B.bytes
  have hr := B.returns
  have hts := atoms_spec (ws := pw_c_X12_definition) B.pre
  have hown : s.vm.findClass RX12 = some m.cls := findClass_of_methodNamed B.named
  have hlocks := B.notSynchronized
  have hin_X12 : ∀ w ∈ u_ws RX12 TX12 14, w ∈ pw_c_X12_definition := fun w h => List.mem_cons_of_mem _ (List.mem_append_right _ (List.mem_append_left _ h))
  subst hsz
  have hD := hD0.self (sz := s.heap.size)
  generalize hAe : va_A [(h0, .inr (12, fs0))] s.heap.size = A at hD ⊢
  have hA : ∀ q : Nat, s.heap.size ≤ q → A q := fun q h => by rw [← hAe]; exact Or.inr h
  have hS : va_S A s.heap s.heap [] := va_S.rf
  have hP : va_P (dC, dI) vwCl [(h0, .inr (12, fs0))] s.heap := hP
  have hl := lv_entry ([.ref h0, .int p0]) (n := 2) (Nat.le_of_ble_eq_true rfl)
  rw [lg_entry_eq]
  generalize (lg_sl ([.ref h0, .int p0]) ++ List.replicate (2 - (lg_sl ([.ref h0, .int p0])).length) Slot.unset).toArray = ls at hl ⊢
  have hl : lv_has ls 2 [(0, .ref h0), (1, .int p0)] := hl
  refine lv_aload_n hx hb dX12_definition_0 rfl (lv_at hl 0 rfl) ?_
  refine va_get (D := (dC, dI)) (ci := 12) (v := .int 0) (C := RX12) (T := TX12) (N := 14) hx hb hts hin_X12 hown hK hP 0 rfl rfl 13 (by decide) (hts (.fieldLink RX12 106 "NeedHouse" "ready" "Z") (List.mem_of_getElem? (i := 1) rfl)) (fun _ h9 => h9) (hF0.at 0 rfl) dX12_definition_1 ?_
  refine lv_if_eq (tgt := 30) hx hb dX12_definition_4 (by decide) (fun _ => ?_) (fun c_1 => absurd (by decide) c_1)
  refine lv_iconst (v := (-1)) hx hb dX12_definition_30 (by decide) ?_
  have hP9 := hP.sub (ws' := [(h0, .inr (12, fs0))]) [0] rfl
  have hD9 := hD.sub (ws' := [(h0, .inr (12, fs0))]) [0] (by decide) rfl
  have hK9 := hK.sub (tys' := []) [] rfl
  exact W.iret (v := (-1)) hx hb hr (fun t ht hW => ⟨⟨(-1), (()), rfl, rfl, by rw [ht]; exact hP9, va_K.moved hW.alike hK9, hD9⟩, hS.F ht⟩) hS.2.2 dX12_definition_31
def pw_c_X12_sign : List Cond := .code yX12_sign cX12_sign 4 (some .int) :: ([.methodLink RX12 184 yX12_definition, .instanceMethod yX12_definition, .selects RX12 yX12_definition yX12_definition, .initialized RX12, .code yX12_definition cX12_definition 2 (some .int), .fieldLink RX12 106 "NeedHouse" "ready" "Z"] ++ (wsX120 ++ []))
set_option maxRecDepth 20000 in
theorem g_c_X12_sign_c_X12_definition_2 : GoodIn pw_c_X12_sign (wsV RX12 184 RX12 yX12_definition pw_c_X12_definition) := goodIn_r _ [1, 2, 3, 4, 5, 6, 7, 8, 9, 10, 11, 12, 13, 14, 15, 16, 17, 18, 19, 20] rfl (by decide +kernel)
set_option maxHeartbeats 4000000 in
set_option maxRecDepth 100000 in
theorem c_X12_sign (l : Launch) (dC : Nat → ClassId) (dI : Nat → Nat → Nat) (sz : Nat) (h0 : Nat) (fs0 : List Value) (p0 : Int32) (p1 : Int32) (hF0 : hasF fs0 14 [(13, .int 0)]) : Met l yX12_sign pw_c_X12_sign ({ frames := 1, cells := 0, slots := 0, locals := 21 }) (va_Pc [.ref h0, .int p0, .int p1] (fun U => U.heap.size = sz ∧ va_P (dC, dI) vwCl [(h0, .inr (12, fs0))] U.heap ∧ va_K (dC, dI) vwCl [] U ∧ va_D (fun _ => True) [(h0, .inr (12, fs0))])) (va_Qi (fun (r : Int32) (u : Unit) => r = -1) (fun (u : Unit) (t : State) => va_P (dC, dI) vwCl [(h0, .inr (12, fs0))] t.heap ∧ va_K (dC, dI) vwCl [] t ∧ va_D (va_A [(h0, .inr (12, fs0))] sz) [(h0, .inr (12, fs0))]) (va_A [(h0, .inr (12, fs0))] sz)) 0 0 (va_A [(h0, .inr (12, fs0))] sz) := by
  refine Met.ofW (cc := cX12_sign) (maxL := 4) (ret := (some .int)) (by decide) rfl ?_
  intro p e s m args below meth c s₁ B hml hv
  obtain ⟨rfl, hsz, hP, hK, hD0⟩ := hv
  have hx := B.exec
  have hb := B.bytes
  have hr := B.returns
  have hts := atoms_spec (ws := pw_c_X12_sign) B.pre
  have hown : s.vm.findClass RX12 = some m.cls := findClass_of_methodNamed B.named
  have hlocks := B.notSynchronized
  have hin_X12 : ∀ w ∈ u_ws RX12 TX12 14, w ∈ pw_c_X12_sign := fun w h => List.mem_cons_of_mem _ (List.mem_append_right _ (List.mem_append_left _ h))
  subst hsz
  have hD := hD0.self (sz := s.heap.size)
  generalize hAe : va_A [(h0, .inr (12, fs0))] s.heap.size = A at hD ⊢
  have hA : ∀ q : Nat, s.heap.size ≤ q → A q := fun q h => by rw [← hAe]; exact Or.inr h
  have hS : va_S A s.heap s.heap [] := va_S.rf
  have hP : va_P (dC, dI) vwCl [(h0, .inr (12, fs0))] s.heap := hP
  have hl := lv_entry ([.ref h0, .int p0, .int p1]) (n := 4) (Nat.le_of_ble_eq_true rfl)
  rw [lg_entry_eq]
  generalize (lg_sl ([.ref h0, .int p0, .int p1]) ++ List.replicate (4 - (lg_sl ([.ref h0, .int p0, .int p1])).length) Slot.unset).toArray = ls at hl ⊢
  have hl : lv_has ls 4 [(0, .ref h0), (1, .int p0), (2, .int p1)] := hl
  refine lv_aload_n hx hb dX12_sign_0 rfl (lv_at hl 0 rfl) ?_
  refine lv_iload_n hx hb dX12_sign_1 rfl (lv_at hl 1 rfl) ?_
  have hPc := hP.sub (ws' := [(h0, .inr (12, fs0))]) [0] rfl
  have hDc := hD.sub (ws' := [(h0, .inr (12, fs0))]) [0] (by decide) rfl
  have hKc := hK.sub (tys' := []) [] rfl
  have hFc := va_free (wc := [(h0, .inr (12, fs0))]) hD hS hA [0] rfl
  refine va_calli (va_runV (As := [.int p0]) (rest := []) ⟨hx, hb, hml, hown, hts⟩ (c_X12_definition l dC dI s.heap.size h0 fs0 p0 (hF0.sub [0] rfl)) (cwV 1 hts g_c_X12_sign_c_X12_definition_2 rfl rfl rfl (by decide +kernel) ⟨Nat.le_of_ble_eq_true rfl, Nat.le_of_ble_eq_true rfl⟩) ⟨fun a U g mk q => by obtain ⟨q0, q1, qP, qK, qD⟩ := q; exact ⟨q0, q1, qP, va_K.moved (u := U) (U := U.calling g mk a) (Vm.Alike.refl U.vm) qK, qD⟩, va_recv hKc hPc (ci := 12) (q0 := 0) rfl rfl, fun U hU hW => ⟨rfl, by rw [hU], by rw [hU]; exact hPc, va_K.moved hW.alike hKc, hDc.weaken (fun _ _ _ _ => trivial)⟩⟩ rfl rfl hl.1 rfl (lv_room (Nat.le_of_ble_eq_true rfl)) dX12_sign_2 ⟨show 0 + 0 ≤ 0 by decide, show 0 + 0 ≤ 0 by decide⟩) hS (fun q _ h => hFc q h) hFc (fun r_1 u t H1 locs ht hvm hw hB hz1 hk1 hS => ?_)
  obtain ⟨hP1, hK1, hD1⟩ := hB
  rw [ht] at hP1
  have hK1 := va_K.moved hvm.symm hK1
  try dsimp only at hw hP1 hK1 hD1
  have hr_3 := hw
  obtain ⟨hP, hD⟩ := va_join (wr := []) (w1 := [(h0, .inr (12, fs0))]) hP hD [0] [] rfl rfl (by decide) (by decide) hk1 hFc hP1 hD1
  generalize H1 = H at hP hS ⊢
  have hK := (hK.sub (tys' := []) [] rfl).app hK1
  have hK : va_K (dC, dI) vwCl [] s := hK
  have hP : va_P (dC, dI) vwCl [(h0, .inr (12, fs0))] H := hP
  have hD : va_D A [(h0, .inr (12, fs0))] := hD
  subst hr_3
  refine lv_istore_n (lv' := [(3, .int (-1)), (0, .ref h0), (1, .int p0), (2, .int p1)]) hx hb dX12_sign_5 rfl hl (by decide) rfl (fun ls hl => ?_)
  refine lv_iload_n hx hb dX12_sign_6 rfl (lv_at hl 0 rfl) ?_
  refine lv_if_ge (tgt := 12) hx hb dX12_sign_7 (by decide) (fun c_4 => absurd c_4 (by decide)) (fun _ => ?_)
  refine lv_iconst (v := (-1)) hx hb dX12_sign_10 (by decide) ?_
  have hP9 := hP.sub (ws' := [(h0, .inr (12, fs0))]) [0] rfl
  have hD9 := hD.sub (ws' := [(h0, .inr (12, fs0))]) [0] (by decide) rfl
  have hK9 := hK.sub (tys' := []) [] rfl
  exact W.iret (v := (-1)) hx hb hr (fun t ht hW => ⟨⟨(-1), (()), rfl, rfl, by rw [ht]; exact hP9, va_K.moved hW.alike hK9, hD9⟩, hS.F ht⟩) hS.2.2 dX12_sign_11
def pw_c_X12_strict : List Cond := .code yX12_strict cX12_strict 5 (some .int) :: ([.methodLink RX12 184 yX12_definition, .instanceMethod yX12_definition, .selects RX12 yX12_definition yX12_definition, .initialized RX12, .code yX12_definition cX12_definition 2 (some .int), .fieldLink RX12 106 "NeedHouse" "ready" "Z"] ++ (wsX120 ++ []))
set_option maxRecDepth 20000 in
theorem g_c_X12_strict_c_X12_definition_2 : GoodIn pw_c_X12_strict (wsV RX12 184 RX12 yX12_definition pw_c_X12_definition) := goodIn_r _ [1, 2, 3, 4, 5, 6, 7, 8, 9, 10, 11, 12, 13, 14, 15, 16, 17, 18, 19, 20] rfl (by decide +kernel)
set_option maxHeartbeats 4000000 in
set_option maxRecDepth 100000 in
theorem c_X12_strict (l : Launch) (dC : Nat → ClassId) (dI : Nat → Nat → Nat) (sz : Nat) (h0 : Nat) (fs0 : List Value) (p0 : Int32) (p1 : Int32) (hF0 : hasF fs0 14 [(13, .int 0)]) : Met l yX12_strict pw_c_X12_strict ({ frames := 1, cells := 0, slots := 0, locals := 21 }) (va_Pc [.ref h0, .int p0, .int p1] (fun U => U.heap.size = sz ∧ va_P (dC, dI) vwCl [(h0, .inr (12, fs0))] U.heap ∧ va_K (dC, dI) vwCl [] U ∧ va_D (fun _ => True) [(h0, .inr (12, fs0))])) (va_Qi (fun (r : Int32) (u : Unit) => r = -1) (fun (u : Unit) (t : State) => va_P (dC, dI) vwCl [(h0, .inr (12, fs0))] t.heap ∧ va_K (dC, dI) vwCl [] t ∧ va_D (va_A [(h0, .inr (12, fs0))] sz) [(h0, .inr (12, fs0))]) (va_A [(h0, .inr (12, fs0))] sz)) 0 0 (va_A [(h0, .inr (12, fs0))] sz) := by
  refine Met.ofW (cc := cX12_strict) (maxL := 5) (ret := (some .int)) (by decide) rfl ?_
  intro p e s m args below meth c s₁ B hml hv
  obtain ⟨rfl, hsz, hP, hK, hD0⟩ := hv
  have hx := B.exec
  have hb := B.bytes
  have hr := B.returns
  have hts := atoms_spec (ws := pw_c_X12_strict) B.pre
  have hown : s.vm.findClass RX12 = some m.cls := findClass_of_methodNamed B.named
  have hlocks := B.notSynchronized
  have hin_X12 : ∀ w ∈ u_ws RX12 TX12 14, w ∈ pw_c_X12_strict := fun w h => List.mem_cons_of_mem _ (List.mem_append_right _ (List.mem_append_left _ h))
  subst hsz
  have hD := hD0.self (sz := s.heap.size)
  generalize hAe : va_A [(h0, .inr (12, fs0))] s.heap.size = A at hD ⊢
  have hA : ∀ q : Nat, s.heap.size ≤ q → A q := fun q h => by rw [← hAe]; exact Or.inr h
  have hS : va_S A s.heap s.heap [] := va_S.rf
  have hP : va_P (dC, dI) vwCl [(h0, .inr (12, fs0))] s.heap := hP
  have hl := lv_entry ([.ref h0, .int p0, .int p1]) (n := 5) (Nat.le_of_ble_eq_true rfl)
  rw [lg_entry_eq]
  generalize (lg_sl ([.ref h0, .int p0, .int p1]) ++ List.replicate (5 - (lg_sl ([.ref h0, .int p0, .int p1])).length) Slot.unset).toArray = ls at hl ⊢
  have hl : lv_has ls 5 [(0, .ref h0), (1, .int p0), (2, .int p1)] := hl
  refine lv_aload_n hx hb dX12_strict_0 rfl (lv_at hl 0 rfl) ?_
  refine lv_iload_n hx hb dX12_strict_1 rfl (lv_at hl 1 rfl) ?_
  have hPc := hP.sub (ws' := [(h0, .inr (12, fs0))]) [0] rfl
  have hDc := hD.sub (ws' := [(h0, .inr (12, fs0))]) [0] (by decide) rfl
  have hKc := hK.sub (tys' := []) [] rfl
  have hFc := va_free (wc := [(h0, .inr (12, fs0))]) hD hS hA [0] rfl
  refine va_calli (va_runV (As := [.int p0]) (rest := []) ⟨hx, hb, hml, hown, hts⟩ (c_X12_definition l dC dI s.heap.size h0 fs0 p0 (hF0.sub [0] rfl)) (cwV 1 hts g_c_X12_strict_c_X12_definition_2 rfl rfl rfl (by decide +kernel) ⟨Nat.le_of_ble_eq_true rfl, Nat.le_of_ble_eq_true rfl⟩) ⟨fun a U g mk q => by obtain ⟨q0, q1, qP, qK, qD⟩ := q; exact ⟨q0, q1, qP, va_K.moved (u := U) (U := U.calling g mk a) (Vm.Alike.refl U.vm) qK, qD⟩, va_recv hKc hPc (ci := 12) (q0 := 0) rfl rfl, fun U hU hW => ⟨rfl, by rw [hU], by rw [hU]; exact hPc, va_K.moved hW.alike hKc, hDc.weaken (fun _ _ _ _ => trivial)⟩⟩ rfl rfl hl.1 rfl (lv_room (Nat.le_of_ble_eq_true rfl)) dX12_strict_2 ⟨show 0 + 0 ≤ 0 by decide, show 0 + 0 ≤ 0 by decide⟩) hS (fun q _ h => hFc q h) hFc (fun r_1 u t H1 locs ht hvm hw hB hz1 hk1 hS => ?_)
  obtain ⟨hP1, hK1, hD1⟩ := hB
  rw [ht] at hP1
  have hK1 := va_K.moved hvm.symm hK1
  try dsimp only at hw hP1 hK1 hD1
  have hr_3 := hw
  obtain ⟨hP, hD⟩ := va_join (wr := []) (w1 := [(h0, .inr (12, fs0))]) hP hD [0] [] rfl rfl (by decide) (by decide) hk1 hFc hP1 hD1
  generalize H1 = H at hP hS ⊢
  have hK := (hK.sub (tys' := []) [] rfl).app hK1
  have hK : va_K (dC, dI) vwCl [] s := hK
  have hP : va_P (dC, dI) vwCl [(h0, .inr (12, fs0))] H := hP
  have hD : va_D A [(h0, .inr (12, fs0))] := hD
  subst hr_3
  refine lv_istore_n (lv' := [(3, .int (-1)), (0, .ref h0), (1, .int p0), (2, .int p1)]) hx hb dX12_strict_5 rfl hl (by decide) rfl (fun ls hl => ?_)
  refine lv_iload_n hx hb dX12_strict_6 rfl (lv_at hl 0 rfl) ?_
  refine lv_if_ge (tgt := 12) hx hb dX12_strict_7 (by decide) (fun c_4 => absurd c_4 (by decide)) (fun _ => ?_)
  refine lv_iconst (v := (-1)) hx hb dX12_strict_10 (by decide) ?_
  have hP9 := hP.sub (ws' := [(h0, .inr (12, fs0))]) [0] rfl
  have hD9 := hD.sub (ws' := [(h0, .inr (12, fs0))]) [0] (by decide) rfl
  have hK9 := hK.sub (tys' := []) [] rfl
  exact W.iret (v := (-1)) hx hb hr (fun t ht hW => ⟨⟨(-1), (()), rfl, rfl, by rw [ht]; exact hP9, va_K.moved hW.alike hK9, hD9⟩, hS.F ht⟩) hS.2.2 dX12_strict_11
def pw_c_X12_group : List Cond := .code yX12_group cX12_group 3 (some .int) :: ([.methodLink RX12 184 yX12_definition, .instanceMethod yX12_definition, .selects RX12 yX12_definition yX12_definition, .initialized RX12, .code yX12_definition cX12_definition 2 (some .int), .fieldLink RX12 106 "NeedHouse" "ready" "Z"] ++ (wsX120 ++ []))
set_option maxRecDepth 20000 in
theorem g_c_X12_group_c_X12_definition_2 : GoodIn pw_c_X12_group (wsV RX12 184 RX12 yX12_definition pw_c_X12_definition) := goodIn_r _ [1, 2, 3, 4, 5, 6, 7, 8, 9, 10, 11, 12, 13, 14, 15, 16, 17, 18, 19, 20] rfl (by decide +kernel)
set_option maxHeartbeats 4000000 in
set_option maxRecDepth 100000 in
theorem c_X12_group (l : Launch) (dC : Nat → ClassId) (dI : Nat → Nat → Nat) (sz : Nat) (h0 : Nat) (fs0 : List Value) (p0 : Int32) (hF0 : hasF fs0 14 [(13, .int 0)]) : Met l yX12_group pw_c_X12_group ({ frames := 1, cells := 0, slots := 0, locals := 21 }) (va_Pc [.ref h0, .int p0] (fun U => U.heap.size = sz ∧ va_P (dC, dI) vwCl [(h0, .inr (12, fs0))] U.heap ∧ va_K (dC, dI) vwCl [] U ∧ va_D (fun _ => True) [(h0, .inr (12, fs0))])) (va_Qi (fun (r : Int32) (u : Unit) => r = -1) (fun (u : Unit) (t : State) => va_P (dC, dI) vwCl [(h0, .inr (12, fs0))] t.heap ∧ va_K (dC, dI) vwCl [] t ∧ va_D (va_A [(h0, .inr (12, fs0))] sz) [(h0, .inr (12, fs0))]) (va_A [(h0, .inr (12, fs0))] sz)) 0 0 (va_A [(h0, .inr (12, fs0))] sz) := by
  refine Met.ofW (cc := cX12_group) (maxL := 3) (ret := (some .int)) (by decide) rfl ?_
  intro p e s m args below meth c s₁ B hml hv
  obtain ⟨rfl, hsz, hP, hK, hD0⟩ := hv
  have hx := B.exec
  have hb := B.bytes
  have hr := B.returns
  have hts := atoms_spec (ws := pw_c_X12_group) B.pre
  have hown : s.vm.findClass RX12 = some m.cls := findClass_of_methodNamed B.named
  have hlocks := B.notSynchronized
  have hin_X12 : ∀ w ∈ u_ws RX12 TX12 14, w ∈ pw_c_X12_group := fun w h => List.mem_cons_of_mem _ (List.mem_append_right _ (List.mem_append_left _ h))
  subst hsz
  have hD := hD0.self (sz := s.heap.size)
  generalize hAe : va_A [(h0, .inr (12, fs0))] s.heap.size = A at hD ⊢
  have hA : ∀ q : Nat, s.heap.size ≤ q → A q := fun q h => by rw [← hAe]; exact Or.inr h
  have hS : va_S A s.heap s.heap [] := va_S.rf
  have hP : va_P (dC, dI) vwCl [(h0, .inr (12, fs0))] s.heap := hP
  have hl := lv_entry ([.ref h0, .int p0]) (n := 3) (Nat.le_of_ble_eq_true rfl)
  rw [lg_entry_eq]
  generalize (lg_sl ([.ref h0, .int p0]) ++ List.replicate (3 - (lg_sl ([.ref h0, .int p0])).length) Slot.unset).toArray = ls at hl ⊢
  have hl : lv_has ls 3 [(0, .ref h0), (1, .int p0)] := hl
  refine lv_aload_n hx hb dX12_group_0 rfl (lv_at hl 0 rfl) ?_
  refine lv_iload_n hx hb dX12_group_1 rfl (lv_at hl 1 rfl) ?_
  have hPc := hP.sub (ws' := [(h0, .inr (12, fs0))]) [0] rfl
  have hDc := hD.sub (ws' := [(h0, .inr (12, fs0))]) [0] (by decide) rfl
  have hKc := hK.sub (tys' := []) [] rfl
  have hFc := va_free (wc := [(h0, .inr (12, fs0))]) hD hS hA [0] rfl
  refine va_calli (va_runV (As := [.int p0]) (rest := []) ⟨hx, hb, hml, hown, hts⟩ (c_X12_definition l dC dI s.heap.size h0 fs0 p0 (hF0.sub [0] rfl)) (cwV 1 hts g_c_X12_group_c_X12_definition_2 rfl rfl rfl (by decide +kernel) ⟨Nat.le_of_ble_eq_true rfl, Nat.le_of_ble_eq_true rfl⟩) ⟨fun a U g mk q => by obtain ⟨q0, q1, qP, qK, qD⟩ := q; exact ⟨q0, q1, qP, va_K.moved (u := U) (U := U.calling g mk a) (Vm.Alike.refl U.vm) qK, qD⟩, va_recv hKc hPc (ci := 12) (q0 := 0) rfl rfl, fun U hU hW => ⟨rfl, by rw [hU], by rw [hU]; exact hPc, va_K.moved hW.alike hKc, hDc.weaken (fun _ _ _ _ => trivial)⟩⟩ rfl rfl hl.1 rfl (lv_room (Nat.le_of_ble_eq_true rfl)) dX12_group_2 ⟨show 0 + 0 ≤ 0 by decide, show 0 + 0 ≤ 0 by decide⟩) hS (fun q _ h => hFc q h) hFc (fun r_1 u t H1 locs ht hvm hw hB hz1 hk1 hS => ?_)
  obtain ⟨hP1, hK1, hD1⟩ := hB
  rw [ht] at hP1
  have hK1 := va_K.moved hvm.symm hK1
  try dsimp only at hw hP1 hK1 hD1
  have hr_3 := hw
  obtain ⟨hP, hD⟩ := va_join (wr := []) (w1 := [(h0, .inr (12, fs0))]) hP hD [0] [] rfl rfl (by decide) (by decide) hk1 hFc hP1 hD1
  generalize H1 = H at hP hS ⊢
  have hK := (hK.sub (tys' := []) [] rfl).app hK1
  have hK : va_K (dC, dI) vwCl [] s := hK
  have hP : va_P (dC, dI) vwCl [(h0, .inr (12, fs0))] H := hP
  have hD : va_D A [(h0, .inr (12, fs0))] := hD
  subst hr_3
  refine lv_istore_n (lv' := [(2, .int (-1)), (0, .ref h0), (1, .int p0)]) hx hb dX12_group_5 rfl hl (by decide) rfl (fun ls hl => ?_)
  refine lv_iload_n hx hb dX12_group_6 rfl (lv_at hl 0 rfl) ?_
  refine lv_if_ge (tgt := 14) hx hb dX12_group_7 (by decide) (fun c_4 => absurd c_4 (by decide)) (fun _ => ?_)
  refine lv_iconst (v := (-1)) hx hb dX12_group_10 (by decide) ?_
  refine lv_goto (tgt := 23) hx hb dX12_group_11 (by decide) ?_
  have hP9 := hP.sub (ws' := [(h0, .inr (12, fs0))]) [0] rfl
  have hD9 := hD.sub (ws' := [(h0, .inr (12, fs0))]) [0] (by decide) rfl
  have hK9 := hK.sub (tys' := []) [] rfl
  exact W.iret (v := (-1)) hx hb hr (fun t ht hW => ⟨⟨(-1), (()), rfl, rfl, by rw [ht]; exact hP9, va_K.moved hW.alike hK9, hD9⟩, hS.F ht⟩) hS.2.2 dX12_group_23
def pw_c_X12_global : List Cond := .code yX12_global cX12_global 3 (some .int) :: ([.methodLink RX12 184 yX12_definition, .instanceMethod yX12_definition, .selects RX12 yX12_definition yX12_definition, .initialized RX12, .code yX12_definition cX12_definition 2 (some .int), .fieldLink RX12 106 "NeedHouse" "ready" "Z"] ++ (wsX120 ++ []))
set_option maxRecDepth 20000 in
theorem g_c_X12_global_c_X12_definition_2 : GoodIn pw_c_X12_global (wsV RX12 184 RX12 yX12_definition pw_c_X12_definition) := goodIn_r _ [1, 2, 3, 4, 5, 6, 7, 8, 9, 10, 11, 12, 13, 14, 15, 16, 17, 18, 19, 20] rfl (by decide +kernel)
set_option maxHeartbeats 4000000 in
set_option maxRecDepth 100000 in
theorem c_X12_global (l : Launch) (dC : Nat → ClassId) (dI : Nat → Nat → Nat) (sz : Nat) (h0 : Nat) (fs0 : List Value) (p0 : Int32) (p1 : Int32) (hF0 : hasF fs0 14 [(13, .int 0)]) : Met l yX12_global pw_c_X12_global ({ frames := 1, cells := 0, slots := 0, locals := 21 }) (va_Pc [.ref h0, .int p0, .int p1] (fun U => U.heap.size = sz ∧ va_P (dC, dI) vwCl [(h0, .inr (12, fs0))] U.heap ∧ va_K (dC, dI) vwCl [] U ∧ va_D (fun _ => True) [(h0, .inr (12, fs0))])) (va_Qi (fun (r : Int32) (u : Unit) => r = -1) (fun (u : Unit) (t : State) => va_P (dC, dI) vwCl [(h0, .inr (12, fs0))] t.heap ∧ va_K (dC, dI) vwCl [] t ∧ va_D (va_A [(h0, .inr (12, fs0))] sz) [(h0, .inr (12, fs0))]) (va_A [(h0, .inr (12, fs0))] sz)) 0 0 (va_A [(h0, .inr (12, fs0))] sz) := by
  refine Met.ofW (cc := cX12_global) (maxL := 3) (ret := (some .int)) (by decide) rfl ?_
  intro p e s m args below meth c s₁ B hml hv
  obtain ⟨rfl, hsz, hP, hK, hD0⟩ := hv
  have hx := B.exec
  have hb := B.bytes
  have hr := B.returns
  have hts := atoms_spec (ws := pw_c_X12_global) B.pre
  have hown : s.vm.findClass RX12 = some m.cls := findClass_of_methodNamed B.named
  have hlocks := B.notSynchronized
  have hin_X12 : ∀ w ∈ u_ws RX12 TX12 14, w ∈ pw_c_X12_global := fun w h => List.mem_cons_of_mem _ (List.mem_append_right _ (List.mem_append_left _ h))
  subst hsz
  have hD := hD0.self (sz := s.heap.size)
  generalize hAe : va_A [(h0, .inr (12, fs0))] s.heap.size = A at hD ⊢
  have hA : ∀ q : Nat, s.heap.size ≤ q → A q := fun q h => by rw [← hAe]; exact Or.inr h
  have hS : va_S A s.heap s.heap [] := va_S.rf
  have hP : va_P (dC, dI) vwCl [(h0, .inr (12, fs0))] s.heap := hP
  have hl := lv_entry ([.ref h0, .int p0, .int p1]) (n := 3) (Nat.le_of_ble_eq_true rfl)
  rw [lg_entry_eq]
  generalize (lg_sl ([.ref h0, .int p0, .int p1]) ++ List.replicate (3 - (lg_sl ([.ref h0, .int p0, .int p1])).length) Slot.unset).toArray = ls at hl ⊢
  have hl : lv_has ls 3 [(0, .ref h0), (1, .int p0), (2, .int p1)] := hl
  refine lv_aload_n hx hb dX12_global_0 rfl (lv_at hl 0 rfl) ?_
  refine lv_iload_n hx hb dX12_global_1 rfl (lv_at hl 1 rfl) ?_
  have hPc := hP.sub (ws' := [(h0, .inr (12, fs0))]) [0] rfl
  have hDc := hD.sub (ws' := [(h0, .inr (12, fs0))]) [0] (by decide) rfl
  have hKc := hK.sub (tys' := []) [] rfl
  have hFc := va_free (wc := [(h0, .inr (12, fs0))]) hD hS hA [0] rfl
  refine va_calli (va_runV (As := [.int p0]) (rest := []) ⟨hx, hb, hml, hown, hts⟩ (c_X12_definition l dC dI s.heap.size h0 fs0 p0 (hF0.sub [0] rfl)) (cwV 1 hts g_c_X12_global_c_X12_definition_2 rfl rfl rfl (by decide +kernel) ⟨Nat.le_of_ble_eq_true rfl, Nat.le_of_ble_eq_true rfl⟩) ⟨fun a U g mk q => by obtain ⟨q0, q1, qP, qK, qD⟩ := q; exact ⟨q0, q1, qP, va_K.moved (u := U) (U := U.calling g mk a) (Vm.Alike.refl U.vm) qK, qD⟩, va_recv hKc hPc (ci := 12) (q0 := 0) rfl rfl, fun U hU hW => ⟨rfl, by rw [hU], by rw [hU]; exact hPc, va_K.moved hW.alike hKc, hDc.weaken (fun _ _ _ _ => trivial)⟩⟩ rfl rfl hl.1 rfl (lv_room (Nat.le_of_ble_eq_true rfl)) dX12_global_2 ⟨show 0 + 0 ≤ 0 by decide, show 0 + 0 ≤ 0 by decide⟩) hS (fun q _ h => hFc q h) hFc (fun r_1 u t H1 locs ht hvm hw hB hz1 hk1 hS => ?_)
  obtain ⟨hP1, hK1, hD1⟩ := hB
  rw [ht] at hP1
  have hK1 := va_K.moved hvm.symm hK1
  try dsimp only at hw hP1 hK1 hD1
  have hr_3 := hw
  obtain ⟨hP, hD⟩ := va_join (wr := []) (w1 := [(h0, .inr (12, fs0))]) hP hD [0] [] rfl rfl (by decide) (by decide) hk1 hFc hP1 hD1
  generalize H1 = H at hP hS ⊢
  have hK := (hK.sub (tys' := []) [] rfl).app hK1
  have hK : va_K (dC, dI) vwCl [] s := hK
  have hP : va_P (dC, dI) vwCl [(h0, .inr (12, fs0))] H := hP
  have hD : va_D A [(h0, .inr (12, fs0))] := hD
  subst hr_3
  refine lv_if_lt (tgt := 27) hx hb dX12_global_5 (by decide) (fun _ => ?_) (fun c_4 => absurd (by decide) c_4)
  refine lv_iconst (v := (-1)) hx hb dX12_global_27 (by decide) ?_
  have hP9 := hP.sub (ws' := [(h0, .inr (12, fs0))]) [0] rfl
  have hD9 := hD.sub (ws' := [(h0, .inr (12, fs0))]) [0] (by decide) rfl
  have hK9 := hK.sub (tys' := []) [] rfl
  exact W.iret (v := (-1)) hx hb hr (fun t ht hW => ⟨⟨(-1), (()), rfl, rfl, by rw [ht]; exact hP9, va_K.moved hW.alike hK9, hD9⟩, hS.F ht⟩) hS.2.2 dX12_global_28
def pw_c_X6_at : List Cond := .code yX6_at cX6_at 2 (some .int) :: ([.fieldLink RX6 19 "NeedHouse$Sheet" "size" "I"] ++ (wsX60 ++ []))
set_option maxHeartbeats 4000000 in
set_option maxRecDepth 100000 in
theorem c_X6_at (l : Launch) (dC : Nat → ClassId) (dI : Nat → Nat → Nat) (sz : Nat) (h0 : Nat) (fs0 : List Value) (p0 : Int32) (hF0 : hasF fs0 3 [(2, .int 0)]) : Met l yX6_at pw_c_X6_at ({ frames := 0, cells := 0, slots := 0, locals := 0 }) (va_Pc [.ref h0, .int p0] (fun U => U.heap.size = sz ∧ va_P (dC, dI) vwCl [(h0, .inr (6, fs0))] U.heap ∧ va_K (dC, dI) vwCl [] U ∧ va_D (fun _ => True) [(h0, .inr (6, fs0))])) (va_Qi (fun (r : Int32) (u : Unit) => r = -1) (fun (u : Unit) (t : State) => va_P (dC, dI) vwCl [(h0, .inr (6, fs0))] t.heap ∧ va_K (dC, dI) vwCl [] t ∧ va_D (va_A [(h0, .inr (6, fs0))] sz) [(h0, .inr (6, fs0))]) (va_A [(h0, .inr (6, fs0))] sz)) 0 0 (va_A [(h0, .inr (6, fs0))] sz) := by
  refine Met.ofW (cc := cX6_at) (maxL := 2) (ret := (some .int)) (by decide) rfl ?_
  intro p e s m args below meth c s₁ B hml hv
  obtain ⟨rfl, hsz, hP, hK, hD0⟩ := hv
  have hx := B.exec
  have hb := B.bytes
  have hr := B.returns
  have hts := atoms_spec (ws := pw_c_X6_at) B.pre
  have hown : s.vm.findClass RX6 = some m.cls := findClass_of_methodNamed B.named
  have hlocks := B.notSynchronized
  have hin_X6 : ∀ w ∈ u_ws RX6 TX6 3, w ∈ pw_c_X6_at := fun w h => List.mem_cons_of_mem _ (List.mem_append_right _ (List.mem_append_left _ h))
  subst hsz
  have hD := hD0.self (sz := s.heap.size)
  generalize hAe : va_A [(h0, .inr (6, fs0))] s.heap.size = A at hD ⊢
  have hA : ∀ q : Nat, s.heap.size ≤ q → A q := fun q h => by rw [← hAe]; exact Or.inr h
  have hS : va_S A s.heap s.heap [] := va_S.rf
  have hP : va_P (dC, dI) vwCl [(h0, .inr (6, fs0))] s.heap := hP
  have hl := lv_entry ([.ref h0, .int p0]) (n := 2) (Nat.le_of_ble_eq_true rfl)
  rw [lg_entry_eq]
  generalize (lg_sl ([.ref h0, .int p0]) ++ List.replicate (2 - (lg_sl ([.ref h0, .int p0])).length) Slot.unset).toArray = ls at hl ⊢
  have hl : lv_has ls 2 [(0, .ref h0), (1, .int p0)] := hl
  refine lv_iload_n hx hb dX6_at_0 rfl (lv_at hl 1 rfl) ?_
  refine lv_if_lt (tgt := 12) hx hb dX6_at_1 (by decide) (fun c_1 => ?_) (fun c_1 => ?_)
  ·
    refine lv_iconst (v := (-1)) hx hb dX6_at_12 (by decide) ?_
    refine lv_goto (tgt := 22) hx hb dX6_at_13 (by decide) ?_
    have hP9 := hP.sub (ws' := [(h0, .inr (6, fs0))]) [0] rfl
    have hD9 := hD.sub (ws' := [(h0, .inr (6, fs0))]) [0] (by decide) rfl
    have hK9 := hK.sub (tys' := []) [] rfl
    exact W.iret (v := (-1)) hx hb hr (fun t ht hW => ⟨⟨(-1), (()), rfl, rfl, by rw [ht]; exact hP9, va_K.moved hW.alike hK9, hD9⟩, hS.F ht⟩) hS.2.2 dX6_at_22
  ·
    refine lv_iload_n hx hb dX6_at_4 rfl (lv_at hl 1 rfl) ?_
    refine lv_aload_n hx hb dX6_at_5 rfl (lv_at hl 0 rfl) ?_
    refine va_get (D := (dC, dI)) (ci := 6) (v := .int 0) (C := RX6) (T := TX6) (N := 3) hx hb hts hin_X6 hown hK hP 0 rfl rfl 2 (by decide) (hts (.fieldLink RX6 19 "NeedHouse$Sheet" "size" "I") (List.mem_of_getElem? (i := 1) rfl)) (fun _ h9 => h9) (hF0.at 0 rfl) dX6_at_6 ?_
    refine lv_icmp_lt (tgt := 16) hx hb dX6_at_9 (by decide) (fun c_2 => absurd c_2 (c_1)) (fun _ => ?_)
    refine lv_iconst (v := (-1)) hx hb dX6_at_12 (by decide) ?_
    refine lv_goto (tgt := 22) hx hb dX6_at_13 (by decide) ?_
    have hP9 := hP.sub (ws' := [(h0, .inr (6, fs0))]) [0] rfl
    have hD9 := hD.sub (ws' := [(h0, .inr (6, fs0))]) [0] (by decide) rfl
    have hK9 := hK.sub (tys' := []) [] rfl
    exact W.iret (v := (-1)) hx hb hr (fun t ht hW => ⟨⟨(-1), (()), rfl, rfl, by rw [ht]; exact hP9, va_K.moved hW.alike hK9, hD9⟩, hS.F ht⟩) hS.2.2 dX6_at_22
def pw_c_X3_outputAt : List Cond := .code yX3_outputAt cX3_outputAt 2 (some .int) :: ([.fieldLink RX3 53 "NeedHouse$Machine" "outputs" "I"] ++ (wsX30 ++ []))
set_option maxHeartbeats 4000000 in
set_option maxRecDepth 100000 in
theorem c_X3_outputAt (l : Launch) (dC : Nat → ClassId) (dI : Nat → Nat → Nat) (sz : Nat) (h0 : Nat) (fs0 : List Value) (p0 : Int32) (hF0 : hasF fs0 14 [(7, .int 0)]) : Met l yX3_outputAt pw_c_X3_outputAt ({ frames := 0, cells := 0, slots := 0, locals := 0 }) (va_Pc [.ref h0, .int p0] (fun U => U.heap.size = sz ∧ va_P (dC, dI) vwCl [(h0, .inr (3, fs0))] U.heap ∧ va_K (dC, dI) vwCl [] U ∧ va_D (fun _ => True) [(h0, .inr (3, fs0))])) (va_Qi (fun (r : Int32) (u : Unit) => r = 0) (fun (u : Unit) (t : State) => va_P (dC, dI) vwCl [(h0, .inr (3, fs0))] t.heap ∧ va_K (dC, dI) vwCl [] t ∧ va_D (va_A [(h0, .inr (3, fs0))] sz) [(h0, .inr (3, fs0))]) (va_A [(h0, .inr (3, fs0))] sz)) 0 0 (va_A [(h0, .inr (3, fs0))] sz) := by
  refine Met.ofW (cc := cX3_outputAt) (maxL := 2) (ret := (some .int)) (by decide) rfl ?_
  intro p e s m args below meth c s₁ B hml hv
  obtain ⟨rfl, hsz, hP, hK, hD0⟩ := hv
  have hx := B.exec
  have hb := B.bytes
  have hr := B.returns
  have hts := atoms_spec (ws := pw_c_X3_outputAt) B.pre
  have hown : s.vm.findClass RX3 = some m.cls := findClass_of_methodNamed B.named
  have hlocks := B.notSynchronized
  have hin_X3 : ∀ w ∈ u_ws RX3 TX3 14, w ∈ pw_c_X3_outputAt := fun w h => List.mem_cons_of_mem _ (List.mem_append_right _ (List.mem_append_left _ h))
  subst hsz
  have hD := hD0.self (sz := s.heap.size)
  generalize hAe : va_A [(h0, .inr (3, fs0))] s.heap.size = A at hD ⊢
  have hA : ∀ q : Nat, s.heap.size ≤ q → A q := fun q h => by rw [← hAe]; exact Or.inr h
  have hS : va_S A s.heap s.heap [] := va_S.rf
  have hP : va_P (dC, dI) vwCl [(h0, .inr (3, fs0))] s.heap := hP
  have hl := lv_entry ([.ref h0, .int p0]) (n := 2) (Nat.le_of_ble_eq_true rfl)
  rw [lg_entry_eq]
  generalize (lg_sl ([.ref h0, .int p0]) ++ List.replicate (2 - (lg_sl ([.ref h0, .int p0])).length) Slot.unset).toArray = ls at hl ⊢
  have hl : lv_has ls 2 [(0, .ref h0), (1, .int p0)] := hl
  refine lv_iload_n hx hb dX3_outputAt_0 rfl (lv_at hl 1 rfl) ?_
  refine lv_if_lt (tgt := 12) hx hb dX3_outputAt_1 (by decide) (fun c_1 => ?_) (fun c_1 => ?_)
  ·
    refine lv_iconst (v := 0) hx hb dX3_outputAt_12 (by decide) ?_
    refine lv_goto (tgt := 22) hx hb dX3_outputAt_13 (by decide) ?_
    have hP9 := hP.sub (ws' := [(h0, .inr (3, fs0))]) [0] rfl
    have hD9 := hD.sub (ws' := [(h0, .inr (3, fs0))]) [0] (by decide) rfl
    have hK9 := hK.sub (tys' := []) [] rfl
    exact W.iret (v := 0) hx hb hr (fun t ht hW => ⟨⟨0, (()), rfl, rfl, by rw [ht]; exact hP9, va_K.moved hW.alike hK9, hD9⟩, hS.F ht⟩) hS.2.2 dX3_outputAt_22
  ·
    refine lv_iload_n hx hb dX3_outputAt_4 rfl (lv_at hl 1 rfl) ?_
    refine lv_aload_n hx hb dX3_outputAt_5 rfl (lv_at hl 0 rfl) ?_
    refine va_get (D := (dC, dI)) (ci := 3) (v := .int 0) (C := RX3) (T := TX3) (N := 14) hx hb hts hin_X3 hown hK hP 0 rfl rfl 7 (by decide) (hts (.fieldLink RX3 53 "NeedHouse$Machine" "outputs" "I") (List.mem_of_getElem? (i := 1) rfl)) (fun _ h9 => h9) (hF0.at 0 rfl) dX3_outputAt_6 ?_
    refine lv_icmp_lt (tgt := 16) hx hb dX3_outputAt_9 (by decide) (fun c_2 => absurd c_2 (c_1)) (fun _ => ?_)
    refine lv_iconst (v := 0) hx hb dX3_outputAt_12 (by decide) ?_
    refine lv_goto (tgt := 22) hx hb dX3_outputAt_13 (by decide) ?_
    have hP9 := hP.sub (ws' := [(h0, .inr (3, fs0))]) [0] rfl
    have hD9 := hD.sub (ws' := [(h0, .inr (3, fs0))]) [0] (by decide) rfl
    have hK9 := hK.sub (tys' := []) [] rfl
    exact W.iret (v := 0) hx hb hr (fun t ht hW => ⟨⟨0, (()), rfl, rfl, by rw [ht]; exact hP9, va_K.moved hW.alike hK9, hD9⟩, hS.F ht⟩) hS.2.2 dX3_outputAt_22
def pw_c_X12_shown : List Cond := .code yX12_shown cX12_shown 2 (some .int) :: ([.fieldLink RX12 86 "NeedHouse" "machine" "LNeedHouse$Machine;", .fieldLink RX12 245 "NeedHouse$Machine" "text" "LNeedHouse$Sheet;", .methodLink RX12 201 yX6_at, .instanceMethod yX6_at, .selects RX6 yX6_at yX6_at, .initialized RX6, .code yX6_at cX6_at 2 (some .int), .fieldLink RX6 19 "NeedHouse$Sheet" "size" "I"] ++ (wsX120 ++ (wsX30 ++ (wsX60 ++ []))))
set_option maxRecDepth 20000 in
theorem g_c_X12_shown_c_X6_at_8 : GoodIn pw_c_X12_shown (wsV RX12 201 RX6 yX6_at pw_c_X6_at) := goodIn_r _ [3, 4, 5, 6, 7, 8, 37, 38, 39] rfl (by decide +kernel)
set_option maxHeartbeats 4000000 in
set_option maxRecDepth 100000 in
theorem c_X12_shown (l : Launch) (dC : Nat → ClassId) (dI : Nat → Nat → Nat) (sz : Nat) (h0 : Nat) (fs0 : List Value) (qm : Nat) (fsm : List Value) (qx : Nat) (fsx : List Value) (p0 : Int32) (hF0 : hasF fs0 14 [(9, .ref qm)]) (hFm : hasF fsm 14 [(5, .ref qx)]) (hFx : hasF fsx 3 [(2, .int 0)]) : Met l yX12_shown pw_c_X12_shown ({ frames := 1, cells := 0, slots := 0, locals := 21 }) (va_Pc [.ref h0, .int p0] (fun U => U.heap.size = sz ∧ va_P (dC, dI) vwCl [(h0, .inr (12, fs0)), (qm, .inr (3, fsm)), (qx, .inr (6, fsx))] U.heap ∧ va_K (dC, dI) vwCl [] U ∧ va_D (fun _ => True) [(h0, .inr (12, fs0)), (qm, .inr (3, fsm)), (qx, .inr (6, fsx))])) (va_Qi (fun (r : Int32) (u : Unit) => r = -1) (fun (u : Unit) (t : State) => va_P (dC, dI) vwCl [(h0, .inr (12, fs0)), (qm, .inr (3, fsm)), (qx, .inr (6, fsx))] t.heap ∧ va_K (dC, dI) vwCl [] t ∧ va_D (va_A [(h0, .inr (12, fs0)), (qm, .inr (3, fsm)), (qx, .inr (6, fsx))] sz) [(h0, .inr (12, fs0)), (qm, .inr (3, fsm)), (qx, .inr (6, fsx))]) (va_A [(h0, .inr (12, fs0)), (qm, .inr (3, fsm)), (qx, .inr (6, fsx))] sz)) 0 0 (va_A [(h0, .inr (12, fs0)), (qm, .inr (3, fsm)), (qx, .inr (6, fsx))] sz) := by
  refine Met.ofW (cc := cX12_shown) (maxL := 2) (ret := (some .int)) (by decide) rfl ?_
  intro p e s m args below meth c s₁ B hml hv
  obtain ⟨rfl, hsz, hP, hK, hD0⟩ := hv
  have hx := B.exec
  have hb := B.bytes
  have hr := B.returns
  have hts := atoms_spec (ws := pw_c_X12_shown) B.pre
  have hown : s.vm.findClass RX12 = some m.cls := findClass_of_methodNamed B.named
  have hlocks := B.notSynchronized
  have hin_X12 : ∀ w ∈ u_ws RX12 TX12 14, w ∈ pw_c_X12_shown := fun w h => List.mem_cons_of_mem _ (List.mem_append_right _ (List.mem_append_left _ h))
  have hin_X3 : ∀ w ∈ u_ws RX3 TX3 14, w ∈ pw_c_X12_shown := fun w h => List.mem_cons_of_mem _ (List.mem_append_right _ (List.mem_append_right _ (List.mem_append_left _ h)))
  have hin_X6 : ∀ w ∈ u_ws RX6 TX6 3, w ∈ pw_c_X12_shown := fun w h => List.mem_cons_of_mem _ (List.mem_append_right _ (List.mem_append_right _ (List.mem_append_right _ (List.mem_append_left _ h))))
  subst hsz
  have hD := hD0.self (sz := s.heap.size)
  generalize hAe : va_A [(h0, .inr (12, fs0)), (qm, .inr (3, fsm)), (qx, .inr (6, fsx))] s.heap.size = A at hD ⊢
  have hA : ∀ q : Nat, s.heap.size ≤ q → A q := fun q h => by rw [← hAe]; exact Or.inr h
  have hS : va_S A s.heap s.heap [] := va_S.rf
  have hP : va_P (dC, dI) vwCl [(h0, .inr (12, fs0)), (qm, .inr (3, fsm)), (qx, .inr (6, fsx))] s.heap := hP
  have hl := lv_entry ([.ref h0, .int p0]) (n := 2) (Nat.le_of_ble_eq_true rfl)
  rw [lg_entry_eq]
  generalize (lg_sl ([.ref h0, .int p0]) ++ List.replicate (2 - (lg_sl ([.ref h0, .int p0])).length) Slot.unset).toArray = ls at hl ⊢
  have hl : lv_has ls 2 [(0, .ref h0), (1, .int p0)] := hl
  refine lv_aload_n hx hb dX12_shown_0 rfl (lv_at hl 0 rfl) ?_
  refine va_get (D := (dC, dI)) (ci := 12) (v := .ref qm) (C := RX12) (T := TX12) (N := 14) hx hb hts hin_X12 hown hK hP 0 rfl rfl 9 (by decide) (hts (.fieldLink RX12 86 "NeedHouse" "machine" "LNeedHouse$Machine;") (List.mem_of_getElem? (i := 1) rfl)) (fun _ h9 => h9) (hF0.at 0 rfl) dX12_shown_1 ?_
  refine va_get (D := (dC, dI)) (ci := 3) (v := .ref qx) (C := RX3) (T := TX3) (N := 14) hx hb hts hin_X3 hown hK hP 1 rfl rfl 5 (by decide) (hts (.fieldLink RX12 245 "NeedHouse$Machine" "text" "LNeedHouse$Sheet;") (List.mem_of_getElem? (i := 2) rfl)) (fun _ h9 => h9) (hFm.at 0 rfl) dX12_shown_4 ?_
  refine lv_iload_n hx hb dX12_shown_7 rfl (lv_at hl 1 rfl) ?_
  have hPc := hP.sub (ws' := [(qx, .inr (6, fsx))]) [2] rfl
  have hDc := hD.sub (ws' := [(qx, .inr (6, fsx))]) [2] (by decide) rfl
  have hKc := hK.sub (tys' := []) [] rfl
  have hFc := va_free (wc := [(qx, .inr (6, fsx))]) hD hS hA [2] rfl
  refine va_calli (va_runV (As := [.int p0]) (rest := []) ⟨hx, hb, hml, hown, hts⟩ (c_X6_at l dC dI s.heap.size qx fsx p0 (hFx.sub [0] rfl)) (cwV 1 hts g_c_X12_shown_c_X6_at_8 rfl rfl rfl (by decide +kernel) ⟨Nat.le_of_ble_eq_true rfl, Nat.le_of_ble_eq_true rfl⟩) ⟨fun a U g mk q => by obtain ⟨q0, q1, qP, qK, qD⟩ := q; exact ⟨q0, q1, qP, va_K.moved (u := U) (U := U.calling g mk a) (Vm.Alike.refl U.vm) qK, qD⟩, va_recv hKc hPc (ci := 6) (q0 := 0) rfl rfl, fun U hU hW => ⟨rfl, by rw [hU], by rw [hU]; exact hPc, va_K.moved hW.alike hKc, hDc.weaken (fun _ _ _ _ => trivial)⟩⟩ rfl rfl hl.1 rfl (lv_room (Nat.le_of_ble_eq_true rfl)) dX12_shown_8 ⟨show 0 + 0 ≤ 0 by decide, show 0 + 0 ≤ 0 by decide⟩) hS (fun q _ h => hFc q h) hFc (fun r_1 u t H1 locs ht hvm hw hB hz1 hk1 hS => ?_)
  obtain ⟨hP1, hK1, hD1⟩ := hB
  rw [ht] at hP1
  have hK1 := va_K.moved hvm.symm hK1
  try dsimp only at hw hP1 hK1 hD1
  have hr_3 := hw
  obtain ⟨hP, hD⟩ := va_join (wr := [(h0, .inr (12, fs0)), (qm, .inr (3, fsm))]) (w1 := [(qx, .inr (6, fsx))]) hP hD [2] [0, 1] rfl rfl (by decide) (by decide) hk1 hFc hP1 hD1
  generalize H1 = H at hP hS ⊢
  have hK := (hK.sub (tys' := []) [] rfl).app hK1
  have hK : va_K (dC, dI) vwCl [] s := hK
  have hP : va_P (dC, dI) vwCl [(h0, .inr (12, fs0)), (qm, .inr (3, fsm)), (qx, .inr (6, fsx))] H := hP
  have hD : va_D A [(h0, .inr (12, fs0)), (qm, .inr (3, fsm)), (qx, .inr (6, fsx))] := hD
  subst hr_3
  have hP9 := hP.sub (ws' := [(h0, .inr (12, fs0)), (qm, .inr (3, fsm)), (qx, .inr (6, fsx))]) [0, 1, 2] rfl
  have hD9 := hD.sub (ws' := [(h0, .inr (12, fs0)), (qm, .inr (3, fsm)), (qx, .inr (6, fsx))]) [0, 1, 2] (by decide) rfl
  have hK9 := hK.sub (tys' := []) [] rfl
  exact W.iret (v := (-1)) hx hb hr (fun t ht hW => ⟨⟨(-1), (()), rfl, rfl, by rw [ht]; exact hP9, va_K.moved hW.alike hK9, hD9⟩, hS.F ht⟩) hS.2.2 dX12_shown_11
def pw_c_X12_said : List Cond := .code yX12_said cX12_said 2 (some .int) :: ([.fieldLink RX12 86 "NeedHouse" "machine" "LNeedHouse$Machine;", .methodLink RX12 248 yX3_outputAt, .instanceMethod yX3_outputAt, .selects RX3 yX3_outputAt yX3_outputAt, .initialized RX3, .code yX3_outputAt cX3_outputAt 2 (some .int), .fieldLink RX3 53 "NeedHouse$Machine" "outputs" "I"] ++ (wsX120 ++ (wsX30 ++ [])))
set_option maxRecDepth 20000 in
theorem g_c_X12_said_c_X3_outputAt_5 : GoodIn pw_c_X12_said (wsV RX12 248 RX3 yX3_outputAt pw_c_X3_outputAt) := goodIn_r _ [2, 3, 4, 5, 6, 7, 22, 23, 24, 25, 26, 27, 28, 29, 30, 31, 32, 33, 34, 35] rfl (by decide +kernel)
set_option maxHeartbeats 4000000 in
set_option maxRecDepth 100000 in
theorem c_X12_said (l : Launch) (dC : Nat → ClassId) (dI : Nat → Nat → Nat) (sz : Nat) (h0 : Nat) (fs0 : List Value) (qm : Nat) (fsm : List Value) (p0 : Int32) (hF0 : hasF fs0 14 [(9, .ref qm)]) (hFm : hasF fsm 14 [(7, .int 0)]) : Met l yX12_said pw_c_X12_said ({ frames := 1, cells := 0, slots := 0, locals := 21 }) (va_Pc [.ref h0, .int p0] (fun U => U.heap.size = sz ∧ va_P (dC, dI) vwCl [(h0, .inr (12, fs0)), (qm, .inr (3, fsm))] U.heap ∧ va_K (dC, dI) vwCl [] U ∧ va_D (fun _ => True) [(h0, .inr (12, fs0)), (qm, .inr (3, fsm))])) (va_Qi (fun (r : Int32) (u : Unit) => r = 0) (fun (u : Unit) (t : State) => va_P (dC, dI) vwCl [(h0, .inr (12, fs0)), (qm, .inr (3, fsm))] t.heap ∧ va_K (dC, dI) vwCl [] t ∧ va_D (va_A [(h0, .inr (12, fs0)), (qm, .inr (3, fsm))] sz) [(h0, .inr (12, fs0)), (qm, .inr (3, fsm))]) (va_A [(h0, .inr (12, fs0)), (qm, .inr (3, fsm))] sz)) 0 0 (va_A [(h0, .inr (12, fs0)), (qm, .inr (3, fsm))] sz) := by
  refine Met.ofW (cc := cX12_said) (maxL := 2) (ret := (some .int)) (by decide) rfl ?_
  intro p e s m args below meth c s₁ B hml hv
  obtain ⟨rfl, hsz, hP, hK, hD0⟩ := hv
  have hx := B.exec
  have hb := B.bytes
  have hr := B.returns
  have hts := atoms_spec (ws := pw_c_X12_said) B.pre
  have hown : s.vm.findClass RX12 = some m.cls := findClass_of_methodNamed B.named
  have hlocks := B.notSynchronized
  have hin_X12 : ∀ w ∈ u_ws RX12 TX12 14, w ∈ pw_c_X12_said := fun w h => List.mem_cons_of_mem _ (List.mem_append_right _ (List.mem_append_left _ h))
  have hin_X3 : ∀ w ∈ u_ws RX3 TX3 14, w ∈ pw_c_X12_said := fun w h => List.mem_cons_of_mem _ (List.mem_append_right _ (List.mem_append_right _ (List.mem_append_left _ h)))
  subst hsz
  have hD := hD0.self (sz := s.heap.size)
  generalize hAe : va_A [(h0, .inr (12, fs0)), (qm, .inr (3, fsm))] s.heap.size = A at hD ⊢
  have hA : ∀ q : Nat, s.heap.size ≤ q → A q := fun q h => by rw [← hAe]; exact Or.inr h
  have hS : va_S A s.heap s.heap [] := va_S.rf
  have hP : va_P (dC, dI) vwCl [(h0, .inr (12, fs0)), (qm, .inr (3, fsm))] s.heap := hP
  have hl := lv_entry ([.ref h0, .int p0]) (n := 2) (Nat.le_of_ble_eq_true rfl)
  rw [lg_entry_eq]
  generalize (lg_sl ([.ref h0, .int p0]) ++ List.replicate (2 - (lg_sl ([.ref h0, .int p0])).length) Slot.unset).toArray = ls at hl ⊢
  have hl : lv_has ls 2 [(0, .ref h0), (1, .int p0)] := hl
  refine lv_aload_n hx hb dX12_said_0 rfl (lv_at hl 0 rfl) ?_
  refine va_get (D := (dC, dI)) (ci := 12) (v := .ref qm) (C := RX12) (T := TX12) (N := 14) hx hb hts hin_X12 hown hK hP 0 rfl rfl 9 (by decide) (hts (.fieldLink RX12 86 "NeedHouse" "machine" "LNeedHouse$Machine;") (List.mem_of_getElem? (i := 1) rfl)) (fun _ h9 => h9) (hF0.at 0 rfl) dX12_said_1 ?_
  refine lv_iload_n hx hb dX12_said_4 rfl (lv_at hl 1 rfl) ?_
  have hPc := hP.sub (ws' := [(qm, .inr (3, fsm))]) [1] rfl
  have hDc := hD.sub (ws' := [(qm, .inr (3, fsm))]) [1] (by decide) rfl
  have hKc := hK.sub (tys' := []) [] rfl
  have hFc := va_free (wc := [(qm, .inr (3, fsm))]) hD hS hA [1] rfl
  refine va_calli (va_runV (As := [.int p0]) (rest := []) ⟨hx, hb, hml, hown, hts⟩ (c_X3_outputAt l dC dI s.heap.size qm fsm p0 (hFm.sub [0] rfl)) (cwV 1 hts g_c_X12_said_c_X3_outputAt_5 rfl rfl rfl (by decide +kernel) ⟨Nat.le_of_ble_eq_true rfl, Nat.le_of_ble_eq_true rfl⟩) ⟨fun a U g mk q => by obtain ⟨q0, q1, qP, qK, qD⟩ := q; exact ⟨q0, q1, qP, va_K.moved (u := U) (U := U.calling g mk a) (Vm.Alike.refl U.vm) qK, qD⟩, va_recv hKc hPc (ci := 3) (q0 := 0) rfl rfl, fun U hU hW => ⟨rfl, by rw [hU], by rw [hU]; exact hPc, va_K.moved hW.alike hKc, hDc.weaken (fun _ _ _ _ => trivial)⟩⟩ rfl rfl hl.1 rfl (lv_room (Nat.le_of_ble_eq_true rfl)) dX12_said_5 ⟨show 0 + 0 ≤ 0 by decide, show 0 + 0 ≤ 0 by decide⟩) hS (fun q _ h => hFc q h) hFc (fun r_1 u t H1 locs ht hvm hw hB hz1 hk1 hS => ?_)
  obtain ⟨hP1, hK1, hD1⟩ := hB
  rw [ht] at hP1
  have hK1 := va_K.moved hvm.symm hK1
  try dsimp only at hw hP1 hK1 hD1
  have hr_3 := hw
  obtain ⟨hP, hD⟩ := va_join (wr := [(h0, .inr (12, fs0))]) (w1 := [(qm, .inr (3, fsm))]) hP hD [1] [0] rfl rfl (by decide) (by decide) hk1 hFc hP1 hD1
  generalize H1 = H at hP hS ⊢
  have hK := (hK.sub (tys' := []) [] rfl).app hK1
  have hK : va_K (dC, dI) vwCl [] s := hK
  have hP : va_P (dC, dI) vwCl [(h0, .inr (12, fs0)), (qm, .inr (3, fsm))] H := hP
  have hD : va_D A [(h0, .inr (12, fs0)), (qm, .inr (3, fsm))] := hD
  subst hr_3
  have hP9 := hP.sub (ws' := [(h0, .inr (12, fs0)), (qm, .inr (3, fsm))]) [0, 1] rfl
  have hD9 := hD.sub (ws' := [(h0, .inr (12, fs0)), (qm, .inr (3, fsm))]) [0, 1] (by decide) rfl
  have hK9 := hK.sub (tys' := []) [] rfl
  exact W.iret (v := 0) hx hb hr (fun t ht hW => ⟨⟨0, (()), rfl, rfl, by rw [ht]; exact hP9, va_K.moved hW.alike hK9, hD9⟩, hS.F ht⟩) hS.2.2 dX12_said_8
def pw_c_X3_goesOn : List Cond := .code yX3_goesOn cX3_goesOn 1 (some .boolean) :: ([.fieldLink RX3 49 "NeedHouse$Machine" "state" "I"] ++ (wsX30 ++ []))
set_option maxHeartbeats 4000000 in
set_option maxRecDepth 100000 in
theorem c_X3_goesOn (l : Launch) (dC : Nat → ClassId) (dI : Nat → Nat → Nat) (sz : Nat) (h0 : Nat) (fs0 : List Value) (hF0 : hasF fs0 14 [(8, .int 0)]) : Met l yX3_goesOn pw_c_X3_goesOn ({ frames := 0, cells := 0, slots := 0, locals := 0 }) (va_Pc [.ref h0] (fun U => U.heap.size = sz ∧ va_P (dC, dI) vwCl [(h0, .inr (3, fs0))] U.heap ∧ va_K (dC, dI) vwCl [] U ∧ va_D (fun _ => True) [(h0, .inr (3, fs0))])) (va_Qi (fun (r : Int32) (u : Unit) => r = 0) (fun (u : Unit) (t : State) => va_P (dC, dI) vwCl [(h0, .inr (3, fs0))] t.heap ∧ va_K (dC, dI) vwCl [] t ∧ va_D (va_A [(h0, .inr (3, fs0))] sz) [(h0, .inr (3, fs0))]) (va_A [(h0, .inr (3, fs0))] sz)) 0 0 (va_A [(h0, .inr (3, fs0))] sz) := by
  refine Met.ofW (cc := cX3_goesOn) (maxL := 1) (ret := (some .boolean)) (by decide) rfl ?_
  intro p e s m args below meth c s₁ B hml hv
  obtain ⟨rfl, hsz, hP, hK, hD0⟩ := hv
  have hx := B.exec
  have hb := B.bytes
  have hr := B.returns
  have hts := atoms_spec (ws := pw_c_X3_goesOn) B.pre
  have hown : s.vm.findClass RX3 = some m.cls := findClass_of_methodNamed B.named
  have hlocks := B.notSynchronized
  have hin_X3 : ∀ w ∈ u_ws RX3 TX3 14, w ∈ pw_c_X3_goesOn := fun w h => List.mem_cons_of_mem _ (List.mem_append_right _ (List.mem_append_left _ h))
  subst hsz
  have hD := hD0.self (sz := s.heap.size)
  generalize hAe : va_A [(h0, .inr (3, fs0))] s.heap.size = A at hD ⊢
  have hA : ∀ q : Nat, s.heap.size ≤ q → A q := fun q h => by rw [← hAe]; exact Or.inr h
  have hS : va_S A s.heap s.heap [] := va_S.rf
  have hP : va_P (dC, dI) vwCl [(h0, .inr (3, fs0))] s.heap := hP
  have hl := lv_entry ([.ref h0]) (n := 1) (Nat.le_of_ble_eq_true rfl)
  rw [lg_entry_eq]
  generalize (lg_sl ([.ref h0]) ++ List.replicate (1 - (lg_sl ([.ref h0])).length) Slot.unset).toArray = ls at hl ⊢
  have hl : lv_has ls 1 [(0, .ref h0)] := hl
  refine lv_aload_n hx hb dX3_goesOn_0 rfl (lv_at hl 0 rfl) ?_
  refine va_get (D := (dC, dI)) (ci := 3) (v := .int 0) (C := RX3) (T := TX3) (N := 14) hx hb hts hin_X3 hown hK hP 0 rfl rfl 8 (by decide) (hts (.fieldLink RX3 49 "NeedHouse$Machine" "state" "I") (List.mem_of_getElem? (i := 1) rfl)) (fun _ h9 => h9) (hF0.at 0 rfl) dX3_goesOn_1 ?_
  refine lv_iconst (v := 1) hx hb dX3_goesOn_4 (by decide) ?_
  refine lv_icmp_ne (tgt := 12) hx hb dX3_goesOn_5 (by decide) (fun _ => ?_) (fun c_1 => absurd c_1 (by decide))
  refine lv_iconst (v := 0) hx hb dX3_goesOn_12 (by decide) ?_
  have hP9 := hP.sub (ws' := [(h0, .inr (3, fs0))]) [0] rfl
  have hD9 := hD.sub (ws' := [(h0, .inr (3, fs0))]) [0] (by decide) rfl
  have hK9 := hK.sub (tys' := []) [] rfl
  exact W.zret (v := 0) hx hb hr (by first | rfl | decide +kernel) (fun t ht hW => ⟨⟨0, (()), rfl, rfl, by rw [ht]; exact hP9, va_K.moved hW.alike hK9, hD9⟩, hS.F ht⟩) hS.2.2 dX3_goesOn_13
