theorem dX12_goOn_15 : decode cX12_goOn 15 = .ok (.bipush 32, 2) := by decide +kernel
theorem dX12_goOn_17 : decode cX12_goOn 17 = .ok (.invokevirtual 193, 3) := by decide +kernel
theorem dX12_goOn_20 : decode cX12_goOn 20 = .ok (.ifCond .eq 16, 3) := by decide +kernel
theorem dX12_goOn_23 : decode cX12_goOn 23 = .ok (.aload_n 0, 1) := by decide +kernel
theorem dX12_goOn_24 : decode cX12_goOn 24 = .ok (.dup, 1) := by decide +kernel
theorem dX12_goOn_25 : decode cX12_goOn 25 = .ok (.getfield 190, 3) := by decide +kernel
theorem dX12_goOn_28 : decode cX12_goOn 28 = .ok (.iconst 1, 1) := by decide +kernel
theorem dX12_goOn_29 : decode cX12_goOn 29 = .ok (.iadd, 1) := by decide +kernel
theorem dX12_goOn_30 : decode cX12_goOn 30 = .ok (.putfield 190, 3) := by decide +kernel
theorem dX12_goOn_33 : decode cX12_goOn 33 = .ok (.goto (-25), 3) := by decide +kernel
theorem dX12_goOn_36 : decode cX12_goOn 36 = .ok (.aload_n 0, 1) := by decide +kernel
theorem dX12_goOn_37 : decode cX12_goOn 37 = .ok (.aload_n 0, 1) := by decide +kernel
theorem dX12_goOn_38 : decode cX12_goOn 38 = .ok (.getfield 190, 3) := by decide +kernel
theorem dX12_goOn_41 : decode cX12_goOn 41 = .ok (.putfield 186, 3) := by decide +kernel
theorem dX12_goOn_44 : decode cX12_goOn 44 = .ok (.aload_n 0, 1) := by decide +kernel
theorem dX12_goOn_45 : decode cX12_goOn 45 = .ok (.aload_n 0, 1) := by decide +kernel
theorem dX12_goOn_46 : decode cX12_goOn 46 = .ok (.getfield 190, 3) := by decide +kernel
theorem dX12_goOn_49 : decode cX12_goOn 49 = .ok (.bipush 97, 2) := by decide +kernel
theorem dX12_goOn_51 : decode cX12_goOn 51 = .ok (.bipush 122, 2) := by decide +kernel
theorem dX12_goOn_53 : decode cX12_goOn 53 = .ok (.invokevirtual 193, 3) := by decide +kernel
theorem dX12_goOn_56 : decode cX12_goOn 56 = .ok (.istore_n 1, 1) := by decide +kernel
theorem dX12_goOn_57 : decode cX12_goOn 57 = .ok (.aload_n 0, 1) := by decide +kernel
theorem dX12_goOn_58 : decode cX12_goOn 58 = .ok (.aload_n 0, 1) := by decide +kernel
theorem dX12_goOn_59 : decode cX12_goOn 59 = .ok (.getfield 190, 3) := by decide +kernel
theorem dX12_goOn_62 : decode cX12_goOn 62 = .ok (.bipush 48, 2) := by decide +kernel
theorem dX12_goOn_64 : decode cX12_goOn 64 = .ok (.bipush 57, 2) := by decide +kernel
theorem dX12_goOn_66 : decode cX12_goOn 66 = .ok (.invokevirtual 193, 3) := by decide +kernel
theorem dX12_goOn_69 : decode cX12_goOn 69 = .ok (.istore_n 2, 1) := by decide +kernel
theorem dX12_goOn_70 : decode cX12_goOn 70 = .ok (.aload_n 0, 1) := by decide +kernel
theorem dX12_goOn_71 : decode cX12_goOn 71 = .ok (.dup, 1) := by decide +kernel
theorem dX12_goOn_72 : decode cX12_goOn 72 = .ok (.getfield 186, 3) := by decide +kernel
theorem dX12_goOn_75 : decode cX12_goOn 75 = .ok (.aload_n 0, 1) := by decide +kernel
theorem dX12_goOn_76 : decode cX12_goOn 76 = .ok (.getfield 190, 3) := by decide +kernel
theorem dX12_goOn_79 : decode cX12_goOn 79 = .ok (.aload_n 0, 1) := by decide +kernel
theorem dX12_goOn_80 : decode cX12_goOn 80 = .ok (.getfield 9, 3) := by decide +kernel
theorem dX12_goOn_83 : decode cX12_goOn 83 = .ok (.iconst 5, 1) := by decide +kernel
theorem dX12_goOn_84 : decode cX12_goOn 84 = .ok (.iaload, 1) := by decide +kernel
theorem dX12_goOn_85 : decode cX12_goOn 85 = .ok (.if_icmp .ge 7, 3) := by decide +kernel
theorem dX12_goOn_88 : decode cX12_goOn 88 = .ok (.iconst 1, 1) := by decide +kernel
theorem dX12_goOn_89 : decode cX12_goOn 89 = .ok (.goto 4, 3) := by decide +kernel
theorem dX12_goOn_92 : decode cX12_goOn 92 = .ok (.iconst 0, 1) := by decide +kernel
theorem dX12_goOn_93 : decode cX12_goOn 93 = .ok (.iadd, 1) := by decide +kernel
theorem dX12_goOn_94 : decode cX12_goOn 94 = .ok (.putfield 186, 3) := by decide +kernel
theorem dX12_goOn_97 : decode cX12_goOn 97 = .ok (.iload_n 1, 1) := by decide +kernel
theorem dX12_goOn_98 : decode cX12_goOn 98 = .ok (.ifCond .eq 18, 3) := by decide +kernel
theorem dX12_goOn_101 : decode cX12_goOn 101 = .ok (.aload_n 0, 1) := by decide +kernel
theorem dX12_goOn_102 : decode cX12_goOn 102 = .ok (.aload_n 0, 1) := by decide +kernel
theorem dX12_goOn_103 : decode cX12_goOn 103 = .ok (.getfield 186, 3) := by decide +kernel
theorem dX12_goOn_106 : decode cX12_goOn 106 = .ok (.bipush 97, 2) := by decide +kernel
theorem dX12_goOn_108 : decode cX12_goOn 108 = .ok (.bipush 122, 2) := by decide +kernel
theorem dX12_goOn_110 : decode cX12_goOn 110 = .ok (.invokevirtual 193, 3) := by decide +kernel
theorem dX12_goOn_113 : decode cX12_goOn 113 = .ok (.ifCond .ne 22, 3) := by decide +kernel
theorem dX12_goOn_116 : decode cX12_goOn 116 = .ok (.iload_n 2, 1) := by decide +kernel
theorem dX12_goOn_117 : decode cX12_goOn 117 = .ok (.ifCond .eq 31, 3) := by decide +kernel
theorem dX12_goOn_120 : decode cX12_goOn 120 = .ok (.aload_n 0, 1) := by decide +kernel
theorem dX12_goOn_121 : decode cX12_goOn 121 = .ok (.aload_n 0, 1) := by decide +kernel
theorem dX12_goOn_122 : decode cX12_goOn 122 = .ok (.getfield 186, 3) := by decide +kernel
theorem dX12_goOn_125 : decode cX12_goOn 125 = .ok (.bipush 48, 2) := by decide +kernel
theorem dX12_goOn_127 : decode cX12_goOn 127 = .ok (.bipush 57, 2) := by decide +kernel
theorem dX12_goOn_129 : decode cX12_goOn 129 = .ok (.invokevirtual 193, 3) := by decide +kernel
theorem dX12_goOn_132 : decode cX12_goOn 132 = .ok (.ifCond .eq 16, 3) := by decide +kernel
theorem dX12_goOn_135 : decode cX12_goOn 135 = .ok (.aload_n 0, 1) := by decide +kernel
theorem dX12_goOn_136 : decode cX12_goOn 136 = .ok (.dup, 1) := by decide +kernel
theorem dX12_goOn_137 : decode cX12_goOn 137 = .ok (.getfield 186, 3) := by decide +kernel
theorem dX12_goOn_140 : decode cX12_goOn 140 = .ok (.iconst 1, 1) := by decide +kernel
theorem dX12_goOn_141 : decode cX12_goOn 141 = .ok (.iadd, 1) := by decide +kernel
theorem dX12_goOn_142 : decode cX12_goOn 142 = .ok (.putfield 186, 3) := by decide +kernel
theorem dX12_goOn_145 : decode cX12_goOn 145 = .ok (.goto (-48), 3) := by decide +kernel
theorem dX12_goOn_148 : decode cX12_goOn 148 = .ok (.return_, 1) := by decide +kernel
theorem dX12_isAt_0 : decode cX12_isAt 0 = .ok (.aload_n 0, 1) := by decide +kernel
theorem dX12_isAt_1 : decode cX12_isAt 1 = .ok (.getfield 196, 3) := by decide +kernel
theorem dX12_isAt_4 : decode cX12_isAt 4 = .ok (.ifCond .ne 23, 3) := by decide +kernel
theorem dX12_isAt_7 : decode cX12_isAt 7 = .ok (.aload_n 0, 1) := by decide +kernel
theorem dX12_isAt_8 : decode cX12_isAt 8 = .ok (.getfield 186, 3) := by decide +kernel
theorem dX12_isAt_11 : decode cX12_isAt 11 = .ok (.aload_n 0, 1) := by decide +kernel
theorem dX12_isAt_12 : decode cX12_isAt 12 = .ok (.getfield 190, 3) := by decide +kernel
theorem dX12_isAt_15 : decode cX12_isAt 15 = .ok (.isub, 1) := by decide +kernel
theorem dX12_isAt_16 : decode cX12_isAt 16 = .ok (.aload_n 1, 1) := by decide +kernel
theorem dX12_isAt_17 : decode cX12_isAt 17 = .ok (.invokevirtual 200, 3) := by decide +kernel
theorem dX12_isAt_20 : decode cX12_isAt 20 = .ok (.if_icmp .ne 7, 3) := by decide +kernel
theorem dX12_isAt_23 : decode cX12_isAt 23 = .ok (.iconst 1, 1) := by decide +kernel
theorem dX12_isAt_24 : decode cX12_isAt 24 = .ok (.goto 4, 3) := by decide +kernel
theorem dX12_isAt_27 : decode cX12_isAt 27 = .ok (.iconst 0, 1) := by decide +kernel
theorem dX12_isAt_28 : decode cX12_isAt 28 = .ok (.istore_n 2, 1) := by decide +kernel
theorem dX12_isAt_29 : decode cX12_isAt 29 = .ok (.iconst 0, 1) := by decide +kernel
theorem dX12_isAt_30 : decode cX12_isAt 30 = .ok (.istore_n 3, 1) := by decide +kernel
theorem dX12_isAt_31 : decode cX12_isAt 31 = .ok (.iload_n 2, 1) := by decide +kernel
theorem dX12_isAt_32 : decode cX12_isAt 32 = .ok (.ifCond .eq 46, 3) := by decide +kernel
theorem dX12_isAt_35 : decode cX12_isAt 35 = .ok (.iload_n 3, 1) := by decide +kernel
theorem dX12_isAt_36 : decode cX12_isAt 36 = .ok (.aload_n 1, 1) := by decide +kernel
theorem dX12_isAt_37 : decode cX12_isAt 37 = .ok (.invokevirtual 200, 3) := by decide +kernel
theorem dX12_isAt_40 : decode cX12_isAt 40 = .ok (.if_icmp .ge 38, 3) := by decide +kernel
theorem dX12_isAt_43 : decode cX12_isAt 43 = .ok (.aload_n 0, 1) := by decide +kernel
theorem dX12_isAt_44 : decode cX12_isAt 44 = .ok (.getfield 9, 3) := by decide +kernel
theorem dX12_isAt_47 : decode cX12_isAt 47 = .ok (.sipush 1328, 3) := by decide +kernel
theorem dX12_isAt_50 : decode cX12_isAt 50 = .ok (.aload_n 0, 1) := by decide +kernel
theorem dX12_isAt_51 : decode cX12_isAt 51 = .ok (.getfield 190, 3) := by decide +kernel
theorem dX12_isAt_54 : decode cX12_isAt 54 = .ok (.iadd, 1) := by decide +kernel
theorem dX12_isAt_55 : decode cX12_isAt 55 = .ok (.iload_n 3, 1) := by decide +kernel
theorem dX12_isAt_56 : decode cX12_isAt 56 = .ok (.iadd, 1) := by decide +kernel
theorem dX12_isAt_57 : decode cX12_isAt 57 = .ok (.iaload, 1) := by decide +kernel
theorem dX12_isAt_58 : decode cX12_isAt 58 = .ok (.aload_n 1, 1) := by decide +kernel
theorem dX12_isAt_59 : decode cX12_isAt 59 = .ok (.iload_n 3, 1) := by decide +kernel
theorem dX12_isAt_60 : decode cX12_isAt 60 = .ok (.invokevirtual 203, 3) := by decide +kernel
theorem dX12_isAt_63 : decode cX12_isAt 63 = .ok (.if_icmp .ne 7, 3) := by decide +kernel
theorem dX12_isAt_66 : decode cX12_isAt 66 = .ok (.iconst 1, 1) := by decide +kernel
theorem dX12_isAt_67 : decode cX12_isAt 67 = .ok (.goto 4, 3) := by decide +kernel
theorem dX12_isAt_70 : decode cX12_isAt 70 = .ok (.iconst 0, 1) := by decide +kernel
theorem dX12_isAt_71 : decode cX12_isAt 71 = .ok (.istore_n 2, 1) := by decide +kernel
theorem dX12_isAt_72 : decode cX12_isAt 72 = .ok (.iinc 3 1, 3) := by decide +kernel
theorem dX12_isAt_75 : decode cX12_isAt 75 = .ok (.goto (-44), 3) := by decide +kernel
theorem dX12_isAt_78 : decode cX12_isAt 78 = .ok (.iload_n 2, 1) := by decide +kernel
theorem dX12_isAt_79 : decode cX12_isAt 79 = .ok (.ireturn, 1) := by decide +kernel
theorem dX12_takes_0 : decode cX12_takes 0 = .ok (.aload_n 0, 1) := by decide +kernel
theorem dX12_takes_1 : decode cX12_takes 1 = .ok (.aload_n 1, 1) := by decide +kernel
theorem dX12_takes_2 : decode cX12_takes 2 = .ok (.invokevirtual 207, 3) := by decide +kernel
theorem dX12_takes_5 : decode cX12_takes 5 = .ok (.istore_n 2, 1) := by decide +kernel
theorem dX12_takes_6 : decode cX12_takes 6 = .ok (.iload_n 2, 1) := by decide +kernel
theorem dX12_takes_7 : decode cX12_takes 7 = .ok (.ifCond .eq 7, 3) := by decide +kernel
theorem dX12_takes_10 : decode cX12_takes 10 = .ok (.aload_n 0, 1) := by decide +kernel
theorem dX12_takes_11 : decode cX12_takes 11 = .ok (.invokevirtual 211, 3) := by decide +kernel
theorem dX12_takes_14 : decode cX12_takes 14 = .ok (.iload_n 2, 1) := by decide +kernel
theorem dX12_takes_15 : decode cX12_takes 15 = .ok (.ireturn, 1) := by decide +kernel
theorem dX12_must_0 : decode cX12_must 0 = .ok (.aload_n 0, 1) := by decide +kernel
theorem dX12_must_1 : decode cX12_must 1 = .ok (.aload_n 0, 1) := by decide +kernel
theorem dX12_must_2 : decode cX12_must 2 = .ok (.aload_n 1, 1) := by decide +kernel
theorem dX12_must_3 : decode cX12_must 3 = .ok (.invokevirtual 214, 3) := by decide +kernel
theorem dX12_must_6 : decode cX12_must 6 = .ok (.ifCond .ne 7, 3) := by decide +kernel
theorem dX12_must_9 : decode cX12_must 9 = .ok (.iconst 1, 1) := by decide +kernel
theorem dX12_must_10 : decode cX12_must 10 = .ok (.goto 4, 3) := by decide +kernel
theorem dX12_must_13 : decode cX12_must 13 = .ok (.iconst 0, 1) := by decide +kernel
theorem dX12_must_14 : decode cX12_must 14 = .ok (.putfield 196, 3) := by decide +kernel
theorem dX12_must_17 : decode cX12_must 17 = .ok (.return_, 1) := by decide +kernel
theorem dX12_codes_0 : decode cX12_codes 0 = .ok (.aload_n 0, 1) := by decide +kernel
theorem dX12_codes_1 : decode cX12_codes 1 = .ok (.getfield 196, 3) := by decide +kernel
theorem dX12_codes_4 : decode cX12_codes 4 = .ok (.ifCond .ne 23, 3) := by decide +kernel
theorem dX12_codes_7 : decode cX12_codes 7 = .ok (.aload_n 0, 1) := by decide +kernel
theorem dX12_codes_8 : decode cX12_codes 8 = .ok (.getfield 34, 3) := by decide +kernel
theorem dX12_codes_11 : decode cX12_codes 11 = .ok (.aload_n 0, 1) := by decide +kernel
theorem dX12_codes_12 : decode cX12_codes 12 = .ok (.getfield 217, 3) := by decide +kernel
theorem dX12_codes_15 : decode cX12_codes 15 = .ok (.iload_n 1, 1) := by decide +kernel
theorem dX12_codes_16 : decode cX12_codes 16 = .ok (.iastore, 1) := by decide +kernel
theorem dX12_codes_17 : decode cX12_codes 17 = .ok (.aload_n 0, 1) := by decide +kernel
theorem dX12_codes_18 : decode cX12_codes 18 = .ok (.dup, 1) := by decide +kernel
theorem dX12_codes_19 : decode cX12_codes 19 = .ok (.getfield 217, 3) := by decide +kernel
theorem dX12_codes_22 : decode cX12_codes 22 = .ok (.iconst 1, 1) := by decide +kernel
theorem dX12_codes_23 : decode cX12_codes 23 = .ok (.iadd, 1) := by decide +kernel
theorem dX12_codes_24 : decode cX12_codes 24 = .ok (.putfield 217, 3) := by decide +kernel
theorem dX12_codes_27 : decode cX12_codes 27 = .ok (.return_, 1) := by decide +kernel
theorem dX12_text_0 : decode cX12_text 0 = .ok (.aload_n 0, 1) := by decide +kernel
theorem dX12_text_1 : decode cX12_text 1 = .ok (.invokevirtual 220, 3) := by decide +kernel
theorem dX12_text_4 : decode cX12_text 4 = .ok (.aload_n 0, 1) := by decide +kernel
theorem dX12_text_5 : decode cX12_text 5 = .ok (.ldc 223, 2) := by decide +kernel
theorem dX12_text_7 : decode cX12_text 7 = .ok (.invokevirtual 214, 3) := by decide +kernel
theorem dX12_text_10 : decode cX12_text 10 = .ok (.ifCond .eq 17, 3) := by decide +kernel
theorem dX12_text_13 : decode cX12_text 13 = .ok (.aload_n 0, 1) := by decide +kernel
theorem dX12_text_14 : decode cX12_text 14 = .ok (.invokevirtual 220, 3) := by decide +kernel
theorem dX12_text_17 : decode cX12_text 17 = .ok (.aload_n 0, 1) := by decide +kernel
theorem dX12_text_18 : decode cX12_text 18 = .ok (.sipush 20000, 3) := by decide +kernel
theorem dX12_text_21 : decode cX12_text 21 = .ok (.invokevirtual 225, 3) := by decide +kernel
theorem dX12_text_24 : decode cX12_text 24 = .ok (.goto (-20), 3) := by decide +kernel
theorem dX12_text_27 : decode cX12_text 27 = .ok (.return_, 1) := by decide +kernel
theorem dX12_both_0 : decode cX12_both 0 = .ok (.aload_n 0, 1) := by decide +kernel
theorem dX12_both_1 : decode cX12_both 1 = .ok (.invokevirtual 229, 3) := by decide +kernel
theorem dX12_both_4 : decode cX12_both 4 = .ok (.aload_n 0, 1) := by decide +kernel
theorem dX12_both_5 : decode cX12_both 5 = .ok (.ldc 232, 2) := by decide +kernel
theorem dX12_both_7 : decode cX12_both 7 = .ok (.invokevirtual 214, 3) := by decide +kernel
theorem dX12_both_10 : decode cX12_both 10 = .ok (.ifCond .eq 17, 3) := by decide +kernel
theorem dX12_both_13 : decode cX12_both 13 = .ok (.aload_n 0, 1) := by decide +kernel
theorem dX12_both_14 : decode cX12_both 14 = .ok (.invokevirtual 229, 3) := by decide +kernel
theorem dX12_both_17 : decode cX12_both 17 = .ok (.aload_n 0, 1) := by decide +kernel
theorem dX12_both_18 : decode cX12_both 18 = .ok (.sipush 20001, 3) := by decide +kernel
theorem dX12_both_21 : decode cX12_both 21 = .ok (.invokevirtual 225, 3) := by decide +kernel
theorem dX12_both_24 : decode cX12_both 24 = .ok (.goto (-20), 3) := by decide +kernel
theorem dX12_both_27 : decode cX12_both 27 = .ok (.return_, 1) := by decide +kernel
theorem dX12_compared_0 : decode cX12_compared 0 = .ok (.aload_n 0, 1) := by decide +kernel
theorem dX12_compared_1 : decode cX12_compared 1 = .ok (.invokevirtual 234, 3) := by decide +kernel
theorem dX12_compared_4 : decode cX12_compared 4 = .ok (.aload_n 0, 1) := by decide +kernel
theorem dX12_compared_5 : decode cX12_compared 5 = .ok (.ldc 237, 2) := by decide +kernel
theorem dX12_compared_7 : decode cX12_compared 7 = .ok (.invokevirtual 214, 3) := by decide +kernel
theorem dX12_compared_10 : decode cX12_compared 10 = .ok (.ifCond .eq 9, 3) := by decide +kernel
theorem dX12_compared_13 : decode cX12_compared 13 = .ok (.sipush 20002, 3) := by decide +kernel
theorem dX12_compared_16 : decode cX12_compared 16 = .ok (.goto 34, 3) := by decide +kernel
theorem dX12_compared_19 : decode cX12_compared 19 = .ok (.aload_n 0, 1) := by decide +kernel
theorem dX12_compared_20 : decode cX12_compared 20 = .ok (.ldc 239, 2) := by decide +kernel
theorem dX12_compared_22 : decode cX12_compared 22 = .ok (.invokevirtual 214, 3) := by decide +kernel
theorem dX12_compared_25 : decode cX12_compared 25 = .ok (.ifCond .eq 9, 3) := by decide +kernel
theorem dX12_compared_28 : decode cX12_compared 28 = .ok (.sipush 20003, 3) := by decide +kernel
theorem dX12_compared_31 : decode cX12_compared 31 = .ok (.goto 19, 3) := by decide +kernel
theorem dX12_compared_34 : decode cX12_compared 34 = .ok (.aload_n 0, 1) := by decide +kernel
theorem dX12_compared_35 : decode cX12_compared 35 = .ok (.ldc 241, 2) := by decide +kernel
theorem dX12_compared_37 : decode cX12_compared 37 = .ok (.invokevirtual 214, 3) := by decide +kernel
theorem dX12_compared_40 : decode cX12_compared 40 = .ok (.ifCond .eq 9, 3) := by decide +kernel
theorem dX12_compared_43 : decode cX12_compared 43 = .ok (.sipush 20004, 3) := by decide +kernel
theorem dX12_compared_46 : decode cX12_compared 46 = .ok (.goto 4, 3) := by decide +kernel
theorem dX12_compared_49 : decode cX12_compared 49 = .ok (.iconst 0, 1) := by decide +kernel
theorem dX12_compared_50 : decode cX12_compared 50 = .ok (.istore_n 1, 1) := by decide +kernel
theorem dX12_compared_51 : decode cX12_compared 51 = .ok (.iload_n 1, 1) := by decide +kernel
theorem dX12_compared_52 : decode cX12_compared 52 = .ok (.ifCond .le 12, 3) := by decide +kernel
theorem dX12_compared_55 : decode cX12_compared 55 = .ok (.aload_n 0, 1) := by decide +kernel
theorem dX12_compared_56 : decode cX12_compared 56 = .ok (.invokevirtual 234, 3) := by decide +kernel
theorem dX12_compared_59 : decode cX12_compared 59 = .ok (.aload_n 0, 1) := by decide +kernel
theorem dX12_compared_60 : decode cX12_compared 60 = .ok (.iload_n 1, 1) := by decide +kernel
theorem dX12_compared_61 : decode cX12_compared 61 = .ok (.invokevirtual 225, 3) := by decide +kernel
theorem dX12_compared_64 : decode cX12_compared 64 = .ok (.return_, 1) := by decide +kernel
theorem dX12_sum_0 : decode cX12_sum 0 = .ok (.aload_n 0, 1) := by decide +kernel
theorem dX12_sum_1 : decode cX12_sum 1 = .ok (.invokevirtual 243, 3) := by decide +kernel
theorem dX12_sum_4 : decode cX12_sum 4 = .ok (.aload_n 0, 1) := by decide +kernel
theorem dX12_sum_5 : decode cX12_sum 5 = .ok (.ldc 246, 2) := by decide +kernel
theorem dX12_sum_7 : decode cX12_sum 7 = .ok (.invokevirtual 214, 3) := by decide +kernel
theorem dX12_sum_10 : decode cX12_sum 10 = .ok (.ifCond .eq 9, 3) := by decide +kernel
theorem dX12_sum_13 : decode cX12_sum 13 = .ok (.sipush 20005, 3) := by decide +kernel
theorem dX12_sum_16 : decode cX12_sum 16 = .ok (.goto 19, 3) := by decide +kernel
theorem dX12_sum_19 : decode cX12_sum 19 = .ok (.aload_n 0, 1) := by decide +kernel
theorem dX12_sum_20 : decode cX12_sum 20 = .ok (.ldc 248, 2) := by decide +kernel
theorem dX12_sum_22 : decode cX12_sum 22 = .ok (.invokevirtual 214, 3) := by decide +kernel
theorem dX12_sum_25 : decode cX12_sum 25 = .ok (.ifCond .eq 9, 3) := by decide +kernel
theorem dX12_sum_28 : decode cX12_sum 28 = .ok (.sipush 20006, 3) := by decide +kernel
theorem dX12_sum_31 : decode cX12_sum 31 = .ok (.goto 4, 3) := by decide +kernel
theorem dX12_sum_34 : decode cX12_sum 34 = .ok (.iconst 0, 1) := by decide +kernel
theorem dX12_sum_35 : decode cX12_sum 35 = .ok (.istore_n 1, 1) := by decide +kernel
theorem dX12_sum_36 : decode cX12_sum 36 = .ok (.iload_n 1, 1) := by decide +kernel
theorem dX12_sum_37 : decode cX12_sum 37 = .ok (.ifCond .le 47, 3) := by decide +kernel
theorem dX12_sum_40 : decode cX12_sum 40 = .ok (.aload_n 0, 1) := by decide +kernel
theorem dX12_sum_41 : decode cX12_sum 41 = .ok (.invokevirtual 243, 3) := by decide +kernel
theorem dX12_sum_44 : decode cX12_sum 44 = .ok (.aload_n 0, 1) := by decide +kernel
theorem dX12_sum_45 : decode cX12_sum 45 = .ok (.iload_n 1, 1) := by decide +kernel
theorem dX12_sum_46 : decode cX12_sum 46 = .ok (.invokevirtual 225, 3) := by decide +kernel
theorem dX12_sum_49 : decode cX12_sum 49 = .ok (.aload_n 0, 1) := by decide +kernel
theorem dX12_sum_50 : decode cX12_sum 50 = .ok (.ldc 246, 2) := by decide +kernel
theorem dX12_sum_52 : decode cX12_sum 52 = .ok (.invokevirtual 214, 3) := by decide +kernel
theorem dX12_sum_55 : decode cX12_sum 55 = .ok (.ifCond .eq 9, 3) := by decide +kernel
theorem dX12_sum_58 : decode cX12_sum 58 = .ok (.sipush 20005, 3) := by decide +kernel
theorem dX12_sum_61 : decode cX12_sum 61 = .ok (.goto 19, 3) := by decide +kernel
theorem dX12_sum_64 : decode cX12_sum 64 = .ok (.aload_n 0, 1) := by decide +kernel
theorem dX12_sum_65 : decode cX12_sum 65 = .ok (.ldc 248, 2) := by decide +kernel
theorem dX12_sum_67 : decode cX12_sum 67 = .ok (.invokevirtual 214, 3) := by decide +kernel
theorem dX12_sum_70 : decode cX12_sum 70 = .ok (.ifCond .eq 9, 3) := by decide +kernel
theorem dX12_sum_73 : decode cX12_sum 73 = .ok (.sipush 20006, 3) := by decide +kernel
theorem dX12_sum_76 : decode cX12_sum 76 = .ok (.goto 4, 3) := by decide +kernel
theorem dX12_sum_79 : decode cX12_sum 79 = .ok (.iconst 0, 1) := by decide +kernel
theorem dX12_sum_80 : decode cX12_sum 80 = .ok (.istore_n 1, 1) := by decide +kernel
theorem dX12_sum_81 : decode cX12_sum 81 = .ok (.goto (-45), 3) := by decide +kernel
theorem dX12_sum_84 : decode cX12_sum 84 = .ok (.return_, 1) := by decide +kernel
theorem dX12_term_0 : decode cX12_term 0 = .ok (.aload_n 0, 1) := by decide +kernel
theorem dX12_term_1 : decode cX12_term 1 = .ok (.invokevirtual 250, 3) := by decide +kernel
theorem dX12_term_4 : decode cX12_term 4 = .ok (.aload_n 0, 1) := by decide +kernel
theorem dX12_term_5 : decode cX12_term 5 = .ok (.ldc 253, 2) := by decide +kernel
theorem dX12_term_7 : decode cX12_term 7 = .ok (.invokevirtual 214, 3) := by decide +kernel
theorem dX12_term_10 : decode cX12_term 10 = .ok (.ifCond .eq 9, 3) := by decide +kernel
theorem dX12_term_13 : decode cX12_term 13 = .ok (.sipush 20007, 3) := by decide +kernel
theorem dX12_term_16 : decode cX12_term 16 = .ok (.goto 19, 3) := by decide +kernel
theorem dX12_term_19 : decode cX12_term 19 = .ok (.aload_n 0, 1) := by decide +kernel
theorem dX12_term_20 : decode cX12_term 20 = .ok (.ldc 255, 2) := by decide +kernel
theorem dX12_term_22 : decode cX12_term 22 = .ok (.invokevirtual 214, 3) := by decide +kernel
theorem dX12_term_25 : decode cX12_term 25 = .ok (.ifCond .eq 9, 3) := by decide +kernel
theorem dX12_term_28 : decode cX12_term 28 = .ok (.sipush 20008, 3) := by decide +kernel
theorem dX12_term_31 : decode cX12_term 31 = .ok (.goto 4, 3) := by decide +kernel
theorem dX12_term_34 : decode cX12_term 34 = .ok (.iconst 0, 1) := by decide +kernel
theorem dX12_term_35 : decode cX12_term 35 = .ok (.istore_n 1, 1) := by decide +kernel
theorem dX12_term_36 : decode cX12_term 36 = .ok (.iload_n 1, 1) := by decide +kernel
theorem dX12_term_37 : decode cX12_term 37 = .ok (.ifCond .le 47, 3) := by decide +kernel
theorem dX12_term_40 : decode cX12_term 40 = .ok (.aload_n 0, 1) := by decide +kernel
theorem dX12_term_41 : decode cX12_term 41 = .ok (.invokevirtual 250, 3) := by decide +kernel
theorem dX12_term_44 : decode cX12_term 44 = .ok (.aload_n 0, 1) := by decide +kernel
theorem dX12_term_45 : decode cX12_term 45 = .ok (.iload_n 1, 1) := by decide +kernel
theorem dX12_term_46 : decode cX12_term 46 = .ok (.invokevirtual 225, 3) := by decide +kernel
theorem dX12_term_49 : decode cX12_term 49 = .ok (.aload_n 0, 1) := by decide +kernel
theorem dX12_term_50 : decode cX12_term 50 = .ok (.ldc 253, 2) := by decide +kernel
theorem dX12_term_52 : decode cX12_term 52 = .ok (.invokevirtual 214, 3) := by decide +kernel
theorem dX12_term_55 : decode cX12_term 55 = .ok (.ifCond .eq 9, 3) := by decide +kernel
theorem dX12_term_58 : decode cX12_term 58 = .ok (.sipush 20007, 3) := by decide +kernel
theorem dX12_term_61 : decode cX12_term 61 = .ok (.goto 19, 3) := by decide +kernel
theorem dX12_term_64 : decode cX12_term 64 = .ok (.aload_n 0, 1) := by decide +kernel
theorem dX12_term_65 : decode cX12_term 65 = .ok (.ldc 255, 2) := by decide +kernel
theorem dX12_term_67 : decode cX12_term 67 = .ok (.invokevirtual 214, 3) := by decide +kernel
theorem dX12_term_70 : decode cX12_term 70 = .ok (.ifCond .eq 9, 3) := by decide +kernel
theorem dX12_term_73 : decode cX12_term 73 = .ok (.sipush 20008, 3) := by decide +kernel
theorem dX12_term_76 : decode cX12_term 76 = .ok (.goto 4, 3) := by decide +kernel
theorem dX12_term_79 : decode cX12_term 79 = .ok (.iconst 0, 1) := by decide +kernel
theorem dX12_term_80 : decode cX12_term 80 = .ok (.istore_n 1, 1) := by decide +kernel
theorem dX12_term_81 : decode cX12_term 81 = .ok (.goto (-45), 3) := by decide +kernel
theorem dX12_term_84 : decode cX12_term 84 = .ok (.return_, 1) := by decide +kernel
theorem dX12_opens_0 : decode cX12_opens 0 = .ok (.aload_n 0, 1) := by decide +kernel
theorem dX12_opens_1 : decode cX12_opens 1 = .ok (.aload_n 0, 1) := by decide +kernel
theorem dX12_opens_2 : decode cX12_opens 2 = .ok (.getfield 196, 3) := by decide +kernel
theorem dX12_opens_5 : decode cX12_opens 5 = .ok (.ifCond .ne 11, 3) := by decide +kernel
theorem dX12_opens_8 : decode cX12_opens 8 = .ok (.aload_n 0, 1) := by decide +kernel
theorem dX12_opens_9 : decode cX12_opens 9 = .ok (.getfield 257, 3) := by decide +kernel
theorem dX12_opens_12 : decode cX12_opens 12 = .ok (.iconst 5, 1) := by decide +kernel
theorem dX12_opens_13 : decode cX12_opens 13 = .ok (.if_icmp .ne 7, 3) := by decide +kernel
theorem dX12_opens_16 : decode cX12_opens 16 = .ok (.iconst 1, 1) := by decide +kernel
theorem dX12_opens_17 : decode cX12_opens 17 = .ok (.goto 4, 3) := by decide +kernel
theorem dX12_opens_20 : decode cX12_opens 20 = .ok (.iconst 0, 1) := by decide +kernel
theorem dX12_opens_21 : decode cX12_opens 21 = .ok (.putfield 196, 3) := by decide +kernel
theorem dX12_opens_24 : decode cX12_opens 24 = .ok (.aload_n 0, 1) := by decide +kernel
theorem dX12_opens_25 : decode cX12_opens 25 = .ok (.getfield 196, 3) := by decide +kernel
theorem dX12_opens_28 : decode cX12_opens 28 = .ok (.ifCond .ne 17, 3) := by decide +kernel
theorem dX12_opens_31 : decode cX12_opens 31 = .ok (.aload_n 0, 1) := by decide +kernel
theorem dX12_opens_32 : decode cX12_opens 32 = .ok (.dup, 1) := by decide +kernel
theorem dX12_opens_33 : decode cX12_opens 33 = .ok (.getfield 257, 3) := by decide +kernel
theorem dX12_opens_36 : decode cX12_opens 36 = .ok (.iconst 1, 1) := by decide +kernel
theorem dX12_opens_37 : decode cX12_opens 37 = .ok (.iadd, 1) := by decide +kernel
theorem dX12_opens_38 : decode cX12_opens 38 = .ok (.putfield 257, 3) := by decide +kernel
theorem dX12_opens_41 : decode cX12_opens 41 = .ok (.aload_n 0, 1) := by decide +kernel
theorem dX12_opens_42 : decode cX12_opens 42 = .ok (.invokevirtual 211, 3) := by decide +kernel
theorem dX12_opens_45 : decode cX12_opens 45 = .ok (.aload_n 0, 1) := by decide +kernel
theorem dX12_opens_46 : decode cX12_opens 46 = .ok (.getfield 196, 3) := by decide +kernel
theorem dX12_opens_49 : decode cX12_opens 49 = .ok (.ifCond .ne 7, 3) := by decide +kernel
theorem dX12_opens_52 : decode cX12_opens 52 = .ok (.iconst 1, 1) := by decide +kernel
theorem dX12_opens_53 : decode cX12_opens 53 = .ok (.goto 4, 3) := by decide +kernel
theorem dX12_opens_56 : decode cX12_opens 56 = .ok (.iconst 0, 1) := by decide +kernel
theorem dX12_opens_57 : decode cX12_opens 57 = .ok (.ireturn, 1) := by decide +kernel
theorem dX12_one_0 : decode cX12_one 0 = .ok (.aload_n 0, 1) := by decide +kernel
theorem dX12_one_1 : decode cX12_one 1 = .ok (.ldc_w 260, 3) := by decide +kernel
theorem dX12_one_4 : decode cX12_one 4 = .ok (.invokevirtual 207, 3) := by decide +kernel
theorem dX12_one_7 : decode cX12_one 7 = .ok (.istore_n 1, 1) := by decide +kernel
theorem dX12_one_8 : decode cX12_one 8 = .ok (.iload_n 1, 1) := by decide +kernel
theorem dX12_one_9 : decode cX12_one 9 = .ok (.ifCond .ne 13, 3) := by decide +kernel
theorem dX12_one_12 : decode cX12_one 12 = .ok (.aload_n 0, 1) := by decide +kernel
theorem dX12_one_13 : decode cX12_one 13 = .ok (.ldc_w 261, 3) := by decide +kernel
theorem dX12_one_16 : decode cX12_one 16 = .ok (.invokevirtual 207, 3) := by decide +kernel
theorem dX12_one_19 : decode cX12_one 19 = .ok (.ifCond .eq 85, 3) := by decide +kernel
theorem dX12_one_22 : decode cX12_one 22 = .ok (.aload_n 0, 1) := by decide +kernel
theorem dX12_one_23 : decode cX12_one 23 = .ok (.invokevirtual 211, 3) := by decide +kernel
theorem dX12_one_26 : decode cX12_one 26 = .ok (.aload_n 0, 1) := by decide +kernel
theorem dX12_one_27 : decode cX12_one 27 = .ok (.aload_n 0, 1) := by decide +kernel
theorem dX12_one_28 : decode cX12_one 28 = .ok (.ldc_w 262, 3) := by decide +kernel
theorem dX12_one_31 : decode cX12_one 31 = .ok (.invokevirtual 207, 3) := by decide +kernel
theorem dX12_one_34 : decode cX12_one 34 = .ok (.ifCond .ne 7, 3) := by decide +kernel
theorem dX12_one_37 : decode cX12_one 37 = .ok (.iconst 1, 1) := by decide +kernel
theorem dX12_one_38 : decode cX12_one 38 = .ok (.goto 4, 3) := by decide +kernel
theorem dX12_one_41 : decode cX12_one 41 = .ok (.iconst 0, 1) := by decide +kernel
theorem dX12_one_42 : decode cX12_one 42 = .ok (.putfield 196, 3) := by decide +kernel
theorem dX12_one_45 : decode cX12_one 45 = .ok (.aload_n 0, 1) := by decide +kernel
theorem dX12_one_46 : decode cX12_one 46 = .ok (.invokevirtual 264, 3) := by decide +kernel
theorem dX12_one_49 : decode cX12_one 49 = .ok (.ifCond .eq 168, 3) := by decide +kernel
theorem dX12_one_52 : decode cX12_one 52 = .ok (.aload_n 0, 1) := by decide +kernel
theorem dX12_one_53 : decode cX12_one 53 = .ok (.invokevirtual 268, 3) := by decide +kernel
theorem dX12_one_56 : decode cX12_one 56 = .ok (.aload_n 0, 1) := by decide +kernel
theorem dX12_one_57 : decode cX12_one 57 = .ok (.ldc_w 271, 3) := by decide +kernel
theorem dX12_one_60 : decode cX12_one 60 = .ok (.invokevirtual 273, 3) := by decide +kernel
theorem dX12_one_63 : decode cX12_one 63 = .ok (.aload_n 0, 1) := by decide +kernel
theorem dX12_one_64 : decode cX12_one 64 = .ok (.invokevirtual 268, 3) := by decide +kernel
theorem dX12_one_67 : decode cX12_one 67 = .ok (.aload_n 0, 1) := by decide +kernel
theorem dX12_one_68 : decode cX12_one 68 = .ok (.ldc_w 277, 3) := by decide +kernel
theorem dX12_one_71 : decode cX12_one 71 = .ok (.invokevirtual 273, 3) := by decide +kernel
theorem dX12_one_74 : decode cX12_one 74 = .ok (.aload_n 0, 1) := by decide +kernel
theorem dX12_one_75 : decode cX12_one 75 = .ok (.iload_n 1, 1) := by decide +kernel
theorem dX12_one_76 : decode cX12_one 76 = .ok (.ifCond .eq 9, 3) := by decide +kernel
theorem dX12_one_79 : decode cX12_one 79 = .ok (.sipush 20009, 3) := by decide +kernel
theorem dX12_one_82 : decode cX12_one 82 = .ok (.goto 6, 3) := by decide +kernel
theorem dX12_one_85 : decode cX12_one 85 = .ok (.sipush 20010, 3) := by decide +kernel
theorem dX12_one_88 : decode cX12_one 88 = .ok (.invokevirtual 225, 3) := by decide +kernel
theorem dX12_one_91 : decode cX12_one 91 = .ok (.aload_n 0, 1) := by decide +kernel
theorem dX12_one_92 : decode cX12_one 92 = .ok (.dup, 1) := by decide +kernel
theorem dX12_one_93 : decode cX12_one 93 = .ok (.getfield 257, 3) := by decide +kernel
theorem dX12_one_96 : decode cX12_one 96 = .ok (.iconst 1, 1) := by decide +kernel
theorem dX12_one_97 : decode cX12_one 97 = .ok (.isub, 1) := by decide +kernel
theorem dX12_one_98 : decode cX12_one 98 = .ok (.putfield 257, 3) := by decide +kernel
theorem dX12_one_101 : decode cX12_one 101 = .ok (.goto 116, 3) := by decide +kernel
theorem dX12_one_104 : decode cX12_one 104 = .ok (.aload_n 0, 1) := by decide +kernel
theorem dX12_one_105 : decode cX12_one 105 = .ok (.ldc_w 279, 3) := by decide +kernel
theorem dX12_one_108 : decode cX12_one 108 = .ok (.invokevirtual 207, 3) := by decide +kernel
theorem dX12_one_111 : decode cX12_one 111 = .ok (.ifCond .ne 12, 3) := by decide +kernel
theorem dX12_one_114 : decode cX12_one 114 = .ok (.aload_n 0, 1) := by decide +kernel
theorem dX12_one_115 : decode cX12_one 115 = .ok (.ldc 248, 2) := by decide +kernel
theorem dX12_one_117 : decode cX12_one 117 = .ok (.invokevirtual 207, 3) := by decide +kernel
theorem dX12_one_120 : decode cX12_one 120 = .ok (.ifCond .eq 52, 3) := by decide +kernel
theorem dX12_one_123 : decode cX12_one 123 = .ok (.aload_n 0, 1) := by decide +kernel
theorem dX12_one_124 : decode cX12_one 124 = .ok (.ldc_w 279, 3) := by decide +kernel
theorem dX12_one_127 : decode cX12_one 127 = .ok (.invokevirtual 207, 3) := by decide +kernel
theorem dX12_one_130 : decode cX12_one 130 = .ok (.istore_n 2, 1) := by decide +kernel
theorem dX12_one_131 : decode cX12_one 131 = .ok (.aload_n 0, 1) := by decide +kernel
theorem dX12_one_132 : decode cX12_one 132 = .ok (.invokevirtual 264, 3) := by decide +kernel
theorem dX12_one_135 : decode cX12_one 135 = .ok (.ifCond .eq 34, 3) := by decide +kernel
theorem dX12_one_138 : decode cX12_one 138 = .ok (.aload_n 0, 1) := by decide +kernel
theorem dX12_one_139 : decode cX12_one 139 = .ok (.invokevirtual 250, 3) := by decide +kernel
theorem dX12_one_142 : decode cX12_one 142 = .ok (.aload_n 0, 1) := by decide +kernel
theorem dX12_one_143 : decode cX12_one 143 = .ok (.iload_n 2, 1) := by decide +kernel
theorem dX12_one_144 : decode cX12_one 144 = .ok (.ifCond .eq 9, 3) := by decide +kernel
theorem dX12_one_147 : decode cX12_one 147 = .ok (.sipush 20011, 3) := by decide +kernel
theorem dX12_one_150 : decode cX12_one 150 = .ok (.goto 6, 3) := by decide +kernel
theorem dX12_one_153 : decode cX12_one 153 = .ok (.sipush 20012, 3) := by decide +kernel
theorem dX12_one_156 : decode cX12_one 156 = .ok (.invokevirtual 225, 3) := by decide +kernel
theorem dX12_one_159 : decode cX12_one 159 = .ok (.aload_n 0, 1) := by decide +kernel
theorem dX12_one_160 : decode cX12_one 160 = .ok (.dup, 1) := by decide +kernel
theorem dX12_one_161 : decode cX12_one 161 = .ok (.getfield 257, 3) := by decide +kernel
theorem dX12_one_164 : decode cX12_one 164 = .ok (.iconst 1, 1) := by decide +kernel
theorem dX12_one_165 : decode cX12_one 165 = .ok (.isub, 1) := by decide +kernel
theorem dX12_one_166 : decode cX12_one 166 = .ok (.putfield 257, 3) := by decide +kernel
theorem dX12_one_169 : decode cX12_one 169 = .ok (.goto 48, 3) := by decide +kernel
theorem dX12_one_172 : decode cX12_one 172 = .ok (.aload_n 0, 1) := by decide +kernel
theorem dX12_one_173 : decode cX12_one 173 = .ok (.ldc_w 262, 3) := by decide +kernel
theorem dX12_one_176 : decode cX12_one 176 = .ok (.invokevirtual 207, 3) := by decide +kernel
theorem dX12_one_179 : decode cX12_one 179 = .ok (.ifCond .eq 34, 3) := by decide +kernel
theorem dX12_one_182 : decode cX12_one 182 = .ok (.aload_n 0, 1) := by decide +kernel
theorem dX12_one_183 : decode cX12_one 183 = .ok (.invokevirtual 264, 3) := by decide +kernel
theorem dX12_one_186 : decode cX12_one 186 = .ok (.ifCond .eq 31, 3) := by decide +kernel
theorem dX12_one_189 : decode cX12_one 189 = .ok (.aload_n 0, 1) := by decide +kernel
theorem dX12_one_190 : decode cX12_one 190 = .ok (.invokevirtual 268, 3) := by decide +kernel
theorem dX12_one_193 : decode cX12_one 193 = .ok (.aload_n 0, 1) := by decide +kernel
theorem dX12_one_194 : decode cX12_one 194 = .ok (.ldc_w 277, 3) := by decide +kernel
theorem dX12_one_197 : decode cX12_one 197 = .ok (.invokevirtual 273, 3) := by decide +kernel
theorem dX12_one_200 : decode cX12_one 200 = .ok (.aload_n 0, 1) := by decide +kernel
theorem dX12_one_201 : decode cX12_one 201 = .ok (.dup, 1) := by decide +kernel
theorem dX12_one_202 : decode cX12_one 202 = .ok (.getfield 257, 3) := by decide +kernel
theorem dX12_one_205 : decode cX12_one 205 = .ok (.iconst 1, 1) := by decide +kernel
theorem dX12_one_206 : decode cX12_one 206 = .ok (.isub, 1) := by decide +kernel
theorem dX12_one_207 : decode cX12_one 207 = .ok (.putfield 257, 3) := by decide +kernel
theorem dX12_one_210 : decode cX12_one 210 = .ok (.goto 7, 3) := by decide +kernel
theorem dX12_one_213 : decode cX12_one 213 = .ok (.aload_n 0, 1) := by decide +kernel
theorem dX12_one_214 : decode cX12_one 214 = .ok (.invokevirtual 281, 3) := by decide +kernel
theorem dX12_one_217 : decode cX12_one 217 = .ok (.return_, 1) := by decide +kernel
theorem dX12_plain_0 : decode cX12_plain 0 = .ok (.iconst (-1), 1) := by decide +kernel
theorem dX12_plain_1 : decode cX12_plain 1 = .ok (.istore_n 1, 1) := by decide +kernel
theorem dX12_plain_2 : decode cX12_plain 2 = .ok (.aload_n 0, 1) := by decide +kernel
theorem dX12_plain_3 : decode cX12_plain 3 = .ok (.getfield 196, 3) := by decide +kernel
theorem dX12_plain_6 : decode cX12_plain 6 = .ok (.ifCond .ne 74, 3) := by decide +kernel
theorem dX12_plain_9 : decode cX12_plain 9 = .ok (.aload_n 0, 1) := by decide +kernel
theorem dX12_plain_10 : decode cX12_plain 10 = .ok (.aload_n 0, 1) := by decide +kernel
theorem dX12_plain_11 : decode cX12_plain 11 = .ok (.getfield 190, 3) := by decide +kernel
theorem dX12_plain_14 : decode cX12_plain 14 = .ok (.bipush 48, 2) := by decide +kernel
theorem dX12_plain_16 : decode cX12_plain 16 = .ok (.bipush 57, 2) := by decide +kernel
theorem dX12_plain_18 : decode cX12_plain 18 = .ok (.invokevirtual 193, 3) := by decide +kernel
theorem dX12_plain_21 : decode cX12_plain 21 = .ok (.ifCond .eq 59, 3) := by decide +kernel
theorem dX12_plain_24 : decode cX12_plain 24 = .ok (.aload_n 0, 1) := by decide +kernel
theorem dX12_plain_25 : decode cX12_plain 25 = .ok (.getfield 186, 3) := by decide +kernel
theorem dX12_plain_28 : decode cX12_plain 28 = .ok (.aload_n 0, 1) := by decide +kernel
theorem dX12_plain_29 : decode cX12_plain 29 = .ok (.getfield 190, 3) := by decide +kernel
theorem dX12_plain_32 : decode cX12_plain 32 = .ok (.isub, 1) := by decide +kernel
theorem dX12_plain_33 : decode cX12_plain 33 = .ok (.iconst 5, 1) := by decide +kernel
theorem dX12_plain_34 : decode cX12_plain 34 = .ok (.if_icmp .ge 46, 3) := by decide +kernel
theorem dX12_plain_37 : decode cX12_plain 37 = .ok (.iconst 0, 1) := by decide +kernel
theorem dX12_plain_38 : decode cX12_plain 38 = .ok (.istore_n 1, 1) := by decide +kernel
theorem dX12_plain_39 : decode cX12_plain 39 = .ok (.aload_n 0, 1) := by decide +kernel
theorem dX12_plain_40 : decode cX12_plain 40 = .ok (.getfield 190, 3) := by decide +kernel
theorem dX12_plain_43 : decode cX12_plain 43 = .ok (.istore_n 2, 1) := by decide +kernel
theorem dX12_plain_44 : decode cX12_plain 44 = .ok (.iload_n 2, 1) := by decide +kernel
theorem dX12_plain_45 : decode cX12_plain 45 = .ok (.aload_n 0, 1) := by decide +kernel
theorem dX12_plain_46 : decode cX12_plain 46 = .ok (.getfield 186, 3) := by decide +kernel
theorem dX12_plain_49 : decode cX12_plain 49 = .ok (.if_icmp .ge 28, 3) := by decide +kernel
theorem dX12_plain_52 : decode cX12_plain 52 = .ok (.bipush 10, 2) := by decide +kernel
theorem dX12_plain_54 : decode cX12_plain 54 = .ok (.iload_n 1, 1) := by decide +kernel
theorem dX12_plain_55 : decode cX12_plain 55 = .ok (.imul, 1) := by decide +kernel
theorem dX12_plain_56 : decode cX12_plain 56 = .ok (.aload_n 0, 1) := by decide +kernel
theorem dX12_plain_57 : decode cX12_plain 57 = .ok (.getfield 9, 3) := by decide +kernel
theorem dX12_plain_60 : decode cX12_plain 60 = .ok (.sipush 1328, 3) := by decide +kernel
theorem dX12_plain_63 : decode cX12_plain 63 = .ok (.iload_n 2, 1) := by decide +kernel
theorem dX12_plain_64 : decode cX12_plain 64 = .ok (.iadd, 1) := by decide +kernel
theorem dX12_plain_65 : decode cX12_plain 65 = .ok (.iaload, 1) := by decide +kernel
theorem dX12_plain_66 : decode cX12_plain 66 = .ok (.iadd, 1) := by decide +kernel
theorem dX12_plain_67 : decode cX12_plain 67 = .ok (.bipush 48, 2) := by decide +kernel
theorem dX12_plain_69 : decode cX12_plain 69 = .ok (.isub, 1) := by decide +kernel
theorem dX12_plain_70 : decode cX12_plain 70 = .ok (.istore_n 1, 1) := by decide +kernel
theorem dX12_plain_71 : decode cX12_plain 71 = .ok (.iinc 2 1, 3) := by decide +kernel
theorem dX12_plain_74 : decode cX12_plain 74 = .ok (.goto (-30), 3) := by decide +kernel
theorem dX12_plain_77 : decode cX12_plain 77 = .ok (.goto 86, 3) := by decide +kernel
theorem dX12_plain_80 : decode cX12_plain 80 = .ok (.aload_n 0, 1) := by decide +kernel
theorem dX12_plain_81 : decode cX12_plain 81 = .ok (.getfield 196, 3) := by decide +kernel
theorem dX12_plain_84 : decode cX12_plain 84 = .ok (.ifCond .ne 79, 3) := by decide +kernel
theorem dX12_plain_87 : decode cX12_plain 87 = .ok (.aload_n 0, 1) := by decide +kernel
theorem dX12_plain_88 : decode cX12_plain 88 = .ok (.getfield 186, 3) := by decide +kernel
theorem dX12_plain_91 : decode cX12_plain 91 = .ok (.aload_n 0, 1) := by decide +kernel
theorem dX12_plain_92 : decode cX12_plain 92 = .ok (.getfield 190, 3) := by decide +kernel
theorem dX12_plain_95 : decode cX12_plain 95 = .ok (.isub, 1) := by decide +kernel
theorem dX12_plain_96 : decode cX12_plain 96 = .ok (.iconst 1, 1) := by decide +kernel
theorem dX12_plain_97 : decode cX12_plain 97 = .ok (.if_icmp .ne 66, 3) := by decide +kernel
theorem dX12_plain_100 : decode cX12_plain 100 = .ok (.iconst 0, 1) := by decide +kernel
theorem dX12_plain_101 : decode cX12_plain 101 = .ok (.istore_n 2, 1) := by decide +kernel
theorem dX12_plain_102 : decode cX12_plain 102 = .ok (.iload_n 2, 1) := by decide +kernel
theorem dX12_plain_103 : decode cX12_plain 103 = .ok (.aload_n 0, 1) := by decide +kernel
theorem dX12_plain_104 : decode cX12_plain 104 = .ok (.getfield 30, 3) := by decide +kernel
theorem dX12_plain_107 : decode cX12_plain 107 = .ok (.aload_n 0, 1) := by decide +kernel
theorem dX12_plain_108 : decode cX12_plain 108 = .ok (.getfield 284, 3) := by decide +kernel
theorem dX12_plain_111 : decode cX12_plain 111 = .ok (.aaload, 1) := by decide +kernel
theorem dX12_plain_112 : decode cX12_plain 112 = .ok (.invokevirtual 200, 3) := by decide +kernel
theorem dX12_plain_115 : decode cX12_plain 115 = .ok (.if_icmp .ge 48, 3) := by decide +kernel
theorem dX12_plain_118 : decode cX12_plain 118 = .ok (.aload_n 0, 1) := by decide +kernel
theorem dX12_plain_119 : decode cX12_plain 119 = .ok (.getfield 9, 3) := by decide +kernel
theorem dX12_plain_122 : decode cX12_plain 122 = .ok (.sipush 1328, 3) := by decide +kernel
theorem dX12_plain_125 : decode cX12_plain 125 = .ok (.aload_n 0, 1) := by decide +kernel
theorem dX12_plain_126 : decode cX12_plain 126 = .ok (.getfield 190, 3) := by decide +kernel
theorem dX12_plain_129 : decode cX12_plain 129 = .ok (.iadd, 1) := by decide +kernel
theorem dX12_plain_130 : decode cX12_plain 130 = .ok (.iaload, 1) := by decide +kernel
theorem dX12_plain_131 : decode cX12_plain 131 = .ok (.aload_n 0, 1) := by decide +kernel
theorem dX12_plain_132 : decode cX12_plain 132 = .ok (.getfield 30, 3) := by decide +kernel
theorem dX12_plain_135 : decode cX12_plain 135 = .ok (.aload_n 0, 1) := by decide +kernel
theorem dX12_plain_136 : decode cX12_plain 136 = .ok (.getfield 284, 3) := by decide +kernel
theorem dX12_plain_139 : decode cX12_plain 139 = .ok (.aaload, 1) := by decide +kernel
theorem dX12_plain_140 : decode cX12_plain 140 = .ok (.iload_n 2, 1) := by decide +kernel
theorem dX12_plain_141 : decode cX12_plain 141 = .ok (.invokevirtual 203, 3) := by decide +kernel
theorem dX12_plain_144 : decode cX12_plain 144 = .ok (.if_icmp .ne 11, 3) := by decide +kernel
theorem dX12_plain_147 : decode cX12_plain 147 = .ok (.sipush 10000, 3) := by decide +kernel
theorem dX12_plain_150 : decode cX12_plain 150 = .ok (.iload_n 2, 1) := by decide +kernel
theorem dX12_plain_151 : decode cX12_plain 151 = .ok (.iadd, 1) := by decide +kernel
theorem dX12_plain_152 : decode cX12_plain 152 = .ok (.goto 4, 3) := by decide +kernel
theorem dX12_plain_155 : decode cX12_plain 155 = .ok (.iload_n 1, 1) := by decide +kernel
theorem dX12_plain_156 : decode cX12_plain 156 = .ok (.istore_n 1, 1) := by decide +kernel
theorem dX12_plain_157 : decode cX12_plain 157 = .ok (.iinc 2 1, 3) := by decide +kernel
theorem dX12_plain_160 : decode cX12_plain 160 = .ok (.goto (-58), 3) := by decide +kernel
theorem dX12_plain_163 : decode cX12_plain 163 = .ok (.aload_n 0, 1) := by decide +kernel
theorem dX12_plain_164 : decode cX12_plain 164 = .ok (.aload_n 0, 1) := by decide +kernel
theorem dX12_plain_165 : decode cX12_plain 165 = .ok (.getfield 196, 3) := by decide +kernel
theorem dX12_plain_168 : decode cX12_plain 168 = .ok (.ifCond .ne 7, 3) := by decide +kernel
theorem dX12_plain_171 : decode cX12_plain 171 = .ok (.iload_n 1, 1) := by decide +kernel
theorem dX12_plain_172 : decode cX12_plain 172 = .ok (.ifCond .ge 7, 3) := by decide +kernel
theorem dX12_plain_175 : decode cX12_plain 175 = .ok (.iconst 1, 1) := by decide +kernel
theorem dX12_plain_176 : decode cX12_plain 176 = .ok (.goto 4, 3) := by decide +kernel
theorem dX12_plain_179 : decode cX12_plain 179 = .ok (.iconst 0, 1) := by decide +kernel
theorem dX12_plain_180 : decode cX12_plain 180 = .ok (.putfield 196, 3) := by decide +kernel
theorem dX12_plain_183 : decode cX12_plain 183 = .ok (.aload_n 0, 1) := by decide +kernel
theorem dX12_plain_184 : decode cX12_plain 184 = .ok (.getfield 196, 3) := by decide +kernel
theorem dX12_plain_187 : decode cX12_plain 187 = .ok (.ifCond .ne 12, 3) := by decide +kernel
theorem dX12_plain_190 : decode cX12_plain 190 = .ok (.aload_n 0, 1) := by decide +kernel
theorem dX12_plain_191 : decode cX12_plain 191 = .ok (.iload_n 1, 1) := by decide +kernel
theorem dX12_plain_192 : decode cX12_plain 192 = .ok (.invokevirtual 225, 3) := by decide +kernel
theorem dX12_plain_195 : decode cX12_plain 195 = .ok (.aload_n 0, 1) := by decide +kernel
theorem dX12_plain_196 : decode cX12_plain 196 = .ok (.invokevirtual 211, 3) := by decide +kernel
theorem dX12_plain_199 : decode cX12_plain 199 = .ok (.return_, 1) := by decide +kernel
theorem dX12_treaty_0 : decode cX12_treaty 0 = .ok (.iload_n 1, 1) := by decide +kernel
theorem dX12_treaty_1 : decode cX12_treaty 1 = .ok (.iconst 0, 1) := by decide +kernel
theorem dX12_treaty_2 : decode cX12_treaty 2 = .ok (.iconst 2, 1) := by decide +kernel
theorem dX12_treaty_3 : decode cX12_treaty 3 = .ok (.invokestatic 78, 3) := by decide +kernel
theorem dX12_treaty_6 : decode cX12_treaty 6 = .ok (.ifCond .eq 14, 3) := by decide +kernel
theorem dX12_treaty_9 : decode cX12_treaty 9 = .ok (.iload_n 2, 1) := by decide +kernel
theorem dX12_treaty_10 : decode cX12_treaty 10 = .ok (.iconst 0, 1) := by decide +kernel
theorem dX12_treaty_11 : decode cX12_treaty 11 = .ok (.sipush 999, 3) := by decide +kernel
theorem dX12_treaty_14 : decode cX12_treaty 14 = .ok (.invokestatic 78, 3) := by decide +kernel
theorem dX12_treaty_17 : decode cX12_treaty 17 = .ok (.ifCond .ne 10, 3) := by decide +kernel
theorem dX12_treaty_20 : decode cX12_treaty 20 = .ok (.aload_n 0, 1) := by decide +kernel
theorem dX12_treaty_21 : decode cX12_treaty 21 = .ok (.ldc 83, 2) := by decide +kernel
theorem dX12_treaty_23 : decode cX12_treaty 23 = .ok (.invokevirtual 84, 3) := by decide +kernel
theorem dX12_treaty_26 : decode cX12_treaty 26 = .ok (.ireturn, 1) := by decide +kernel
theorem dX12_treaty_27 : decode cX12_treaty 27 = .ok (.aload_n 0, 1) := by decide +kernel
theorem dX12_treaty_28 : decode cX12_treaty 28 = .ok (.getfield 9, 3) := by decide +kernel
theorem dX12_treaty_31 : decode cX12_treaty 31 = .ok (.iconst 3, 1) := by decide +kernel
theorem dX12_treaty_32 : decode cX12_treaty 32 = .ok (.iaload, 1) := by decide +kernel
theorem dX12_treaty_33 : decode cX12_treaty 33 = .ok (.istore_n 3, 1) := by decide +kernel
theorem dX12_treaty_34 : decode cX12_treaty 34 = .ok (.iload_n 3, 1) := by decide +kernel
theorem dX12_treaty_35 : decode cX12_treaty 35 = .ok (.bipush 10, 2) := by decide +kernel
theorem dX12_treaty_37 : decode cX12_treaty 37 = .ok (.if_icmp .ne 10, 3) := by decide +kernel
theorem dX12_treaty_40 : decode cX12_treaty 40 = .ok (.aload_n 0, 1) := by decide +kernel
theorem dX12_treaty_41 : decode cX12_treaty 41 = .ok (.ldc 88, 2) := by decide +kernel
theorem dX12_treaty_43 : decode cX12_treaty 43 = .ok (.invokevirtual 84, 3) := by decide +kernel
theorem dX12_treaty_46 : decode cX12_treaty 46 = .ok (.ireturn, 1) := by decide +kernel
theorem dX12_treaty_47 : decode cX12_treaty 47 = .ok (.aload_n 0, 1) := by decide +kernel
theorem dX12_treaty_48 : decode cX12_treaty 48 = .ok (.iload_n 1, 1) := by decide +kernel
theorem dX12_treaty_49 : decode cX12_treaty 49 = .ok (.putfield 284, 3) := by decide +kernel
theorem dX12_treaty_52 : decode cX12_treaty 52 = .ok (.aload_n 0, 1) := by decide +kernel
theorem dX12_treaty_53 : decode cX12_treaty 53 = .ok (.iconst 0, 1) := by decide +kernel
theorem dX12_treaty_54 : decode cX12_treaty 54 = .ok (.putfield 186, 3) := by decide +kernel
theorem dX12_treaty_57 : decode cX12_treaty 57 = .ok (.aload_n 0, 1) := by decide +kernel
theorem dX12_treaty_58 : decode cX12_treaty 58 = .ok (.iconst 0, 1) := by decide +kernel
theorem dX12_treaty_59 : decode cX12_treaty 59 = .ok (.putfield 257, 3) := by decide +kernel
theorem dX12_treaty_62 : decode cX12_treaty 62 = .ok (.aload_n 0, 1) := by decide +kernel
theorem dX12_treaty_63 : decode cX12_treaty 63 = .ok (.iconst 0, 1) := by decide +kernel
theorem dX12_treaty_64 : decode cX12_treaty 64 = .ok (.putfield 196, 3) := by decide +kernel
theorem dX12_treaty_67 : decode cX12_treaty 67 = .ok (.aload_n 0, 1) := by decide +kernel
theorem dX12_treaty_68 : decode cX12_treaty 68 = .ok (.iconst 0, 1) := by decide +kernel
theorem dX12_treaty_69 : decode cX12_treaty 69 = .ok (.putfield 217, 3) := by decide +kernel
theorem dX12_treaty_72 : decode cX12_treaty 72 = .ok (.aload_n 0, 1) := by decide +kernel
theorem dX12_treaty_73 : decode cX12_treaty 73 = .ok (.invokevirtual 211, 3) := by decide +kernel
theorem dX12_treaty_76 : decode cX12_treaty 76 = .ok (.aload_n 0, 1) := by decide +kernel
theorem dX12_treaty_77 : decode cX12_treaty 77 = .ok (.invokevirtual 268, 3) := by decide +kernel
theorem dX12_treaty_80 : decode cX12_treaty 80 = .ok (.aload_n 0, 1) := by decide +kernel
theorem dX12_treaty_81 : decode cX12_treaty 81 = .ok (.aload_n 0, 1) := by decide +kernel
theorem dX12_treaty_82 : decode cX12_treaty 82 = .ok (.getfield 196, 3) := by decide +kernel
theorem dX12_treaty_85 : decode cX12_treaty 85 = .ok (.ifCond .ne 16, 3) := by decide +kernel
theorem dX12_treaty_88 : decode cX12_treaty 88 = .ok (.aload_n 0, 1) := by decide +kernel
theorem dX12_treaty_89 : decode cX12_treaty 89 = .ok (.getfield 190, 3) := by decide +kernel
theorem dX12_treaty_92 : decode cX12_treaty 92 = .ok (.aload_n 0, 1) := by decide +kernel
theorem dX12_treaty_93 : decode cX12_treaty 93 = .ok (.getfield 9, 3) := by decide +kernel
theorem dX12_treaty_96 : decode cX12_treaty 96 = .ok (.iconst 5, 1) := by decide +kernel
theorem dX12_treaty_97 : decode cX12_treaty 97 = .ok (.iaload, 1) := by decide +kernel
theorem dX12_treaty_98 : decode cX12_treaty 98 = .ok (.if_icmp .ge 7, 3) := by decide +kernel
theorem dX12_treaty_101 : decode cX12_treaty 101 = .ok (.iconst 1, 1) := by decide +kernel
theorem dX12_treaty_102 : decode cX12_treaty 102 = .ok (.goto 4, 3) := by decide +kernel
theorem dX12_treaty_105 : decode cX12_treaty 105 = .ok (.iconst 0, 1) := by decide +kernel
theorem dX12_treaty_106 : decode cX12_treaty 106 = .ok (.putfield 196, 3) := by decide +kernel
theorem dX12_treaty_109 : decode cX12_treaty 109 = .ok (.aload_n 0, 1) := by decide +kernel
theorem dX12_treaty_110 : decode cX12_treaty 110 = .ok (.getfield 9, 3) := by decide +kernel
theorem dX12_treaty_113 : decode cX12_treaty 113 = .ok (.iconst 5, 1) := by decide +kernel
theorem dX12_treaty_114 : decode cX12_treaty 114 = .ok (.iconst 0, 1) := by decide +kernel
theorem dX12_treaty_115 : decode cX12_treaty 115 = .ok (.iastore, 1) := by decide +kernel
theorem dX12_treaty_116 : decode cX12_treaty 116 = .ok (.aload_n 0, 1) := by decide +kernel
theorem dX12_treaty_117 : decode cX12_treaty 117 = .ok (.getfield 196, 3) := by decide +kernel
theorem dX12_treaty_120 : decode cX12_treaty 120 = .ok (.ifCond .eq 11, 3) := by decide +kernel
theorem dX12_treaty_123 : decode cX12_treaty 123 = .ok (.bipush (-10), 2) := by decide +kernel
theorem dX12_treaty_125 : decode cX12_treaty 125 = .ok (.aload_n 0, 1) := by decide +kernel
theorem dX12_treaty_126 : decode cX12_treaty 126 = .ok (.getfield 190, 3) := by decide +kernel
theorem dX12_treaty_129 : decode cX12_treaty 129 = .ok (.isub, 1) := by decide +kernel
theorem dX12_treaty_130 : decode cX12_treaty 130 = .ok (.ireturn, 1) := by decide +kernel
theorem dX12_treaty_131 : decode cX12_treaty 131 = .ok (.sipush 468, 3) := by decide +kernel
theorem dX12_treaty_134 : decode cX12_treaty 134 = .ok (.bipush 66, 2) := by decide +kernel
theorem dX12_treaty_136 : decode cX12_treaty 136 = .ok (.iload_n 3, 1) := by decide +kernel
theorem dX12_treaty_137 : decode cX12_treaty 137 = .ok (.imul, 1) := by decide +kernel
theorem dX12_treaty_138 : decode cX12_treaty 138 = .ok (.iadd, 1) := by decide +kernel
theorem dX12_treaty_139 : decode cX12_treaty 139 = .ok (.istore 4, 2) := by decide +kernel
theorem dX12_treaty_141 : decode cX12_treaty 141 = .ok (.aload_n 0, 1) := by decide +kernel
theorem dX12_treaty_142 : decode cX12_treaty 142 = .ok (.getfield 9, 3) := by decide +kernel
theorem dX12_treaty_145 : decode cX12_treaty 145 = .ok (.iload 4, 2) := by decide +kernel
theorem dX12_treaty_147 : decode cX12_treaty 147 = .ok (.aload_n 0, 1) := by decide +kernel
theorem dX12_treaty_148 : decode cX12_treaty 148 = .ok (.getfield 284, 3) := by decide +kernel
theorem dX12_treaty_151 : decode cX12_treaty 151 = .ok (.iastore, 1) := by decide +kernel
theorem dX12_treaty_152 : decode cX12_treaty 152 = .ok (.aload_n 0, 1) := by decide +kernel
theorem dX12_treaty_153 : decode cX12_treaty 153 = .ok (.getfield 9, 3) := by decide +kernel
theorem dX12_treaty_156 : decode cX12_treaty 156 = .ok (.iload 4, 2) := by decide +kernel
theorem dX12_treaty_158 : decode cX12_treaty 158 = .ok (.iconst 1, 1) := by decide +kernel
theorem dX12_treaty_159 : decode cX12_treaty 159 = .ok (.iadd, 1) := by decide +kernel
theorem dX12_treaty_160 : decode cX12_treaty 160 = .ok (.iload_n 2, 1) := by decide +kernel
theorem dX12_treaty_161 : decode cX12_treaty 161 = .ok (.iastore, 1) := by decide +kernel
theorem dX12_treaty_162 : decode cX12_treaty 162 = .ok (.aload_n 0, 1) := by decide +kernel
theorem dX12_treaty_163 : decode cX12_treaty 163 = .ok (.getfield 9, 3) := by decide +kernel
theorem dX12_treaty_166 : decode cX12_treaty 166 = .ok (.iload 4, 2) := by decide +kernel
theorem dX12_treaty_168 : decode cX12_treaty 168 = .ok (.iconst 2, 1) := by decide +kernel
theorem dX12_treaty_169 : decode cX12_treaty 169 = .ok (.iadd, 1) := by decide +kernel
theorem dX12_treaty_170 : decode cX12_treaty 170 = .ok (.aload_n 0, 1) := by decide +kernel
theorem dX12_treaty_171 : decode cX12_treaty 171 = .ok (.getfield 217, 3) := by decide +kernel
theorem dX12_treaty_174 : decode cX12_treaty 174 = .ok (.iastore, 1) := by decide +kernel
theorem dX12_treaty_175 : decode cX12_treaty 175 = .ok (.iconst 0, 1) := by decide +kernel
theorem dX12_treaty_176 : decode cX12_treaty 176 = .ok (.istore 5, 2) := by decide +kernel
theorem dX12_treaty_178 : decode cX12_treaty 178 = .ok (.iload 5, 2) := by decide +kernel
theorem dX12_treaty_180 : decode cX12_treaty 180 = .ok (.aload_n 0, 1) := by decide +kernel
theorem dX12_treaty_181 : decode cX12_treaty 181 = .ok (.getfield 217, 3) := by decide +kernel
theorem dX12_treaty_184 : decode cX12_treaty 184 = .ok (.if_icmp .ge 28, 3) := by decide +kernel
theorem dX12_treaty_187 : decode cX12_treaty 187 = .ok (.aload_n 0, 1) := by decide +kernel
theorem dX12_treaty_188 : decode cX12_treaty 188 = .ok (.getfield 9, 3) := by decide +kernel
theorem dX12_treaty_191 : decode cX12_treaty 191 = .ok (.iload 4, 2) := by decide +kernel
theorem dX12_treaty_193 : decode cX12_treaty 193 = .ok (.iconst 3, 1) := by decide +kernel
theorem dX12_treaty_194 : decode cX12_treaty 194 = .ok (.iadd, 1) := by decide +kernel
theorem dX12_treaty_195 : decode cX12_treaty 195 = .ok (.iload 5, 2) := by decide +kernel
theorem dX12_treaty_197 : decode cX12_treaty 197 = .ok (.iadd, 1) := by decide +kernel
theorem dX12_treaty_198 : decode cX12_treaty 198 = .ok (.aload_n 0, 1) := by decide +kernel
theorem dX12_treaty_199 : decode cX12_treaty 199 = .ok (.getfield 34, 3) := by decide +kernel
theorem dX12_treaty_202 : decode cX12_treaty 202 = .ok (.iload 5, 2) := by decide +kernel
theorem dX12_treaty_204 : decode cX12_treaty 204 = .ok (.iaload, 1) := by decide +kernel
theorem dX12_treaty_205 : decode cX12_treaty 205 = .ok (.iastore, 1) := by decide +kernel
theorem dX12_treaty_206 : decode cX12_treaty 206 = .ok (.iinc 5 1, 3) := by decide +kernel
theorem dX12_treaty_209 : decode cX12_treaty 209 = .ok (.goto (-31), 3) := by decide +kernel
theorem dX12_treaty_212 : decode cX12_treaty 212 = .ok (.aload_n 0, 1) := by decide +kernel
theorem dX12_treaty_213 : decode cX12_treaty 213 = .ok (.getfield 9, 3) := by decide +kernel
theorem dX12_treaty_216 : decode cX12_treaty 216 = .ok (.iconst 3, 1) := by decide +kernel
theorem dX12_treaty_217 : decode cX12_treaty 217 = .ok (.dup2, 1) := by decide +kernel
theorem dX12_treaty_218 : decode cX12_treaty 218 = .ok (.iaload, 1) := by decide +kernel
theorem dX12_treaty_219 : decode cX12_treaty 219 = .ok (.iconst 1, 1) := by decide +kernel
theorem dX12_treaty_220 : decode cX12_treaty 220 = .ok (.iadd, 1) := by decide +kernel
theorem dX12_treaty_221 : decode cX12_treaty 221 = .ok (.iastore, 1) := by decide +kernel
theorem dX12_treaty_222 : decode cX12_treaty 222 = .ok (.iload_n 3, 1) := by decide +kernel
theorem dX12_treaty_223 : decode cX12_treaty 223 = .ok (.ireturn, 1) := by decide +kernel
theorem dX12_inForce_0 : decode cX12_inForce 0 = .ok (.iconst (-1), 1) := by decide +kernel
theorem dX12_inForce_1 : decode cX12_inForce 1 = .ok (.istore_n 3, 1) := by decide +kernel
theorem dX12_inForce_2 : decode cX12_inForce 2 = .ok (.iconst 0, 1) := by decide +kernel
theorem dX12_inForce_3 : decode cX12_inForce 3 = .ok (.istore 4, 2) := by decide +kernel
theorem dX12_inForce_5 : decode cX12_inForce 5 = .ok (.iload 4, 2) := by decide +kernel
theorem dX12_inForce_7 : decode cX12_inForce 7 = .ok (.aload_n 0, 1) := by decide +kernel
theorem dX12_inForce_8 : decode cX12_inForce 8 = .ok (.getfield 9, 3) := by decide +kernel
theorem dX12_inForce_11 : decode cX12_inForce 11 = .ok (.iconst 3, 1) := by decide +kernel
theorem dX12_inForce_12 : decode cX12_inForce 12 = .ok (.iaload, 1) := by decide +kernel
theorem dX12_inForce_13 : decode cX12_inForce 13 = .ok (.if_icmp .ge 54, 3) := by decide +kernel
theorem dX12_inForce_16 : decode cX12_inForce 16 = .ok (.aload_n 0, 1) := by decide +kernel
theorem dX12_inForce_17 : decode cX12_inForce 17 = .ok (.getfield 9, 3) := by decide +kernel
theorem dX12_inForce_20 : decode cX12_inForce 20 = .ok (.sipush 468, 3) := by decide +kernel
theorem dX12_inForce_23 : decode cX12_inForce 23 = .ok (.bipush 66, 2) := by decide +kernel
theorem dX12_inForce_25 : decode cX12_inForce 25 = .ok (.iload 4, 2) := by decide +kernel
theorem dX12_inForce_27 : decode cX12_inForce 27 = .ok (.imul, 1) := by decide +kernel
theorem dX12_inForce_28 : decode cX12_inForce 28 = .ok (.iadd, 1) := by decide +kernel
theorem dX12_inForce_29 : decode cX12_inForce 29 = .ok (.iaload, 1) := by decide +kernel
theorem dX12_inForce_30 : decode cX12_inForce 30 = .ok (.iload_n 1, 1) := by decide +kernel
theorem dX12_inForce_31 : decode cX12_inForce 31 = .ok (.if_icmp .ne 28, 3) := by decide +kernel
theorem dX12_inForce_34 : decode cX12_inForce 34 = .ok (.aload_n 0, 1) := by decide +kernel
theorem dX12_inForce_35 : decode cX12_inForce 35 = .ok (.getfield 9, 3) := by decide +kernel
theorem dX12_inForce_38 : decode cX12_inForce 38 = .ok (.sipush 468, 3) := by decide +kernel
theorem dX12_inForce_41 : decode cX12_inForce 41 = .ok (.bipush 66, 2) := by decide +kernel
theorem dX12_inForce_43 : decode cX12_inForce 43 = .ok (.iload 4, 2) := by decide +kernel
theorem dX12_inForce_45 : decode cX12_inForce 45 = .ok (.imul, 1) := by decide +kernel
theorem dX12_inForce_46 : decode cX12_inForce 46 = .ok (.iadd, 1) := by decide +kernel
theorem dX12_inForce_47 : decode cX12_inForce 47 = .ok (.iconst 1, 1) := by decide +kernel
theorem dX12_inForce_48 : decode cX12_inForce 48 = .ok (.iadd, 1) := by decide +kernel
theorem dX12_inForce_49 : decode cX12_inForce 49 = .ok (.iaload, 1) := by decide +kernel
theorem dX12_inForce_50 : decode cX12_inForce 50 = .ok (.iload_n 2, 1) := by decide +kernel
theorem dX12_inForce_51 : decode cX12_inForce 51 = .ok (.if_icmp .gt 8, 3) := by decide +kernel
theorem dX12_inForce_54 : decode cX12_inForce 54 = .ok (.iload 4, 2) := by decide +kernel
theorem dX12_inForce_56 : decode cX12_inForce 56 = .ok (.goto 4, 3) := by decide +kernel
theorem dX12_inForce_59 : decode cX12_inForce 59 = .ok (.iload_n 3, 1) := by decide +kernel
theorem dX12_inForce_60 : decode cX12_inForce 60 = .ok (.istore_n 3, 1) := by decide +kernel
theorem dX12_inForce_61 : decode cX12_inForce 61 = .ok (.iinc 4 1, 3) := by decide +kernel
theorem dX12_inForce_64 : decode cX12_inForce 64 = .ok (.goto (-59), 3) := by decide +kernel
theorem dX12_inForce_67 : decode cX12_inForce 67 = .ok (.iload_n 3, 1) := by decide +kernel
theorem dX12_inForce_68 : decode cX12_inForce 68 = .ok (.ireturn, 1) := by decide +kernel
theorem dX12_force_0 : decode cX12_force 0 = .ok (.iload_n 1, 1) := by decide +kernel
theorem dX12_force_1 : decode cX12_force 1 = .ok (.iconst 0, 1) := by decide +kernel
theorem dX12_force_2 : decode cX12_force 2 = .ok (.iconst 2, 1) := by decide +kernel
theorem dX12_force_3 : decode cX12_force 3 = .ok (.invokestatic 78, 3) := by decide +kernel
theorem dX12_force_6 : decode cX12_force 6 = .ok (.ifCond .eq 14, 3) := by decide +kernel
theorem dX12_force_9 : decode cX12_force 9 = .ok (.iload_n 2, 1) := by decide +kernel
theorem dX12_force_10 : decode cX12_force 10 = .ok (.iconst 0, 1) := by decide +kernel
theorem dX12_force_11 : decode cX12_force 11 = .ok (.sipush 999, 3) := by decide +kernel
theorem dX12_force_14 : decode cX12_force 14 = .ok (.invokestatic 78, 3) := by decide +kernel
theorem dX12_force_17 : decode cX12_force 17 = .ok (.ifCond .ne 10, 3) := by decide +kernel
theorem dX12_force_20 : decode cX12_force 20 = .ok (.aload_n 0, 1) := by decide +kernel
theorem dX12_force_21 : decode cX12_force 21 = .ok (.ldc 83, 2) := by decide +kernel
theorem dX12_force_23 : decode cX12_force 23 = .ok (.invokevirtual 84, 3) := by decide +kernel
theorem dX12_force_26 : decode cX12_force 26 = .ok (.ireturn, 1) := by decide +kernel
theorem dX12_force_27 : decode cX12_force 27 = .ok (.aload_n 0, 1) := by decide +kernel
theorem dX12_force_28 : decode cX12_force 28 = .ok (.iload_n 1, 1) := by decide +kernel
theorem dX12_force_29 : decode cX12_force 29 = .ok (.iload_n 2, 1) := by decide +kernel
theorem dX12_force_30 : decode cX12_force 30 = .ok (.invokevirtual 142, 3) := by decide +kernel
theorem dX12_force_33 : decode cX12_force 33 = .ok (.istore_n 3, 1) := by decide +kernel
theorem dX12_force_34 : decode cX12_force 34 = .ok (.iload_n 3, 1) := by decide +kernel
theorem dX12_force_35 : decode cX12_force 35 = .ok (.ifCond .ge 13, 3) := by decide +kernel
theorem dX12_force_38 : decode cX12_force 38 = .ok (.aload_n 0, 1) := by decide +kernel
theorem dX12_force_39 : decode cX12_force 39 = .ok (.ldc_w 287, 3) := by decide +kernel
theorem dX12_force_42 : decode cX12_force 42 = .ok (.invokevirtual 84, 3) := by decide +kernel
theorem dX12_force_45 : decode cX12_force 45 = .ok (.goto 4, 3) := by decide +kernel
theorem dX12_force_48 : decode cX12_force 48 = .ok (.iload_n 3, 1) := by decide +kernel
theorem dX12_force_49 : decode cX12_force 49 = .ok (.ireturn, 1) := by decide +kernel
theorem dX12_done_0 : decode cX12_done 0 = .ok (.iload_n 0, 1) := by decide +kernel
theorem dX12_done_1 : decode cX12_done 1 = .ok (.tableswitch 146 20000 20009 #[55, 69, 83, 94, 105, 116, 120, 124, 128, 140], 55) := by decide +kernel
theorem dX12_done_56 : decode cX12_done 56 = .ok (.iload_n 1, 1) := by decide +kernel
theorem dX12_done_57 : decode cX12_done 57 = .ok (.ifCond .ne 7, 3) := by decide +kernel
theorem dX12_done_60 : decode cX12_done 60 = .ok (.iload_n 2, 1) := by decide +kernel
theorem dX12_done_61 : decode cX12_done 61 = .ok (.ifCond .eq 7, 3) := by decide +kernel
theorem dX12_done_64 : decode cX12_done 64 = .ok (.iconst 1, 1) := by decide +kernel
theorem dX12_done_65 : decode cX12_done 65 = .ok (.goto 4, 3) := by decide +kernel
theorem dX12_done_68 : decode cX12_done 68 = .ok (.iconst 0, 1) := by decide +kernel
theorem dX12_done_69 : decode cX12_done 69 = .ok (.ireturn, 1) := by decide +kernel
theorem dX12_done_70 : decode cX12_done 70 = .ok (.iload_n 1, 1) := by decide +kernel
theorem dX12_done_71 : decode cX12_done 71 = .ok (.ifCond .eq 11, 3) := by decide +kernel
theorem dX12_done_74 : decode cX12_done 74 = .ok (.iload_n 2, 1) := by decide +kernel
theorem dX12_done_75 : decode cX12_done 75 = .ok (.ifCond .eq 7, 3) := by decide +kernel
theorem dX12_done_78 : decode cX12_done 78 = .ok (.iconst 1, 1) := by decide +kernel
theorem dX12_done_79 : decode cX12_done 79 = .ok (.goto 4, 3) := by decide +kernel
theorem dX12_done_82 : decode cX12_done 82 = .ok (.iconst 0, 1) := by decide +kernel
theorem dX12_done_83 : decode cX12_done 83 = .ok (.ireturn, 1) := by decide +kernel
theorem dX12_done_84 : decode cX12_done 84 = .ok (.iload_n 1, 1) := by decide +kernel
theorem dX12_done_85 : decode cX12_done 85 = .ok (.iload_n 2, 1) := by decide +kernel
theorem dX12_done_86 : decode cX12_done 86 = .ok (.if_icmp .ge 7, 3) := by decide +kernel
theorem dX12_done_89 : decode cX12_done 89 = .ok (.iconst 1, 1) := by decide +kernel
theorem dX12_done_90 : decode cX12_done 90 = .ok (.goto 4, 3) := by decide +kernel
theorem dX12_done_93 : decode cX12_done 93 = .ok (.iconst 0, 1) := by decide +kernel
theorem dX12_done_94 : decode cX12_done 94 = .ok (.ireturn, 1) := by decide +kernel
theorem dX12_done_95 : decode cX12_done 95 = .ok (.iload_n 1, 1) := by decide +kernel
theorem dX12_done_96 : decode cX12_done 96 = .ok (.iload_n 2, 1) := by decide +kernel
theorem dX12_done_97 : decode cX12_done 97 = .ok (.if_icmp .ne 7, 3) := by decide +kernel
theorem dX12_done_100 : decode cX12_done 100 = .ok (.iconst 1, 1) := by decide +kernel
theorem dX12_done_101 : decode cX12_done 101 = .ok (.goto 4, 3) := by decide +kernel
theorem dX12_done_104 : decode cX12_done 104 = .ok (.iconst 0, 1) := by decide +kernel
theorem dX12_done_105 : decode cX12_done 105 = .ok (.ireturn, 1) := by decide +kernel
theorem dX12_done_106 : decode cX12_done 106 = .ok (.iload_n 1, 1) := by decide +kernel
theorem dX12_done_107 : decode cX12_done 107 = .ok (.iload_n 2, 1) := by decide +kernel
theorem dX12_done_108 : decode cX12_done 108 = .ok (.if_icmp .le 7, 3) := by decide +kernel
theorem dX12_done_111 : decode cX12_done 111 = .ok (.iconst 1, 1) := by decide +kernel
theorem dX12_done_112 : decode cX12_done 112 = .ok (.goto 4, 3) := by decide +kernel
theorem dX12_done_115 : decode cX12_done 115 = .ok (.iconst 0, 1) := by decide +kernel
theorem dX12_done_116 : decode cX12_done 116 = .ok (.ireturn, 1) := by decide +kernel
theorem dX12_done_117 : decode cX12_done 117 = .ok (.iload_n 1, 1) := by decide +kernel
theorem dX12_done_118 : decode cX12_done 118 = .ok (.iload_n 2, 1) := by decide +kernel
theorem dX12_done_119 : decode cX12_done 119 = .ok (.iadd, 1) := by decide +kernel
theorem dX12_done_120 : decode cX12_done 120 = .ok (.ireturn, 1) := by decide +kernel
theorem dX12_done_121 : decode cX12_done 121 = .ok (.iload_n 1, 1) := by decide +kernel
theorem dX12_done_122 : decode cX12_done 122 = .ok (.iload_n 2, 1) := by decide +kernel
theorem dX12_done_123 : decode cX12_done 123 = .ok (.isub, 1) := by decide +kernel
theorem dX12_done_124 : decode cX12_done 124 = .ok (.ireturn, 1) := by decide +kernel
theorem dX12_done_125 : decode cX12_done 125 = .ok (.iload_n 1, 1) := by decide +kernel
theorem dX12_done_126 : decode cX12_done 126 = .ok (.iload_n 2, 1) := by decide +kernel
theorem dX12_done_127 : decode cX12_done 127 = .ok (.imul, 1) := by decide +kernel
theorem dX12_done_128 : decode cX12_done 128 = .ok (.ireturn, 1) := by decide +kernel
theorem dX12_done_129 : decode cX12_done 129 = .ok (.iload_n 2, 1) := by decide +kernel
theorem dX12_done_130 : decode cX12_done 130 = .ok (.ifCond .ne 7, 3) := by decide +kernel
theorem dX12_done_133 : decode cX12_done 133 = .ok (.iconst 0, 1) := by decide +kernel
theorem dX12_done_134 : decode cX12_done 134 = .ok (.goto 6, 3) := by decide +kernel
theorem dX12_done_137 : decode cX12_done 137 = .ok (.iload_n 1, 1) := by decide +kernel
theorem dX12_done_138 : decode cX12_done 138 = .ok (.iload_n 2, 1) := by decide +kernel
theorem dX12_done_139 : decode cX12_done 139 = .ok (.idiv, 1) := by decide +kernel
theorem dX12_done_140 : decode cX12_done 140 = .ok (.ireturn, 1) := by decide +kernel
theorem dX12_done_141 : decode cX12_done 141 = .ok (.iload_n 1, 1) := by decide +kernel
theorem dX12_done_142 : decode cX12_done 142 = .ok (.iload_n 2, 1) := by decide +kernel
theorem dX12_done_143 : decode cX12_done 143 = .ok (.invokestatic 136, 3) := by decide +kernel
theorem dX12_done_146 : decode cX12_done 146 = .ok (.ireturn, 1) := by decide +kernel
theorem dX12_done_147 : decode cX12_done 147 = .ok (.iload_n 1, 1) := by decide +kernel
theorem dX12_done_148 : decode cX12_done 148 = .ok (.iload_n 2, 1) := by decide +kernel
theorem dX12_done_149 : decode cX12_done 149 = .ok (.invokestatic 131, 3) := by decide +kernel
theorem dX12_done_152 : decode cX12_done 152 = .ok (.ireturn, 1) := by decide +kernel
theorem dX12_given_0 : decode cX12_given 0 = .ok (.sipush 468, 3) := by decide +kernel
theorem dX12_given_3 : decode cX12_given 3 = .ok (.bipush 66, 2) := by decide +kernel
theorem dX12_given_5 : decode cX12_given 5 = .ok (.iload_n 1, 1) := by decide +kernel
theorem dX12_given_6 : decode cX12_given 6 = .ok (.imul, 1) := by decide +kernel
theorem dX12_given_7 : decode cX12_given 7 = .ok (.iadd, 1) := by decide +kernel
theorem dX12_given_8 : decode cX12_given 8 = .ok (.iconst 3, 1) := by decide +kernel
theorem dX12_given_9 : decode cX12_given 9 = .ok (.iadd, 1) := by decide +kernel
theorem dX12_given_10 : decode cX12_given 10 = .ok (.istore 6, 2) := by decide +kernel
theorem dX12_given_12 : decode cX12_given 12 = .ok (.iconst 0, 1) := by decide +kernel
theorem dX12_given_13 : decode cX12_given 13 = .ok (.istore 7, 2) := by decide +kernel
theorem dX12_given_15 : decode cX12_given 15 = .ok (.iload 6, 2) := by decide +kernel
theorem dX12_given_17 : decode cX12_given 17 = .ok (.istore 8, 2) := by decide +kernel
theorem dX12_given_19 : decode cX12_given 19 = .ok (.iload 8, 2) := by decide +kernel
theorem dX12_given_21 : decode cX12_given 21 = .ok (.iload 6, 2) := by decide +kernel
theorem dX12_given_23 : decode cX12_given 23 = .ok (.aload_n 0, 1) := by decide +kernel
theorem dX12_given_24 : decode cX12_given 24 = .ok (.getfield 9, 3) := by decide +kernel
theorem dX12_given_27 : decode cX12_given 27 = .ok (.iload 6, 2) := by decide +kernel
theorem dX12_given_29 : decode cX12_given 29 = .ok (.iconst 1, 1) := by decide +kernel
theorem dX12_given_30 : decode cX12_given 30 = .ok (.isub, 1) := by decide +kernel
theorem dX12_given_31 : decode cX12_given 31 = .ok (.iaload, 1) := by decide +kernel
theorem dX12_given_32 : decode cX12_given 32 = .ok (.iadd, 1) := by decide +kernel
theorem dX12_given_33 : decode cX12_given 33 = .ok (.if_icmp .ge 191, 3) := by decide +kernel
theorem dX12_given_36 : decode cX12_given 36 = .ok (.aload_n 0, 1) := by decide +kernel
theorem dX12_given_37 : decode cX12_given 37 = .ok (.getfield 9, 3) := by decide +kernel
theorem dX12_given_40 : decode cX12_given 40 = .ok (.iload 8, 2) := by decide +kernel
theorem dX12_given_42 : decode cX12_given 42 = .ok (.iaload, 1) := by decide +kernel
theorem dX12_given_43 : decode cX12_given 43 = .ok (.istore 9, 2) := by decide +kernel
theorem dX12_given_45 : decode cX12_given 45 = .ok (.iload 9, 2) := by decide +kernel
theorem dX12_given_47 : decode cX12_given 47 = .ok (.sipush 20000, 3) := by decide +kernel
theorem dX12_given_50 : decode cX12_given 50 = .ok (.if_icmp .ge 68, 3) := by decide +kernel
theorem dX12_given_53 : decode cX12_given 53 = .ok (.aload_n 0, 1) := by decide +kernel
theorem dX12_given_54 : decode cX12_given 54 = .ok (.getfield 37, 3) := by decide +kernel
theorem dX12_given_57 : decode cX12_given 57 = .ok (.iload 7, 2) := by decide +kernel
theorem dX12_given_59 : decode cX12_given 59 = .ok (.iload 9, 2) := by decide +kernel
theorem dX12_given_61 : decode cX12_given 61 = .ok (.sipush 10000, 3) := by decide +kernel
theorem dX12_given_64 : decode cX12_given 64 = .ok (.if_icmp .ge 8, 3) := by decide +kernel
theorem dX12_given_67 : decode cX12_given 67 = .ok (.iload 9, 2) := by decide +kernel
theorem dX12_given_69 : decode cX12_given 69 = .ok (.goto 42, 3) := by decide +kernel
theorem dX12_given_72 : decode cX12_given 72 = .ok (.iload 9, 2) := by decide +kernel
theorem dX12_given_74 : decode cX12_given 74 = .ok (.sipush 10000, 3) := by decide +kernel
theorem dX12_given_77 : decode cX12_given 77 = .ok (.if_icmp .ne 7, 3) := by decide +kernel
theorem dX12_given_80 : decode cX12_given 80 = .ok (.iload_n 2, 1) := by decide +kernel
theorem dX12_given_81 : decode cX12_given 81 = .ok (.goto 30, 3) := by decide +kernel
theorem dX12_given_84 : decode cX12_given 84 = .ok (.iload 9, 2) := by decide +kernel
theorem dX12_given_86 : decode cX12_given 86 = .ok (.sipush 10001, 3) := by decide +kernel
theorem dX12_given_89 : decode cX12_given 89 = .ok (.if_icmp .ne 7, 3) := by decide +kernel
theorem dX12_given_92 : decode cX12_given 92 = .ok (.iload_n 3, 1) := by decide +kernel
theorem dX12_given_93 : decode cX12_given 93 = .ok (.goto 18, 3) := by decide +kernel
theorem dX12_given_96 : decode cX12_given 96 = .ok (.iload 9, 2) := by decide +kernel
theorem dX12_given_98 : decode cX12_given 98 = .ok (.sipush 10002, 3) := by decide +kernel
theorem dX12_given_101 : decode cX12_given 101 = .ok (.if_icmp .ne 8, 3) := by decide +kernel
theorem dX12_given_104 : decode cX12_given 104 = .ok (.iload 4, 2) := by decide +kernel
theorem dX12_given_106 : decode cX12_given 106 = .ok (.goto 5, 3) := by decide +kernel
theorem dX12_given_109 : decode cX12_given 109 = .ok (.iload 5, 2) := by decide +kernel
theorem dX12_given_111 : decode cX12_given 111 = .ok (.iastore, 1) := by decide +kernel
theorem dX12_given_112 : decode cX12_given 112 = .ok (.iinc 7 1, 3) := by decide +kernel
theorem dX12_given_115 : decode cX12_given 115 = .ok (.goto 103, 3) := by decide +kernel
theorem dX12_given_118 : decode cX12_given 118 = .ok (.iload 9, 2) := by decide +kernel
theorem dX12_given_120 : decode cX12_given 120 = .ok (.sipush 20011, 3) := by decide +kernel
theorem dX12_given_123 : decode cX12_given 123 = .ok (.if_icmp .ne 32, 3) := by decide +kernel
theorem dX12_given_126 : decode cX12_given 126 = .ok (.aload_n 0, 1) := by decide +kernel
theorem dX12_given_127 : decode cX12_given 127 = .ok (.getfield 37, 3) := by decide +kernel
theorem dX12_given_130 : decode cX12_given 130 = .ok (.iload 7, 2) := by decide +kernel
theorem dX12_given_132 : decode cX12_given 132 = .ok (.iconst 1, 1) := by decide +kernel
theorem dX12_given_133 : decode cX12_given 133 = .ok (.isub, 1) := by decide +kernel
theorem dX12_given_134 : decode cX12_given 134 = .ok (.aload_n 0, 1) := by decide +kernel
theorem dX12_given_135 : decode cX12_given 135 = .ok (.getfield 37, 3) := by decide +kernel
theorem dX12_given_138 : decode cX12_given 138 = .ok (.iload 7, 2) := by decide +kernel
theorem dX12_given_140 : decode cX12_given 140 = .ok (.iconst 1, 1) := by decide +kernel
theorem dX12_given_141 : decode cX12_given 141 = .ok (.isub, 1) := by decide +kernel
theorem dX12_given_142 : decode cX12_given 142 = .ok (.iaload, 1) := by decide +kernel
theorem dX12_given_143 : decode cX12_given 143 = .ok (.ifCond .ne 7, 3) := by decide +kernel
theorem dX12_given_146 : decode cX12_given 146 = .ok (.iconst 1, 1) := by decide +kernel
theorem dX12_given_147 : decode cX12_given 147 = .ok (.goto 4, 3) := by decide +kernel
theorem dX12_given_150 : decode cX12_given 150 = .ok (.iconst 0, 1) := by decide +kernel
theorem dX12_given_151 : decode cX12_given 151 = .ok (.iastore, 1) := by decide +kernel
theorem dX12_given_152 : decode cX12_given 152 = .ok (.goto 66, 3) := by decide +kernel
theorem dX12_given_155 : decode cX12_given 155 = .ok (.iload 9, 2) := by decide +kernel
theorem dX12_given_157 : decode cX12_given 157 = .ok (.sipush 20012, 3) := by decide +kernel
theorem dX12_given_160 : decode cX12_given 160 = .ok (.if_icmp .ne 25, 3) := by decide +kernel
theorem dX12_given_163 : decode cX12_given 163 = .ok (.aload_n 0, 1) := by decide +kernel
theorem dX12_given_164 : decode cX12_given 164 = .ok (.getfield 37, 3) := by decide +kernel
theorem dX12_given_167 : decode cX12_given 167 = .ok (.iload 7, 2) := by decide +kernel
theorem dX12_given_169 : decode cX12_given 169 = .ok (.iconst 1, 1) := by decide +kernel
theorem dX12_given_170 : decode cX12_given 170 = .ok (.isub, 1) := by decide +kernel
theorem dX12_given_171 : decode cX12_given 171 = .ok (.aload_n 0, 1) := by decide +kernel
theorem dX12_given_172 : decode cX12_given 172 = .ok (.getfield 37, 3) := by decide +kernel
theorem dX12_given_175 : decode cX12_given 175 = .ok (.iload 7, 2) := by decide +kernel
theorem dX12_given_177 : decode cX12_given 177 = .ok (.iconst 1, 1) := by decide +kernel
theorem dX12_given_178 : decode cX12_given 178 = .ok (.isub, 1) := by decide +kernel
theorem dX12_given_179 : decode cX12_given 179 = .ok (.iaload, 1) := by decide +kernel
theorem dX12_given_180 : decode cX12_given 180 = .ok (.ineg, 1) := by decide +kernel
theorem dX12_given_181 : decode cX12_given 181 = .ok (.iastore, 1) := by decide +kernel
theorem dX12_given_182 : decode cX12_given 182 = .ok (.goto 36, 3) := by decide +kernel
theorem dX12_given_185 : decode cX12_given 185 = .ok (.iinc 7 (-1), 3) := by decide +kernel
theorem dX12_given_188 : decode cX12_given 188 = .ok (.aload_n 0, 1) := by decide +kernel
theorem dX12_given_189 : decode cX12_given 189 = .ok (.getfield 37, 3) := by decide +kernel
theorem dX12_given_192 : decode cX12_given 192 = .ok (.iload 7, 2) := by decide +kernel
theorem dX12_given_194 : decode cX12_given 194 = .ok (.iconst 1, 1) := by decide +kernel
theorem dX12_given_195 : decode cX12_given 195 = .ok (.isub, 1) := by decide +kernel
theorem dX12_given_196 : decode cX12_given 196 = .ok (.iload 9, 2) := by decide +kernel
theorem dX12_given_198 : decode cX12_given 198 = .ok (.aload_n 0, 1) := by decide +kernel
theorem dX12_given_199 : decode cX12_given 199 = .ok (.getfield 37, 3) := by decide +kernel
theorem dX12_given_202 : decode cX12_given 202 = .ok (.iload 7, 2) := by decide +kernel
theorem dX12_given_204 : decode cX12_given 204 = .ok (.iconst 1, 1) := by decide +kernel
theorem dX12_given_205 : decode cX12_given 205 = .ok (.isub, 1) := by decide +kernel
theorem dX12_given_206 : decode cX12_given 206 = .ok (.iaload, 1) := by decide +kernel
theorem dX12_given_207 : decode cX12_given 207 = .ok (.aload_n 0, 1) := by decide +kernel
theorem dX12_given_208 : decode cX12_given 208 = .ok (.getfield 37, 3) := by decide +kernel
theorem dX12_given_211 : decode cX12_given 211 = .ok (.iload 7, 2) := by decide +kernel
theorem dX12_given_213 : decode cX12_given 213 = .ok (.iaload, 1) := by decide +kernel
theorem dX12_given_214 : decode cX12_given 214 = .ok (.invokestatic 288, 3) := by decide +kernel
theorem dX12_given_217 : decode cX12_given 217 = .ok (.iastore, 1) := by decide +kernel
theorem dX12_given_218 : decode cX12_given 218 = .ok (.iinc 8 1, 3) := by decide +kernel
theorem dX12_given_221 : decode cX12_given 221 = .ok (.goto (-202), 3) := by decide +kernel
theorem dX12_given_224 : decode cX12_given 224 = .ok (.aload_n 0, 1) := by decide +kernel
theorem dX12_given_225 : decode cX12_given 225 = .ok (.getfield 37, 3) := by decide +kernel
theorem dX12_given_228 : decode cX12_given 228 = .ok (.iconst 0, 1) := by decide +kernel
theorem dX12_given_229 : decode cX12_given 229 = .ok (.iaload, 1) := by decide +kernel
theorem dX12_given_230 : decode cX12_given 230 = .ok (.ireturn, 1) := by decide +kernel
theorem dX12_says_0 : decode cX12_says 0 = .ok (.aload_n 0, 1) := by decide +kernel
theorem dX12_says_1 : decode cX12_says 1 = .ok (.iload_n 1, 1) := by decide +kernel
theorem dX12_says_2 : decode cX12_says 2 = .ok (.iconst 3, 1) := by decide +kernel
theorem dX12_says_3 : decode cX12_says 3 = .ok (.invokevirtual 93, 3) := by decide +kernel
theorem dX12_says_6 : decode cX12_says 6 = .ok (.ifCond .eq 17, 3) := by decide +kernel
theorem dX12_says_9 : decode cX12_says 9 = .ok (.aload_n 0, 1) := by decide +kernel
theorem dX12_says_10 : decode cX12_says 10 = .ok (.iload_n 1, 1) := by decide +kernel
theorem dX12_says_11 : decode cX12_says 11 = .ok (.iload_n 2, 1) := by decide +kernel
theorem dX12_says_12 : decode cX12_says 12 = .ok (.iload_n 3, 1) := by decide +kernel
theorem dX12_says_13 : decode cX12_says 13 = .ok (.iload 4, 2) := by decide +kernel
theorem dX12_says_15 : decode cX12_says 15 = .ok (.iload 5, 2) := by decide +kernel
theorem dX12_says_17 : decode cX12_says 17 = .ok (.invokevirtual 152, 3) := by decide +kernel
theorem dX12_says_20 : decode cX12_says 20 = .ok (.goto 9, 3) := by decide +kernel
theorem dX12_says_23 : decode cX12_says 23 = .ok (.aload_n 0, 1) := by decide +kernel
theorem dX12_says_24 : decode cX12_says 24 = .ok (.ldc 83, 2) := by decide +kernel
theorem dX12_says_26 : decode cX12_says 26 = .ok (.invokevirtual 84, 3) := by decide +kernel
theorem dX12_says_29 : decode cX12_says 29 = .ok (.ireturn, 1) := by decide +kernel
theorem dX12_line_0 : decode cX12_line 0 = .ok (.aload_n 0, 1) := by decide +kernel
theorem dX12_line_1 : decode cX12_line 1 = .ok (.getfield 9, 3) := by decide +kernel
theorem dX12_line_4 : decode cX12_line 4 = .ok (.sipush 1128, 3) := by decide +kernel
theorem dX12_line_7 : decode cX12_line 7 = .ok (.iconst 5, 1) := by decide +kernel
theorem dX12_line_8 : decode cX12_line 8 = .ok (.iload_n 1, 1) := by decide +kernel
theorem dX12_line_9 : decode cX12_line 9 = .ok (.imul, 1) := by decide +kernel
theorem dX12_line_10 : decode cX12_line 10 = .ok (.iadd, 1) := by decide +kernel
theorem dX12_line_11 : decode cX12_line 11 = .ok (.iload_n 2, 1) := by decide +kernel
theorem dX12_line_12 : decode cX12_line 12 = .ok (.iadd, 1) := by decide +kernel
theorem dX12_line_13 : decode cX12_line 13 = .ok (.iaload, 1) := by decide +kernel
theorem dX12_line_14 : decode cX12_line 14 = .ok (.ireturn, 1) := by decide +kernel
theorem dX12_enter_0 : decode cX12_enter 0 = .ok (.aload_n 0, 1) := by decide +kernel
theorem dX12_enter_1 : decode cX12_enter 1 = .ok (.iload_n 1, 1) := by decide +kernel
theorem dX12_enter_2 : decode cX12_enter 2 = .ok (.iconst 2, 1) := by decide +kernel
theorem dX12_enter_3 : decode cX12_enter 3 = .ok (.invokevirtual 93, 3) := by decide +kernel
theorem dX12_enter_6 : decode cX12_enter 6 = .ok (.ifCond .eq 32, 3) := by decide +kernel
theorem dX12_enter_9 : decode cX12_enter 9 = .ok (.iload_n 2, 1) := by decide +kernel
theorem dX12_enter_10 : decode cX12_enter 10 = .ok (.invokestatic 105, 3) := by decide +kernel
theorem dX12_enter_13 : decode cX12_enter 13 = .ok (.ifCond .eq 25, 3) := by decide +kernel
theorem dX12_enter_16 : decode cX12_enter 16 = .ok (.iload_n 3, 1) := by decide +kernel
theorem dX12_enter_17 : decode cX12_enter 17 = .ok (.iconst 0, 1) := by decide +kernel
theorem dX12_enter_18 : decode cX12_enter 18 = .ok (.ldc 183, 2) := by decide +kernel
theorem dX12_enter_20 : decode cX12_enter 20 = .ok (.invokestatic 78, 3) := by decide +kernel
theorem dX12_enter_23 : decode cX12_enter 23 = .ok (.ifCond .eq 15, 3) := by decide +kernel
theorem dX12_enter_26 : decode cX12_enter 26 = .ok (.iload 4, 2) := by decide +kernel
theorem dX12_enter_28 : decode cX12_enter 28 = .ok (.iconst 0, 1) := by decide +kernel
theorem dX12_enter_29 : decode cX12_enter 29 = .ok (.ldc_w 291, 3) := by decide +kernel
theorem dX12_enter_32 : decode cX12_enter 32 = .ok (.invokestatic 78, 3) := by decide +kernel
theorem dX12_enter_35 : decode cX12_enter 35 = .ok (.ifCond .ne 10, 3) := by decide +kernel
theorem dX12_enter_38 : decode cX12_enter 38 = .ok (.aload_n 0, 1) := by decide +kernel
theorem dX12_enter_39 : decode cX12_enter 39 = .ok (.ldc 83, 2) := by decide +kernel
theorem dX12_enter_41 : decode cX12_enter 41 = .ok (.invokevirtual 84, 3) := by decide +kernel
theorem dX12_enter_44 : decode cX12_enter 44 = .ok (.ireturn, 1) := by decide +kernel
theorem dX12_enter_45 : decode cX12_enter 45 = .ok (.aload_n 0, 1) := by decide +kernel
theorem dX12_enter_46 : decode cX12_enter 46 = .ok (.getfield 9, 3) := by decide +kernel
theorem dX12_enter_49 : decode cX12_enter 49 = .ok (.iconst 4, 1) := by decide +kernel
theorem dX12_enter_50 : decode cX12_enter 50 = .ok (.iaload, 1) := by decide +kernel
theorem dX12_enter_51 : decode cX12_enter 51 = .ok (.istore 5, 2) := by decide +kernel
theorem dX12_enter_53 : decode cX12_enter 53 = .ok (.iload 5, 2) := by decide +kernel
theorem dX12_enter_55 : decode cX12_enter 55 = .ok (.bipush 40, 2) := by decide +kernel
theorem dX12_enter_57 : decode cX12_enter 57 = .ok (.if_icmp .ne 10, 3) := by decide +kernel
theorem dX12_enter_60 : decode cX12_enter 60 = .ok (.aload_n 0, 1) := by decide +kernel
theorem dX12_enter_61 : decode cX12_enter 61 = .ok (.ldc 88, 2) := by decide +kernel
theorem dX12_enter_63 : decode cX12_enter 63 = .ok (.invokevirtual 84, 3) := by decide +kernel
theorem dX12_enter_66 : decode cX12_enter 66 = .ok (.ireturn, 1) := by decide +kernel
theorem dX12_enter_67 : decode cX12_enter 67 = .ok (.sipush 1128, 3) := by decide +kernel
theorem dX12_enter_70 : decode cX12_enter 70 = .ok (.iconst 5, 1) := by decide +kernel
theorem dX12_enter_71 : decode cX12_enter 71 = .ok (.iload 5, 2) := by decide +kernel
theorem dX12_enter_73 : decode cX12_enter 73 = .ok (.imul, 1) := by decide +kernel
theorem dX12_enter_74 : decode cX12_enter 74 = .ok (.iadd, 1) := by decide +kernel
theorem dX12_enter_75 : decode cX12_enter 75 = .ok (.istore 6, 2) := by decide +kernel
theorem dX12_enter_77 : decode cX12_enter 77 = .ok (.aload_n 0, 1) := by decide +kernel
theorem dX12_enter_78 : decode cX12_enter 78 = .ok (.getfield 9, 3) := by decide +kernel
theorem dX12_enter_81 : decode cX12_enter 81 = .ok (.iload 6, 2) := by decide +kernel
theorem dX12_enter_83 : decode cX12_enter 83 = .ok (.iconst 0, 1) := by decide +kernel
theorem dX12_enter_84 : decode cX12_enter 84 = .ok (.iadd, 1) := by decide +kernel
theorem dX12_enter_85 : decode cX12_enter 85 = .ok (.iload_n 1, 1) := by decide +kernel
theorem dX12_enter_86 : decode cX12_enter 86 = .ok (.iastore, 1) := by decide +kernel
theorem dX12_enter_87 : decode cX12_enter 87 = .ok (.aload_n 0, 1) := by decide +kernel
theorem dX12_enter_88 : decode cX12_enter 88 = .ok (.getfield 9, 3) := by decide +kernel
theorem dX12_enter_91 : decode cX12_enter 91 = .ok (.iload 6, 2) := by decide +kernel
theorem dX12_enter_93 : decode cX12_enter 93 = .ok (.iconst 1, 1) := by decide +kernel
theorem dX12_enter_94 : decode cX12_enter 94 = .ok (.iadd, 1) := by decide +kernel
theorem dX12_enter_95 : decode cX12_enter 95 = .ok (.iload_n 2, 1) := by decide +kernel
theorem dX12_enter_96 : decode cX12_enter 96 = .ok (.iastore, 1) := by decide +kernel
theorem dX12_enter_97 : decode cX12_enter 97 = .ok (.aload_n 0, 1) := by decide +kernel
theorem dX12_enter_98 : decode cX12_enter 98 = .ok (.getfield 9, 3) := by decide +kernel
theorem dX12_enter_101 : decode cX12_enter 101 = .ok (.iload 6, 2) := by decide +kernel
theorem dX12_enter_103 : decode cX12_enter 103 = .ok (.iconst 2, 1) := by decide +kernel
theorem dX12_enter_104 : decode cX12_enter 104 = .ok (.iadd, 1) := by decide +kernel
theorem dX12_enter_105 : decode cX12_enter 105 = .ok (.iload_n 3, 1) := by decide +kernel
theorem dX12_enter_106 : decode cX12_enter 106 = .ok (.iastore, 1) := by decide +kernel
theorem dX12_enter_107 : decode cX12_enter 107 = .ok (.aload_n 0, 1) := by decide +kernel
theorem dX12_enter_108 : decode cX12_enter 108 = .ok (.getfield 9, 3) := by decide +kernel
theorem dX12_enter_111 : decode cX12_enter 111 = .ok (.iload 6, 2) := by decide +kernel
theorem dX12_enter_113 : decode cX12_enter 113 = .ok (.iconst 3, 1) := by decide +kernel
theorem dX12_enter_114 : decode cX12_enter 114 = .ok (.iadd, 1) := by decide +kernel
theorem dX12_enter_115 : decode cX12_enter 115 = .ok (.iload 4, 2) := by decide +kernel
theorem dX12_enter_117 : decode cX12_enter 117 = .ok (.sipush 1000, 3) := by decide +kernel
theorem dX12_enter_120 : decode cX12_enter 120 = .ok (.idiv, 1) := by decide +kernel
theorem dX12_enter_121 : decode cX12_enter 121 = .ok (.iastore, 1) := by decide +kernel
theorem dX12_enter_122 : decode cX12_enter 122 = .ok (.aload_n 0, 1) := by decide +kernel
theorem dX12_enter_123 : decode cX12_enter 123 = .ok (.getfield 9, 3) := by decide +kernel
theorem dX12_enter_126 : decode cX12_enter 126 = .ok (.iload 6, 2) := by decide +kernel
theorem dX12_enter_128 : decode cX12_enter 128 = .ok (.iconst 4, 1) := by decide +kernel
theorem dX12_enter_129 : decode cX12_enter 129 = .ok (.iadd, 1) := by decide +kernel
theorem dX12_enter_130 : decode cX12_enter 130 = .ok (.iload 4, 2) := by decide +kernel
theorem dX12_enter_132 : decode cX12_enter 132 = .ok (.sipush 1000, 3) := by decide +kernel
theorem dX12_enter_135 : decode cX12_enter 135 = .ok (.irem, 1) := by decide +kernel
theorem dX12_enter_136 : decode cX12_enter 136 = .ok (.iastore, 1) := by decide +kernel
theorem dX12_enter_137 : decode cX12_enter 137 = .ok (.aload_n 0, 1) := by decide +kernel
theorem dX12_enter_138 : decode cX12_enter 138 = .ok (.getfield 9, 3) := by decide +kernel
theorem dX12_enter_141 : decode cX12_enter 141 = .ok (.iconst 4, 1) := by decide +kernel
theorem dX12_enter_142 : decode cX12_enter 142 = .ok (.dup2, 1) := by decide +kernel
theorem dX12_enter_143 : decode cX12_enter 143 = .ok (.iaload, 1) := by decide +kernel
theorem dX12_enter_144 : decode cX12_enter 144 = .ok (.iconst 1, 1) := by decide +kernel
theorem dX12_enter_145 : decode cX12_enter 145 = .ok (.iadd, 1) := by decide +kernel
theorem dX12_enter_146 : decode cX12_enter 146 = .ok (.iastore, 1) := by decide +kernel
theorem dX12_enter_147 : decode cX12_enter 147 = .ok (.iload 5, 2) := by decide +kernel
theorem dX12_enter_149 : decode cX12_enter 149 = .ok (.ireturn, 1) := by decide +kernel
theorem dX12_firstOf_0 : decode cX12_firstOf 0 = .ok (.iconst 0, 1) := by decide +kernel
theorem dX12_firstOf_1 : decode cX12_firstOf 1 = .ok (.istore_n 2, 1) := by decide +kernel
theorem dX12_firstOf_2 : decode cX12_firstOf 2 = .ok (.aload_n 0, 1) := by decide +kernel
theorem dX12_firstOf_3 : decode cX12_firstOf 3 = .ok (.iload_n 2, 1) := by decide +kernel
theorem dX12_firstOf_4 : decode cX12_firstOf 4 = .ok (.iconst 0, 1) := by decide +kernel
theorem dX12_firstOf_5 : decode cX12_firstOf 5 = .ok (.invokevirtual 292, 3) := by decide +kernel
theorem dX12_firstOf_8 : decode cX12_firstOf 8 = .ok (.aload_n 0, 1) := by decide +kernel
theorem dX12_firstOf_9 : decode cX12_firstOf 9 = .ok (.iload_n 1, 1) := by decide +kernel
theorem dX12_firstOf_10 : decode cX12_firstOf 10 = .ok (.iconst 0, 1) := by decide +kernel
theorem dX12_firstOf_11 : decode cX12_firstOf 11 = .ok (.invokevirtual 292, 3) := by decide +kernel
theorem dX12_firstOf_14 : decode cX12_firstOf 14 = .ok (.if_icmp .ne 18, 3) := by decide +kernel
theorem dX12_firstOf_17 : decode cX12_firstOf 17 = .ok (.aload_n 0, 1) := by decide +kernel
theorem dX12_firstOf_18 : decode cX12_firstOf 18 = .ok (.iload_n 2, 1) := by decide +kernel
theorem dX12_firstOf_19 : decode cX12_firstOf 19 = .ok (.iconst 1, 1) := by decide +kernel
theorem dX12_firstOf_20 : decode cX12_firstOf 20 = .ok (.invokevirtual 292, 3) := by decide +kernel
theorem dX12_firstOf_23 : decode cX12_firstOf 23 = .ok (.aload_n 0, 1) := by decide +kernel
theorem dX12_firstOf_24 : decode cX12_firstOf 24 = .ok (.iload_n 1, 1) := by decide +kernel
theorem dX12_firstOf_25 : decode cX12_firstOf 25 = .ok (.iconst 1, 1) := by decide +kernel
theorem dX12_firstOf_26 : decode cX12_firstOf 26 = .ok (.invokevirtual 292, 3) := by decide +kernel
theorem dX12_firstOf_29 : decode cX12_firstOf 29 = .ok (.if_icmp .eq 9, 3) := by decide +kernel
theorem dX12_firstOf_32 : decode cX12_firstOf 32 = .ok (.iinc 2 1, 3) := by decide +kernel
theorem dX12_firstOf_35 : decode cX12_firstOf 35 = .ok (.goto (-33), 3) := by decide +kernel
theorem dX12_firstOf_38 : decode cX12_firstOf 38 = .ok (.iload_n 2, 1) := by decide +kernel
theorem dX12_firstOf_39 : decode cX12_firstOf 39 = .ok (.ireturn, 1) := by decide +kernel
theorem dX12_isDisputed_0 : decode cX12_isDisputed 0 = .ok (.aload_n 0, 1) := by decide +kernel
theorem dX12_isDisputed_1 : decode cX12_isDisputed 1 = .ok (.iload_n 1, 1) := by decide +kernel
theorem dX12_isDisputed_2 : decode cX12_isDisputed 2 = .ok (.iconst 0, 1) := by decide +kernel
theorem dX12_isDisputed_3 : decode cX12_isDisputed 3 = .ok (.invokevirtual 292, 3) := by decide +kernel
theorem dX12_isDisputed_6 : decode cX12_isDisputed 6 = .ok (.istore_n 2, 1) := by decide +kernel
theorem dX12_isDisputed_7 : decode cX12_isDisputed 7 = .ok (.aload_n 0, 1) := by decide +kernel
theorem dX12_isDisputed_8 : decode cX12_isDisputed 8 = .ok (.iload_n 2, 1) := by decide +kernel
theorem dX12_isDisputed_9 : decode cX12_isDisputed 9 = .ok (.aload_n 0, 1) := by decide +kernel
theorem dX12_isDisputed_10 : decode cX12_isDisputed 10 = .ok (.iload_n 1, 1) := by decide +kernel
theorem dX12_isDisputed_11 : decode cX12_isDisputed 11 = .ok (.iconst 1, 1) := by decide +kernel
theorem dX12_isDisputed_12 : decode cX12_isDisputed 12 = .ok (.invokevirtual 292, 3) := by decide +kernel
theorem dX12_isDisputed_15 : decode cX12_isDisputed 15 = .ok (.invokevirtual 180, 3) := by decide +kernel
theorem dX12_isDisputed_18 : decode cX12_isDisputed 18 = .ok (.istore_n 3, 1) := by decide +kernel
theorem dX12_isDisputed_19 : decode cX12_isDisputed 19 = .ok (.aload_n 0, 1) := by decide +kernel
theorem dX12_isDisputed_20 : decode cX12_isDisputed 20 = .ok (.iload_n 1, 1) := by decide +kernel
theorem dX12_isDisputed_21 : decode cX12_isDisputed 21 = .ok (.iconst 2, 1) := by decide +kernel
theorem dX12_isDisputed_22 : decode cX12_isDisputed 22 = .ok (.invokevirtual 292, 3) := by decide +kernel
theorem dX12_isDisputed_25 : decode cX12_isDisputed 25 = .ok (.istore 4, 2) := by decide +kernel
theorem dX12_isDisputed_27 : decode cX12_isDisputed 27 = .ok (.aload_n 0, 1) := by decide +kernel
theorem dX12_isDisputed_28 : decode cX12_isDisputed 28 = .ok (.iconst 2, 1) := by decide +kernel
theorem dX12_isDisputed_29 : decode cX12_isDisputed 29 = .ok (.aload_n 0, 1) := by decide +kernel
theorem dX12_isDisputed_30 : decode cX12_isDisputed 30 = .ok (.iload_n 2, 1) := by decide +kernel
theorem dX12_isDisputed_31 : decode cX12_isDisputed 31 = .ok (.iconst 2, 1) := by decide +kernel
theorem dX12_isDisputed_32 : decode cX12_isDisputed 32 = .ok (.invokevirtual 113, 3) := by decide +kernel
theorem dX12_isDisputed_35 : decode cX12_isDisputed 35 = .ok (.invokevirtual 142, 3) := by decide +kernel
theorem dX12_isDisputed_38 : decode cX12_isDisputed 38 = .ok (.istore 5, 2) := by decide +kernel
theorem dX12_isDisputed_40 : decode cX12_isDisputed 40 = .ok (.iload 5, 2) := by decide +kernel
theorem dX12_isDisputed_42 : decode cX12_isDisputed 42 = .ok (.ifCond .ge 25, 3) := by decide +kernel
theorem dX12_isDisputed_45 : decode cX12_isDisputed 45 = .ok (.iload 4, 2) := by decide +kernel
theorem dX12_isDisputed_47 : decode cX12_isDisputed 47 = .ok (.iload_n 3, 1) := by decide +kernel
theorem dX12_isDisputed_48 : decode cX12_isDisputed 48 = .ok (.aload_n 0, 1) := by decide +kernel
theorem dX12_isDisputed_49 : decode cX12_isDisputed 49 = .ok (.getfield 9, 3) := by decide +kernel
theorem dX12_isDisputed_52 : decode cX12_isDisputed 52 = .ok (.bipush 13, 2) := by decide +kernel
theorem dX12_isDisputed_54 : decode cX12_isDisputed 54 = .ok (.iaload, 1) := by decide +kernel
theorem dX12_isDisputed_55 : decode cX12_isDisputed 55 = .ok (.iadd, 1) := by decide +kernel
theorem dX12_isDisputed_56 : decode cX12_isDisputed 56 = .ok (.if_icmp .le 7, 3) := by decide +kernel
theorem dX12_isDisputed_59 : decode cX12_isDisputed 59 = .ok (.iconst 1, 1) := by decide +kernel
theorem dX12_isDisputed_60 : decode cX12_isDisputed 60 = .ok (.goto 32, 3) := by decide +kernel
theorem dX12_isDisputed_63 : decode cX12_isDisputed 63 = .ok (.iconst 0, 1) := by decide +kernel
theorem dX12_isDisputed_64 : decode cX12_isDisputed 64 = .ok (.goto 28, 3) := by decide +kernel
theorem dX12_isDisputed_67 : decode cX12_isDisputed 67 = .ok (.aload_n 0, 1) := by decide +kernel
theorem dX12_isDisputed_68 : decode cX12_isDisputed 68 = .ok (.iload 5, 2) := by decide +kernel
theorem dX12_isDisputed_70 : decode cX12_isDisputed 70 = .ok (.iload 4, 2) := by decide +kernel
theorem dX12_isDisputed_72 : decode cX12_isDisputed 72 = .ok (.iload_n 3, 1) := by decide +kernel
theorem dX12_isDisputed_73 : decode cX12_isDisputed 73 = .ok (.aload_n 0, 1) := by decide +kernel
theorem dX12_isDisputed_74 : decode cX12_isDisputed 74 = .ok (.getfield 9, 3) := by decide +kernel
theorem dX12_isDisputed_77 : decode cX12_isDisputed 77 = .ok (.bipush 13, 2) := by decide +kernel
theorem dX12_isDisputed_79 : decode cX12_isDisputed 79 = .ok (.iaload, 1) := by decide +kernel
theorem dX12_isDisputed_80 : decode cX12_isDisputed 80 = .ok (.iconst 0, 1) := by decide +kernel
theorem dX12_isDisputed_81 : decode cX12_isDisputed 81 = .ok (.invokevirtual 152, 3) := by decide +kernel
theorem dX12_isDisputed_84 : decode cX12_isDisputed 84 = .ok (.ifCond .eq 7, 3) := by decide +kernel
theorem dX12_isDisputed_87 : decode cX12_isDisputed 87 = .ok (.iconst 1, 1) := by decide +kernel
theorem dX12_isDisputed_88 : decode cX12_isDisputed 88 = .ok (.goto 4, 3) := by decide +kernel
theorem dX12_isDisputed_91 : decode cX12_isDisputed 91 = .ok (.iconst 0, 1) := by decide +kernel
theorem dX12_isDisputed_92 : decode cX12_isDisputed 92 = .ok (.ireturn, 1) := by decide +kernel
theorem dX12_kindOf_0 : decode cX12_kindOf 0 = .ok (.aload_n 0, 1) := by decide +kernel
theorem dX12_kindOf_1 : decode cX12_kindOf 1 = .ok (.iload_n 1, 1) := by decide +kernel
theorem dX12_kindOf_2 : decode cX12_kindOf 2 = .ok (.invokevirtual 295, 3) := by decide +kernel
theorem dX12_kindOf_5 : decode cX12_kindOf 5 = .ok (.iload_n 1, 1) := by decide +kernel
theorem dX12_kindOf_6 : decode cX12_kindOf 6 = .ok (.if_icmp .ge 7, 3) := by decide +kernel
theorem dX12_kindOf_9 : decode cX12_kindOf 9 = .ok (.iconst 4, 1) := by decide +kernel
theorem dX12_kindOf_10 : decode cX12_kindOf 10 = .ok (.goto 39, 3) := by decide +kernel
theorem dX12_kindOf_13 : decode cX12_kindOf 13 = .ok (.aload_n 0, 1) := by decide +kernel
theorem dX12_kindOf_14 : decode cX12_kindOf 14 = .ok (.iload_n 1, 1) := by decide +kernel
theorem dX12_kindOf_15 : decode cX12_kindOf 15 = .ok (.invokevirtual 298, 3) := by decide +kernel
theorem dX12_kindOf_18 : decode cX12_kindOf 18 = .ok (.ifCond .eq 7, 3) := by decide +kernel
theorem dX12_kindOf_21 : decode cX12_kindOf 21 = .ok (.iconst 3, 1) := by decide +kernel
theorem dX12_kindOf_22 : decode cX12_kindOf 22 = .ok (.goto 27, 3) := by decide +kernel
theorem dX12_kindOf_25 : decode cX12_kindOf 25 = .ok (.aload_n 0, 1) := by decide +kernel
theorem dX12_kindOf_26 : decode cX12_kindOf 26 = .ok (.aload_n 0, 1) := by decide +kernel
theorem dX12_kindOf_27 : decode cX12_kindOf 27 = .ok (.iload_n 1, 1) := by decide +kernel
theorem dX12_kindOf_28 : decode cX12_kindOf 28 = .ok (.iconst 0, 1) := by decide +kernel
theorem dX12_kindOf_29 : decode cX12_kindOf 29 = .ok (.invokevirtual 292, 3) := by decide +kernel
theorem dX12_kindOf_32 : decode cX12_kindOf 32 = .ok (.aload_n 0, 1) := by decide +kernel
theorem dX12_kindOf_33 : decode cX12_kindOf 33 = .ok (.iload_n 1, 1) := by decide +kernel
theorem dX12_kindOf_34 : decode cX12_kindOf 34 = .ok (.iconst 1, 1) := by decide +kernel
theorem dX12_kindOf_35 : decode cX12_kindOf 35 = .ok (.invokevirtual 292, 3) := by decide +kernel
theorem dX12_kindOf_38 : decode cX12_kindOf 38 = .ok (.invokevirtual 171, 3) := by decide +kernel
theorem dX12_kindOf_41 : decode cX12_kindOf 41 = .ok (.ifCond .eq 7, 3) := by decide +kernel
theorem dX12_kindOf_44 : decode cX12_kindOf 44 = .ok (.iconst 2, 1) := by decide +kernel
theorem dX12_kindOf_45 : decode cX12_kindOf 45 = .ok (.goto 4, 3) := by decide +kernel
theorem dX12_kindOf_48 : decode cX12_kindOf 48 = .ok (.iconst 1, 1) := by decide +kernel
theorem dX12_kindOf_49 : decode cX12_kindOf 49 = .ok (.ireturn, 1) := by decide +kernel
theorem dX12_entryIs_0 : decode cX12_entryIs 0 = .ok (.aload_n 0, 1) := by decide +kernel
theorem dX12_entryIs_1 : decode cX12_entryIs 1 = .ok (.iload_n 1, 1) := by decide +kernel
theorem dX12_entryIs_2 : decode cX12_entryIs 2 = .ok (.iconst 4, 1) := by decide +kernel
theorem dX12_entryIs_3 : decode cX12_entryIs 3 = .ok (.invokevirtual 93, 3) := by decide +kernel
theorem dX12_entryIs_6 : decode cX12_entryIs 6 = .ok (.ifCond .eq 13, 3) := by decide +kernel
theorem dX12_entryIs_9 : decode cX12_entryIs 9 = .ok (.iload_n 2, 1) := by decide +kernel
theorem dX12_entryIs_10 : decode cX12_entryIs 10 = .ok (.iconst 0, 1) := by decide +kernel
theorem dX12_entryIs_11 : decode cX12_entryIs 11 = .ok (.bipush 7, 2) := by decide +kernel
theorem dX12_entryIs_13 : decode cX12_entryIs 13 = .ok (.invokestatic 78, 3) := by decide +kernel
theorem dX12_entryIs_16 : decode cX12_entryIs 16 = .ok (.ifCond .ne 10, 3) := by decide +kernel
theorem dX12_entryIs_19 : decode cX12_entryIs 19 = .ok (.aload_n 0, 1) := by decide +kernel
theorem dX12_entryIs_20 : decode cX12_entryIs 20 = .ok (.ldc 83, 2) := by decide +kernel
theorem dX12_entryIs_22 : decode cX12_entryIs 22 = .ok (.invokevirtual 84, 3) := by decide +kernel
theorem dX12_entryIs_25 : decode cX12_entryIs 25 = .ok (.ireturn, 1) := by decide +kernel
theorem dX12_entryIs_26 : decode cX12_entryIs 26 = .ok (.iload_n 2, 1) := by decide +kernel
theorem dX12_entryIs_27 : decode cX12_entryIs 27 = .ok (.iconst 5, 1) := by decide +kernel
theorem dX12_entryIs_28 : decode cX12_entryIs 28 = .ok (.if_icmp .ge 12, 3) := by decide +kernel
theorem dX12_entryIs_31 : decode cX12_entryIs 31 = .ok (.aload_n 0, 1) := by decide +kernel
theorem dX12_entryIs_32 : decode cX12_entryIs 32 = .ok (.iload_n 1, 1) := by decide +kernel
theorem dX12_entryIs_33 : decode cX12_entryIs 33 = .ok (.iload_n 2, 1) := by decide +kernel
theorem dX12_entryIs_34 : decode cX12_entryIs 34 = .ok (.invokevirtual 292, 3) := by decide +kernel
theorem dX12_entryIs_37 : decode cX12_entryIs 37 = .ok (.goto 43, 3) := by decide +kernel
theorem dX12_entryIs_40 : decode cX12_entryIs 40 = .ok (.iload_n 2, 1) := by decide +kernel
theorem dX12_entryIs_41 : decode cX12_entryIs 41 = .ok (.iconst 5, 1) := by decide +kernel
theorem dX12_entryIs_42 : decode cX12_entryIs 42 = .ok (.if_icmp .ne 11, 3) := by decide +kernel
theorem dX12_entryIs_45 : decode cX12_entryIs 45 = .ok (.aload_n 0, 1) := by decide +kernel
theorem dX12_entryIs_46 : decode cX12_entryIs 46 = .ok (.iload_n 1, 1) := by decide +kernel
theorem dX12_entryIs_47 : decode cX12_entryIs 47 = .ok (.invokevirtual 295, 3) := by decide +kernel
theorem dX12_entryIs_50 : decode cX12_entryIs 50 = .ok (.goto 30, 3) := by decide +kernel
theorem dX12_entryIs_53 : decode cX12_entryIs 53 = .ok (.iload_n 2, 1) := by decide +kernel
theorem dX12_entryIs_54 : decode cX12_entryIs 54 = .ok (.bipush 6, 2) := by decide +kernel
theorem dX12_entryIs_56 : decode cX12_entryIs 56 = .ok (.if_icmp .ne 19, 3) := by decide +kernel
theorem dX12_entryIs_59 : decode cX12_entryIs 59 = .ok (.aload_n 0, 1) := by decide +kernel
theorem dX12_entryIs_60 : decode cX12_entryIs 60 = .ok (.iload_n 1, 1) := by decide +kernel
theorem dX12_entryIs_61 : decode cX12_entryIs 61 = .ok (.invokevirtual 298, 3) := by decide +kernel
theorem dX12_entryIs_64 : decode cX12_entryIs 64 = .ok (.ifCond .eq 7, 3) := by decide +kernel
theorem dX12_entryIs_67 : decode cX12_entryIs 67 = .ok (.iconst 1, 1) := by decide +kernel
theorem dX12_entryIs_68 : decode cX12_entryIs 68 = .ok (.goto 12, 3) := by decide +kernel
theorem dX12_entryIs_71 : decode cX12_entryIs 71 = .ok (.iconst 0, 1) := by decide +kernel
theorem dX12_entryIs_72 : decode cX12_entryIs 72 = .ok (.goto 8, 3) := by decide +kernel
theorem dX12_entryIs_75 : decode cX12_entryIs 75 = .ok (.aload_n 0, 1) := by decide +kernel
theorem dX12_entryIs_76 : decode cX12_entryIs 76 = .ok (.iload_n 1, 1) := by decide +kernel
theorem dX12_entryIs_77 : decode cX12_entryIs 77 = .ok (.invokevirtual 301, 3) := by decide +kernel
theorem dX12_entryIs_80 : decode cX12_entryIs 80 = .ok (.ireturn, 1) := by decide +kernel
theorem dX12_above_0 : decode cX12_above 0 = .ok (.iload_n 0, 1) := by decide +kernel
theorem dX12_above_1 : decode cX12_above 1 = .ok (.ifCond .ne 7, 3) := by decide +kernel
theorem dX12_above_4 : decode cX12_above 4 = .ok (.iconst (-1), 1) := by decide +kernel
theorem dX12_above_5 : decode cX12_above 5 = .ok (.goto 22, 3) := by decide +kernel
theorem dX12_above_8 : decode cX12_above 8 = .ok (.iload_n 0, 1) := by decide +kernel
theorem dX12_above_9 : decode cX12_above 9 = .ok (.iconst 2, 1) := by decide +kernel
theorem dX12_above_10 : decode cX12_above 10 = .ok (.if_icmp .ne 7, 3) := by decide +kernel
theorem dX12_above_13 : decode cX12_above 13 = .ok (.iconst 1, 1) := by decide +kernel
theorem dX12_above_14 : decode cX12_above 14 = .ok (.goto 13, 3) := by decide +kernel
theorem dX12_above_17 : decode cX12_above 17 = .ok (.iload_n 0, 1) := by decide +kernel
theorem dX12_above_18 : decode cX12_above 18 = .ok (.iconst 4, 1) := by decide +kernel
theorem dX12_above_19 : decode cX12_above 19 = .ok (.if_icmp .ne 7, 3) := by decide +kernel
theorem dX12_above_22 : decode cX12_above 22 = .ok (.iconst 3, 1) := by decide +kernel
theorem dX12_above_23 : decode cX12_above 23 = .ok (.goto 4, 3) := by decide +kernel
theorem dX12_above_26 : decode cX12_above 26 = .ok (.iconst 0, 1) := by decide +kernel
theorem dX12_above_27 : decode cX12_above 27 = .ok (.ireturn, 1) := by decide +kernel
theorem dX12_as_0 : decode cX12_as 0 = .ok (.aload_n 0, 1) := by decide +kernel
theorem dX12_as_1 : decode cX12_as 1 = .ok (.iload_n 1, 1) := by decide +kernel
theorem dX12_as_2 : decode cX12_as 2 = .ok (.iconst 4, 1) := by decide +kernel
theorem dX12_as_3 : decode cX12_as 3 = .ok (.invokevirtual 93, 3) := by decide +kernel
theorem dX12_as_6 : decode cX12_as 6 = .ok (.ifCond .eq 12, 3) := by decide +kernel
theorem dX12_as_9 : decode cX12_as 9 = .ok (.iload_n 2, 1) := by decide +kernel
theorem dX12_as_10 : decode cX12_as 10 = .ok (.iconst 0, 1) := by decide +kernel
theorem dX12_as_11 : decode cX12_as 11 = .ok (.iconst 4, 1) := by decide +kernel
theorem dX12_as_12 : decode cX12_as 12 = .ok (.invokestatic 78, 3) := by decide +kernel
theorem dX12_as_15 : decode cX12_as 15 = .ok (.ifCond .ne 10, 3) := by decide +kernel
theorem dX12_as_18 : decode cX12_as 18 = .ok (.aload_n 0, 1) := by decide +kernel
theorem dX12_as_19 : decode cX12_as 19 = .ok (.ldc 83, 2) := by decide +kernel
theorem dX12_as_21 : decode cX12_as 21 = .ok (.invokevirtual 84, 3) := by decide +kernel
theorem dX12_as_24 : decode cX12_as 24 = .ok (.ireturn, 1) := by decide +kernel
theorem dX12_as_25 : decode cX12_as 25 = .ok (.aload_n 0, 1) := by decide +kernel
theorem dX12_as_26 : decode cX12_as 26 = .ok (.iload_n 1, 1) := by decide +kernel
theorem dX12_as_27 : decode cX12_as 27 = .ok (.invokevirtual 301, 3) := by decide +kernel
theorem dX12_as_30 : decode cX12_as 30 = .ok (.istore_n 3, 1) := by decide +kernel
theorem dX12_as_31 : decode cX12_as 31 = .ok (.iload_n 3, 1) := by decide +kernel
theorem dX12_as_32 : decode cX12_as 32 = .ok (.ifCond .lt 16, 3) := by decide +kernel
theorem dX12_as_35 : decode cX12_as 35 = .ok (.iload_n 3, 1) := by decide +kernel
theorem dX12_as_36 : decode cX12_as 36 = .ok (.iload_n 2, 1) := by decide +kernel
theorem dX12_as_37 : decode cX12_as 37 = .ok (.if_icmp .eq 11, 3) := by decide +kernel
theorem dX12_as_40 : decode cX12_as 40 = .ok (.iload_n 3, 1) := by decide +kernel
theorem dX12_as_41 : decode cX12_as 41 = .ok (.invokestatic 304, 3) := by decide +kernel
theorem dX12_as_44 : decode cX12_as 44 = .ok (.istore_n 3, 1) := by decide +kernel
theorem dX12_as_45 : decode cX12_as 45 = .ok (.goto (-14), 3) := by decide +kernel
theorem dX12_as_48 : decode cX12_as 48 = .ok (.iload_n 3, 1) := by decide +kernel
theorem dX12_as_49 : decode cX12_as 49 = .ok (.ifCond .ge 12, 3) := by decide +kernel
theorem dX12_as_52 : decode cX12_as 52 = .ok (.aload_n 0, 1) := by decide +kernel
theorem dX12_as_53 : decode cX12_as 53 = .ok (.ldc 104, 2) := by decide +kernel
theorem dX12_as_55 : decode cX12_as 55 = .ok (.invokevirtual 84, 3) := by decide +kernel
theorem dX12_as_58 : decode cX12_as 58 = .ok (.goto 9, 3) := by decide +kernel
theorem dX12_as_61 : decode cX12_as 61 = .ok (.aload_n 0, 1) := by decide +kernel
theorem dX12_as_62 : decode cX12_as 62 = .ok (.iload_n 1, 1) := by decide +kernel
theorem dX12_as_63 : decode cX12_as 63 = .ok (.iconst 2, 1) := by decide +kernel
theorem dX12_as_64 : decode cX12_as 64 = .ok (.invokevirtual 292, 3) := by decide +kernel
theorem dX12_as_67 : decode cX12_as 67 = .ok (.ireturn, 1) := by decide +kernel
theorem dX12_late_0 : decode cX12_late 0 = .ok (.aload_n 0, 1) := by decide +kernel
theorem dX12_late_1 : decode cX12_late 1 = .ok (.iload_n 1, 1) := by decide +kernel
theorem dX12_late_2 : decode cX12_late 2 = .ok (.iconst 4, 1) := by decide +kernel
theorem dX12_late_3 : decode cX12_late 3 = .ok (.invokevirtual 93, 3) := by decide +kernel
theorem dX12_late_6 : decode cX12_late 6 = .ok (.ifCond .eq 14, 3) := by decide +kernel
theorem dX12_late_9 : decode cX12_late 9 = .ok (.iload_n 2, 1) := by decide +kernel
theorem dX12_late_10 : decode cX12_late 10 = .ok (.iconst 0, 1) := by decide +kernel
theorem dX12_late_11 : decode cX12_late 11 = .ok (.sipush 999, 3) := by decide +kernel
theorem dX12_late_14 : decode cX12_late 14 = .ok (.invokestatic 78, 3) := by decide +kernel
theorem dX12_late_17 : decode cX12_late 17 = .ok (.ifCond .ne 10, 3) := by decide +kernel
theorem dX12_late_20 : decode cX12_late 20 = .ok (.aload_n 0, 1) := by decide +kernel
theorem dX12_late_21 : decode cX12_late 21 = .ok (.ldc 83, 2) := by decide +kernel
theorem dX12_late_23 : decode cX12_late 23 = .ok (.invokevirtual 84, 3) := by decide +kernel
theorem dX12_late_26 : decode cX12_late 26 = .ok (.ireturn, 1) := by decide +kernel
theorem dX12_late_27 : decode cX12_late 27 = .ok (.iconst 0, 1) := by decide +kernel
theorem dX12_late_28 : decode cX12_late 28 = .ok (.iload_n 2, 1) := by decide +kernel
theorem dX12_late_29 : decode cX12_late 29 = .ok (.aload_n 0, 1) := by decide +kernel
theorem dX12_late_30 : decode cX12_late 30 = .ok (.iload_n 1, 1) := by decide +kernel
theorem dX12_late_31 : decode cX12_late 31 = .ok (.iconst 4, 1) := by decide +kernel
theorem dX12_late_32 : decode cX12_late 32 = .ok (.invokevirtual 292, 3) := by decide +kernel
theorem dX12_late_35 : decode cX12_late 35 = .ok (.isub, 1) := by decide +kernel
theorem dX12_late_36 : decode cX12_late 36 = .ok (.bipush 30, 2) := by decide +kernel
theorem dX12_late_38 : decode cX12_late 38 = .ok (.isub, 1) := by decide +kernel
theorem dX12_late_39 : decode cX12_late 39 = .ok (.invokestatic 136, 3) := by decide +kernel
theorem dX12_late_42 : decode cX12_late 42 = .ok (.i2l, 1) := by decide +kernel
theorem dX12_late_43 : decode cX12_late 43 = .ok (.lstore_n 3, 1) := by decide +kernel
theorem dX12_late_44 : decode cX12_late 44 = .ok (.ldc2_w 307, 3) := by decide +kernel
theorem dX12_late_47 : decode cX12_late 47 = .ok (.lload_n 3, 1) := by decide +kernel
theorem dX12_late_48 : decode cX12_late 48 = .ok (.aload_n 0, 1) := by decide +kernel
theorem dX12_late_49 : decode cX12_late 49 = .ok (.getfield 9, 3) := by decide +kernel
theorem dX12_late_52 : decode cX12_late 52 = .ok (.bipush 14, 2) := by decide +kernel
theorem dX12_late_54 : decode cX12_late 54 = .ok (.iaload, 1) := by decide +kernel
theorem dX12_late_55 : decode cX12_late 55 = .ok (.i2l, 1) := by decide +kernel
theorem dX12_late_56 : decode cX12_late 56 = .ok (.lmul, 1) := by decide +kernel
theorem dX12_late_57 : decode cX12_late 57 = .ok (.aload_n 0, 1) := by decide +kernel
theorem dX12_late_58 : decode cX12_late 58 = .ok (.iload_n 1, 1) := by decide +kernel
theorem dX12_late_59 : decode cX12_late 59 = .ok (.iconst 2, 1) := by decide +kernel
theorem dX12_late_60 : decode cX12_late 60 = .ok (.invokevirtual 292, 3) := by decide +kernel
theorem dX12_late_63 : decode cX12_late 63 = .ok (.i2l, 1) := by decide +kernel
theorem dX12_late_64 : decode cX12_late 64 = .ok (.lmul, 1) := by decide +kernel
theorem dX12_late_65 : decode cX12_late 65 = .ok (.ldc2_w 309, 3) := by decide +kernel
theorem dX12_late_68 : decode cX12_late 68 = .ok (.ldiv, 1) := by decide +kernel
theorem dX12_late_69 : decode cX12_late 69 = .ok (.invokestatic 311, 3) := by decide +kernel
theorem dX12_late_72 : decode cX12_late 72 = .ok (.l2i, 1) := by decide +kernel
theorem dX12_late_73 : decode cX12_late 73 = .ok (.ireturn, 1) := by decide +kernel
theorem dX12_insurerOf_0 : decode cX12_insurerOf 0 = .ok (.iload_n 2, 1) := by decide +kernel
theorem dX12_insurerOf_1 : decode cX12_insurerOf 1 = .ok (.ifCond .eq 12, 3) := by decide +kernel
theorem dX12_insurerOf_4 : decode cX12_insurerOf 4 = .ok (.aload_n 0, 1) := by decide +kernel
theorem dX12_insurerOf_5 : decode cX12_insurerOf 5 = .ok (.iload_n 1, 1) := by decide +kernel
theorem dX12_insurerOf_6 : decode cX12_insurerOf 6 = .ok (.iconst 1, 1) := by decide +kernel
theorem dX12_insurerOf_7 : decode cX12_insurerOf 7 = .ok (.invokevirtual 292, 3) := by decide +kernel
theorem dX12_insurerOf_10 : decode cX12_insurerOf 10 = .ok (.goto 11, 3) := by decide +kernel
theorem dX12_insurerOf_13 : decode cX12_insurerOf 13 = .ok (.iconst 1, 1) := by decide +kernel
theorem dX12_insurerOf_14 : decode cX12_insurerOf 14 = .ok (.aload_n 0, 1) := by decide +kernel
theorem dX12_insurerOf_15 : decode cX12_insurerOf 15 = .ok (.iload_n 1, 1) := by decide +kernel
theorem dX12_insurerOf_16 : decode cX12_insurerOf 16 = .ok (.iconst 1, 1) := by decide +kernel
theorem dX12_insurerOf_17 : decode cX12_insurerOf 17 = .ok (.invokevirtual 292, 3) := by decide +kernel
theorem dX12_insurerOf_20 : decode cX12_insurerOf 20 = .ok (.isub, 1) := by decide +kernel
theorem dX12_insurerOf_21 : decode cX12_insurerOf 21 = .ok (.istore_n 3, 1) := by decide +kernel
theorem dX12_insurerOf_22 : decode cX12_insurerOf 22 = .ok (.aload_n 0, 1) := by decide +kernel
theorem dX12_insurerOf_23 : decode cX12_insurerOf 23 = .ok (.aload_n 0, 1) := by decide +kernel
theorem dX12_insurerOf_24 : decode cX12_insurerOf 24 = .ok (.aload_n 0, 1) := by decide +kernel
theorem dX12_insurerOf_25 : decode cX12_insurerOf 25 = .ok (.iload_n 1, 1) := by decide +kernel
theorem dX12_insurerOf_26 : decode cX12_insurerOf 26 = .ok (.iconst 0, 1) := by decide +kernel
theorem dX12_insurerOf_27 : decode cX12_insurerOf 27 = .ok (.invokevirtual 292, 3) := by decide +kernel
theorem dX12_insurerOf_30 : decode cX12_insurerOf 30 = .ok (.iload_n 3, 1) := by decide +kernel
theorem dX12_insurerOf_31 : decode cX12_insurerOf 31 = .ok (.invokevirtual 116, 3) := by decide +kernel
theorem dX12_insurerOf_34 : decode cX12_insurerOf 34 = .ok (.iconst 0, 1) := by decide +kernel
theorem dX12_insurerOf_35 : decode cX12_insurerOf 35 = .ok (.invokevirtual 89, 3) := by decide +kernel
theorem dX12_insurerOf_38 : decode cX12_insurerOf 38 = .ok (.ireturn, 1) := by decide +kernel
theorem dX12_findPositions_0 : decode cX12_findPositions 0 = .ok (.iconst 0, 1) := by decide +kernel
theorem dX12_findPositions_1 : decode cX12_findPositions 1 = .ok (.istore_n 2, 1) := by decide +kernel
theorem dX12_findPositions_2 : decode cX12_findPositions 2 = .ok (.iload_n 2, 1) := by decide +kernel
theorem dX12_findPositions_3 : decode cX12_findPositions 3 = .ok (.bipush 11, 2) := by decide +kernel
theorem dX12_findPositions_5 : decode cX12_findPositions 5 = .ok (.if_icmp .ge 16, 3) := by decide +kernel
theorem dX12_findPositions_8 : decode cX12_findPositions 8 = .ok (.aload_n 0, 1) := by decide +kernel
theorem dX12_findPositions_9 : decode cX12_findPositions 9 = .ok (.getfield 40, 3) := by decide +kernel
theorem dX12_findPositions_12 : decode cX12_findPositions 12 = .ok (.iload_n 2, 1) := by decide +kernel
theorem dX12_findPositions_13 : decode cX12_findPositions 13 = .ok (.lconst 0, 1) := by decide +kernel
theorem dX12_findPositions_14 : decode cX12_findPositions 14 = .ok (.lastore, 1) := by decide +kernel
theorem dX12_findPositions_15 : decode cX12_findPositions 15 = .ok (.iinc 2 1, 3) := by decide +kernel
theorem dX12_findPositions_18 : decode cX12_findPositions 18 = .ok (.goto (-16), 3) := by decide +kernel
theorem dX12_findPositions_21 : decode cX12_findPositions 21 = .ok (.iconst 0, 1) := by decide +kernel
theorem dX12_findPositions_22 : decode cX12_findPositions 22 = .ok (.istore_n 2, 1) := by decide +kernel
theorem dX12_findPositions_23 : decode cX12_findPositions 23 = .ok (.iload_n 2, 1) := by decide +kernel
theorem dX12_findPositions_24 : decode cX12_findPositions 24 = .ok (.aload_n 0, 1) := by decide +kernel
theorem dX12_findPositions_25 : decode cX12_findPositions 25 = .ok (.getfield 9, 3) := by decide +kernel
theorem dX12_findPositions_28 : decode cX12_findPositions 28 = .ok (.iconst 4, 1) := by decide +kernel
theorem dX12_findPositions_29 : decode cX12_findPositions 29 = .ok (.iaload, 1) := by decide +kernel
theorem dX12_findPositions_30 : decode cX12_findPositions 30 = .ok (.if_icmp .ge 78, 3) := by decide +kernel
theorem dX12_findPositions_33 : decode cX12_findPositions 33 = .ok (.aload_n 0, 1) := by decide +kernel
theorem dX12_findPositions_34 : decode cX12_findPositions 34 = .ok (.iload_n 2, 1) := by decide +kernel
theorem dX12_findPositions_35 : decode cX12_findPositions 35 = .ok (.iconst 3, 1) := by decide +kernel
theorem dX12_findPositions_36 : decode cX12_findPositions 36 = .ok (.invokevirtual 292, 3) := by decide +kernel
theorem dX12_findPositions_39 : decode cX12_findPositions 39 = .ok (.iload_n 1, 1) := by decide +kernel
theorem dX12_findPositions_40 : decode cX12_findPositions 40 = .ok (.if_icmp .ne 62, 3) := by decide +kernel
theorem dX12_findPositions_43 : decode cX12_findPositions 43 = .ok (.aload_n 0, 1) := by decide +kernel
theorem dX12_findPositions_44 : decode cX12_findPositions 44 = .ok (.iload_n 2, 1) := by decide +kernel
theorem dX12_findPositions_45 : decode cX12_findPositions 45 = .ok (.invokevirtual 295, 3) := by decide +kernel
theorem dX12_findPositions_48 : decode cX12_findPositions 48 = .ok (.iload_n 2, 1) := by decide +kernel
theorem dX12_findPositions_49 : decode cX12_findPositions 49 = .ok (.if_icmp .ne 53, 3) := by decide +kernel
theorem dX12_findPositions_52 : decode cX12_findPositions 52 = .ok (.aload_n 0, 1) := by decide +kernel
theorem dX12_findPositions_53 : decode cX12_findPositions 53 = .ok (.iload_n 2, 1) := by decide +kernel
theorem dX12_findPositions_54 : decode cX12_findPositions 54 = .ok (.invokevirtual 298, 3) := by decide +kernel
theorem dX12_findPositions_57 : decode cX12_findPositions 57 = .ok (.ifCond .ne 45, 3) := by decide +kernel
theorem dX12_findPositions_60 : decode cX12_findPositions 60 = .ok (.aload_n 0, 1) := by decide +kernel
theorem dX12_findPositions_61 : decode cX12_findPositions 61 = .ok (.getfield 40, 3) := by decide +kernel
theorem dX12_findPositions_64 : decode cX12_findPositions 64 = .ok (.aload_n 0, 1) := by decide +kernel
theorem dX12_findPositions_65 : decode cX12_findPositions 65 = .ok (.iload_n 2, 1) := by decide +kernel
theorem dX12_findPositions_66 : decode cX12_findPositions 66 = .ok (.iconst 1, 1) := by decide +kernel
theorem dX12_findPositions_67 : decode cX12_findPositions 67 = .ok (.invokevirtual 314, 3) := by decide +kernel
theorem dX12_findPositions_70 : decode cX12_findPositions 70 = .ok (.dup2, 1) := by decide +kernel
theorem dX12_findPositions_71 : decode cX12_findPositions 71 = .ok (.laload, 1) := by decide +kernel
theorem dX12_findPositions_72 : decode cX12_findPositions 72 = .ok (.aload_n 0, 1) := by decide +kernel
theorem dX12_findPositions_73 : decode cX12_findPositions 73 = .ok (.iload_n 2, 1) := by decide +kernel
theorem dX12_findPositions_74 : decode cX12_findPositions 74 = .ok (.iconst 2, 1) := by decide +kernel
theorem dX12_findPositions_75 : decode cX12_findPositions 75 = .ok (.invokevirtual 292, 3) := by decide +kernel
theorem dX12_findPositions_78 : decode cX12_findPositions 78 = .ok (.i2l, 1) := by decide +kernel
theorem dX12_findPositions_79 : decode cX12_findPositions 79 = .ok (.ladd, 1) := by decide +kernel
theorem dX12_findPositions_80 : decode cX12_findPositions 80 = .ok (.lastore, 1) := by decide +kernel
theorem dX12_findPositions_81 : decode cX12_findPositions 81 = .ok (.aload_n 0, 1) := by decide +kernel
theorem dX12_findPositions_82 : decode cX12_findPositions 82 = .ok (.getfield 40, 3) := by decide +kernel
theorem dX12_findPositions_85 : decode cX12_findPositions 85 = .ok (.aload_n 0, 1) := by decide +kernel
theorem dX12_findPositions_86 : decode cX12_findPositions 86 = .ok (.iload_n 2, 1) := by decide +kernel
theorem dX12_findPositions_87 : decode cX12_findPositions 87 = .ok (.iconst 0, 1) := by decide +kernel
theorem dX12_findPositions_88 : decode cX12_findPositions 88 = .ok (.invokevirtual 314, 3) := by decide +kernel
theorem dX12_findPositions_91 : decode cX12_findPositions 91 = .ok (.dup2, 1) := by decide +kernel
theorem dX12_findPositions_92 : decode cX12_findPositions 92 = .ok (.laload, 1) := by decide +kernel
theorem dX12_findPositions_93 : decode cX12_findPositions 93 = .ok (.aload_n 0, 1) := by decide +kernel
theorem dX12_findPositions_94 : decode cX12_findPositions 94 = .ok (.iload_n 2, 1) := by decide +kernel
theorem dX12_findPositions_95 : decode cX12_findPositions 95 = .ok (.iconst 2, 1) := by decide +kernel
theorem dX12_findPositions_96 : decode cX12_findPositions 96 = .ok (.invokevirtual 292, 3) := by decide +kernel
theorem dX12_findPositions_99 : decode cX12_findPositions 99 = .ok (.i2l, 1) := by decide +kernel
theorem dX12_findPositions_100 : decode cX12_findPositions 100 = .ok (.lsub, 1) := by decide +kernel
theorem dX12_findPositions_101 : decode cX12_findPositions 101 = .ok (.lastore, 1) := by decide +kernel
theorem dX12_findPositions_102 : decode cX12_findPositions 102 = .ok (.iinc 2 1, 3) := by decide +kernel
theorem dX12_findPositions_105 : decode cX12_findPositions 105 = .ok (.goto (-82), 3) := by decide +kernel
theorem dX12_findPositions_108 : decode cX12_findPositions 108 = .ok (.return_, 1) := by decide +kernel
theorem dX12_isMonth_0 : decode cX12_isMonth 0 = .ok (.iload_n 0, 1) := by decide +kernel
theorem dX12_isMonth_1 : decode cX12_isMonth 1 = .ok (.iconst 0, 1) := by decide +kernel
theorem dX12_isMonth_2 : decode cX12_isMonth 2 = .ok (.bipush 33, 2) := by decide +kernel
theorem dX12_isMonth_4 : decode cX12_isMonth 4 = .ok (.invokestatic 78, 3) := by decide +kernel
theorem dX12_isMonth_7 : decode cX12_isMonth 7 = .ok (.ireturn, 1) := by decide +kernel
theorem dX12_position_0 : decode cX12_position 0 = .ok (.iload_n 1, 1) := by decide +kernel
theorem dX12_position_1 : decode cX12_position 1 = .ok (.iconst 0, 1) := by decide +kernel
theorem dX12_position_2 : decode cX12_position 2 = .ok (.bipush 10, 2) := by decide +kernel
theorem dX12_position_4 : decode cX12_position 4 = .ok (.invokestatic 78, 3) := by decide +kernel
theorem dX12_position_7 : decode cX12_position 7 = .ok (.ifCond .eq 10, 3) := by decide +kernel
theorem dX12_position_10 : decode cX12_position 10 = .ok (.iload_n 2, 1) := by decide +kernel
theorem dX12_position_11 : decode cX12_position 11 = .ok (.invokestatic 317, 3) := by decide +kernel
theorem dX12_position_14 : decode cX12_position 14 = .ok (.ifCond .ne 10, 3) := by decide +kernel
theorem dX12_position_17 : decode cX12_position 17 = .ok (.aload_n 0, 1) := by decide +kernel
theorem dX12_position_18 : decode cX12_position 18 = .ok (.ldc 83, 2) := by decide +kernel
theorem dX12_position_20 : decode cX12_position 20 = .ok (.invokevirtual 84, 3) := by decide +kernel
theorem dX12_position_23 : decode cX12_position 23 = .ok (.ireturn, 1) := by decide +kernel
theorem dX12_position_24 : decode cX12_position 24 = .ok (.aload_n 0, 1) := by decide +kernel
theorem dX12_position_25 : decode cX12_position 25 = .ok (.iload_n 2, 1) := by decide +kernel
theorem dX12_position_26 : decode cX12_position 26 = .ok (.invokevirtual 320, 3) := by decide +kernel
theorem dX12_position_29 : decode cX12_position 29 = .ok (.aload_n 0, 1) := by decide +kernel
theorem dX12_position_30 : decode cX12_position 30 = .ok (.getfield 40, 3) := by decide +kernel
theorem dX12_position_33 : decode cX12_position 33 = .ok (.iload_n 1, 1) := by decide +kernel
theorem dX12_position_34 : decode cX12_position 34 = .ok (.laload, 1) := by decide +kernel
theorem dX12_position_35 : decode cX12_position 35 = .ok (.l2i, 1) := by decide +kernel
theorem dX12_position_36 : decode cX12_position 36 = .ok (.ireturn, 1) := by decide +kernel
theorem dX12_held_0 : decode cX12_held 0 = .ok (.iload_n 1, 1) := by decide +kernel
theorem dX12_held_1 : decode cX12_held 1 = .ok (.invokestatic 317, 3) := by decide +kernel
theorem dX12_held_4 : decode cX12_held 4 = .ok (.ifCond .ne 10, 3) := by decide +kernel
theorem dX12_held_7 : decode cX12_held 7 = .ok (.aload_n 0, 1) := by decide +kernel
theorem dX12_held_8 : decode cX12_held 8 = .ok (.ldc 83, 2) := by decide +kernel
theorem dX12_held_10 : decode cX12_held 10 = .ok (.invokevirtual 84, 3) := by decide +kernel
theorem dX12_held_13 : decode cX12_held 13 = .ok (.ireturn, 1) := by decide +kernel
theorem dX12_held_14 : decode cX12_held 14 = .ok (.iconst 0, 1) := by decide +kernel
theorem dX12_held_15 : decode cX12_held 15 = .ok (.istore_n 2, 1) := by decide +kernel
theorem dX12_held_16 : decode cX12_held 16 = .ok (.iconst 0, 1) := by decide +kernel
theorem dX12_held_17 : decode cX12_held 17 = .ok (.istore_n 3, 1) := by decide +kernel
theorem dX12_held_18 : decode cX12_held 18 = .ok (.iload_n 3, 1) := by decide +kernel
theorem dX12_held_19 : decode cX12_held 19 = .ok (.aload_n 0, 1) := by decide +kernel
theorem dX12_held_20 : decode cX12_held 20 = .ok (.getfield 9, 3) := by decide +kernel
theorem dX12_held_23 : decode cX12_held 23 = .ok (.iconst 4, 1) := by decide +kernel
theorem dX12_held_24 : decode cX12_held 24 = .ok (.iaload, 1) := by decide +kernel
theorem dX12_held_25 : decode cX12_held 25 = .ok (.if_icmp .ge 49, 3) := by decide +kernel
theorem dX12_held_28 : decode cX12_held 28 = .ok (.iload_n 2, 1) := by decide +kernel
theorem dX12_held_29 : decode cX12_held 29 = .ok (.aload_n 0, 1) := by decide +kernel
theorem dX12_held_30 : decode cX12_held 30 = .ok (.iload_n 3, 1) := by decide +kernel
theorem dX12_held_31 : decode cX12_held 31 = .ok (.iconst 3, 1) := by decide +kernel
theorem dX12_held_32 : decode cX12_held 32 = .ok (.invokevirtual 292, 3) := by decide +kernel
theorem dX12_held_35 : decode cX12_held 35 = .ok (.iload_n 1, 1) := by decide +kernel
theorem dX12_held_36 : decode cX12_held 36 = .ok (.if_icmp .ne 29, 3) := by decide +kernel
theorem dX12_held_39 : decode cX12_held 39 = .ok (.aload_n 0, 1) := by decide +kernel
theorem dX12_held_40 : decode cX12_held 40 = .ok (.iload_n 3, 1) := by decide +kernel
theorem dX12_held_41 : decode cX12_held 41 = .ok (.invokevirtual 295, 3) := by decide +kernel
theorem dX12_held_44 : decode cX12_held 44 = .ok (.iload_n 3, 1) := by decide +kernel
theorem dX12_held_45 : decode cX12_held 45 = .ok (.if_icmp .ne 20, 3) := by decide +kernel
theorem dX12_held_48 : decode cX12_held 48 = .ok (.aload_n 0, 1) := by decide +kernel
theorem dX12_held_49 : decode cX12_held 49 = .ok (.iload_n 3, 1) := by decide +kernel
theorem dX12_held_50 : decode cX12_held 50 = .ok (.invokevirtual 298, 3) := by decide +kernel
theorem dX12_held_53 : decode cX12_held 53 = .ok (.ifCond .eq 12, 3) := by decide +kernel
theorem dX12_held_56 : decode cX12_held 56 = .ok (.aload_n 0, 1) := by decide +kernel
theorem dX12_held_57 : decode cX12_held 57 = .ok (.iload_n 3, 1) := by decide +kernel
theorem dX12_held_58 : decode cX12_held 58 = .ok (.iconst 2, 1) := by decide +kernel
theorem dX12_held_59 : decode cX12_held 59 = .ok (.invokevirtual 292, 3) := by decide +kernel
theorem dX12_held_62 : decode cX12_held 62 = .ok (.goto 4, 3) := by decide +kernel
theorem dX12_held_65 : decode cX12_held 65 = .ok (.iconst 0, 1) := by decide +kernel
theorem dX12_held_66 : decode cX12_held 66 = .ok (.iadd, 1) := by decide +kernel
theorem dX12_held_67 : decode cX12_held 67 = .ok (.istore_n 2, 1) := by decide +kernel
theorem dX12_held_68 : decode cX12_held 68 = .ok (.iinc 3 1, 3) := by decide +kernel
theorem dX12_held_71 : decode cX12_held 71 = .ok (.goto (-53), 3) := by decide +kernel
theorem dX12_held_74 : decode cX12_held 74 = .ok (.iload_n 2, 1) := by decide +kernel
theorem dX12_held_75 : decode cX12_held 75 = .ok (.ireturn, 1) := by decide +kernel
theorem dX12_payments_0 : decode cX12_payments 0 = .ok (.iload_n 1, 1) := by decide +kernel
theorem dX12_payments_1 : decode cX12_payments 1 = .ok (.invokestatic 317, 3) := by decide +kernel
theorem dX12_payments_4 : decode cX12_payments 4 = .ok (.ifCond .ne 10, 3) := by decide +kernel
theorem dX12_payments_7 : decode cX12_payments 7 = .ok (.aload_n 0, 1) := by decide +kernel
theorem dX12_payments_8 : decode cX12_payments 8 = .ok (.ldc 83, 2) := by decide +kernel
theorem dX12_payments_10 : decode cX12_payments 10 = .ok (.invokevirtual 84, 3) := by decide +kernel
theorem dX12_payments_13 : decode cX12_payments 13 = .ok (.ireturn, 1) := by decide +kernel
theorem dX12_payments_14 : decode cX12_payments 14 = .ok (.aload_n 0, 1) := by decide +kernel
theorem dX12_payments_15 : decode cX12_payments 15 = .ok (.iload_n 1, 1) := by decide +kernel
theorem dX12_payments_16 : decode cX12_payments 16 = .ok (.invokevirtual 320, 3) := by decide +kernel
theorem dX12_payments_19 : decode cX12_payments 19 = .ok (.iconst 0, 1) := by decide +kernel
theorem dX12_payments_20 : decode cX12_payments 20 = .ok (.istore_n 2, 1) := by decide +kernel
theorem dX12_payments_21 : decode cX12_payments 21 = .ok (.iconst 0, 1) := by decide +kernel
theorem dX12_payments_22 : decode cX12_payments 22 = .ok (.istore_n 3, 1) := by decide +kernel
theorem dX12_payments_23 : decode cX12_payments 23 = .ok (.iload_n 3, 1) := by decide +kernel
theorem dX12_payments_24 : decode cX12_payments 24 = .ok (.bipush 11, 2) := by decide +kernel
theorem dX12_payments_26 : decode cX12_payments 26 = .ok (.if_icmp .ge 30, 3) := by decide +kernel
theorem dX12_payments_29 : decode cX12_payments 29 = .ok (.iload_n 2, 1) := by decide +kernel
theorem dX12_payments_30 : decode cX12_payments 30 = .ok (.aload_n 0, 1) := by decide +kernel
theorem dX12_payments_31 : decode cX12_payments 31 = .ok (.getfield 40, 3) := by decide +kernel
theorem dX12_payments_34 : decode cX12_payments 34 = .ok (.iload_n 3, 1) := by decide +kernel
theorem dX12_payments_35 : decode cX12_payments 35 = .ok (.laload, 1) := by decide +kernel
theorem dX12_payments_36 : decode cX12_payments 36 = .ok (.lconst 0, 1) := by decide +kernel
theorem dX12_payments_37 : decode cX12_payments 37 = .ok (.lcmp, 1) := by decide +kernel
theorem dX12_payments_38 : decode cX12_payments 38 = .ok (.ifCond .eq 9, 3) := by decide +kernel
theorem dX12_payments_41 : decode cX12_payments 41 = .ok (.iconst 1, 1) := by decide +kernel
theorem dX12_payments_42 : decode cX12_payments 42 = .ok (.iload_n 3, 1) := by decide +kernel
theorem dX12_payments_43 : decode cX12_payments 43 = .ok (.ishl, 1) := by decide +kernel
theorem dX12_payments_44 : decode cX12_payments 44 = .ok (.goto 4, 3) := by decide +kernel
theorem dX12_payments_47 : decode cX12_payments 47 = .ok (.iconst 0, 1) := by decide +kernel
theorem dX12_payments_48 : decode cX12_payments 48 = .ok (.ior, 1) := by decide +kernel
theorem dX12_payments_49 : decode cX12_payments 49 = .ok (.istore_n 2, 1) := by decide +kernel
theorem dX12_payments_50 : decode cX12_payments 50 = .ok (.iinc 3 1, 3) := by decide +kernel
theorem dX12_payments_53 : decode cX12_payments 53 = .ok (.goto (-30), 3) := by decide +kernel
theorem dX12_payments_56 : decode cX12_payments 56 = .ok (.iconst 1, 1) := by decide +kernel
theorem dX12_payments_57 : decode cX12_payments 57 = .ok (.istore_n 3, 1) := by decide +kernel
theorem dX12_payments_58 : decode cX12_payments 58 = .ok (.iload_n 3, 1) := by decide +kernel
theorem dX12_payments_59 : decode cX12_payments 59 = .ok (.sipush 2048, 3) := by decide +kernel
theorem dX12_payments_62 : decode cX12_payments 62 = .ok (.if_icmp .ge 144, 3) := by decide +kernel
theorem dX12_payments_65 : decode cX12_payments 65 = .ok (.aload_n 0, 1) := by decide +kernel
theorem dX12_payments_66 : decode cX12_payments 66 = .ok (.getfield 44, 3) := by decide +kernel
theorem dX12_payments_69 : decode cX12_payments 69 = .ok (.iload_n 3, 1) := by decide +kernel
theorem dX12_payments_70 : decode cX12_payments 70 = .ok (.lconst 0, 1) := by decide +kernel
theorem dX12_payments_71 : decode cX12_payments 71 = .ok (.lastore, 1) := by decide +kernel
theorem dX12_payments_72 : decode cX12_payments 72 = .ok (.aload_n 0, 1) := by decide +kernel
theorem dX12_payments_73 : decode cX12_payments 73 = .ok (.getfield 47, 3) := by decide +kernel
theorem dX12_payments_76 : decode cX12_payments 76 = .ok (.iload_n 3, 1) := by decide +kernel
theorem dX12_payments_77 : decode cX12_payments 77 = .ok (.iconst 0, 1) := by decide +kernel
theorem dX12_payments_78 : decode cX12_payments 78 = .ok (.iastore, 1) := by decide +kernel
theorem dX12_payments_79 : decode cX12_payments 79 = .ok (.iconst 0, 1) := by decide +kernel
theorem dX12_payments_80 : decode cX12_payments 80 = .ok (.istore 4, 2) := by decide +kernel
theorem dX12_payments_82 : decode cX12_payments 82 = .ok (.iload 4, 2) := by decide +kernel
theorem dX12_payments_84 : decode cX12_payments 84 = .ok (.bipush 11, 2) := by decide +kernel
theorem dX12_payments_86 : decode cX12_payments 86 = .ok (.if_icmp .ge 81, 3) := by decide +kernel
theorem dX12_payments_89 : decode cX12_payments 89 = .ok (.iload_n 3, 1) := by decide +kernel
theorem dX12_payments_90 : decode cX12_payments 90 = .ok (.iload_n 2, 1) := by decide +kernel
theorem dX12_payments_91 : decode cX12_payments 91 = .ok (.iconst (-1), 1) := by decide +kernel
theorem dX12_payments_92 : decode cX12_payments 92 = .ok (.ixor, 1) := by decide +kernel
theorem dX12_payments_93 : decode cX12_payments 93 = .ok (.iand, 1) := by decide +kernel
theorem dX12_payments_94 : decode cX12_payments 94 = .ok (.ifCond .ne 73, 3) := by decide +kernel
theorem dX12_payments_97 : decode cX12_payments 97 = .ok (.iload_n 3, 1) := by decide +kernel
theorem dX12_payments_98 : decode cX12_payments 98 = .ok (.iload 4, 2) := by decide +kernel
theorem dX12_payments_100 : decode cX12_payments 100 = .ok (.invokestatic 128, 3) := by decide +kernel
theorem dX12_payments_103 : decode cX12_payments 103 = .ok (.ifCond .eq 58, 3) := by decide +kernel
theorem dX12_payments_106 : decode cX12_payments 106 = .ok (.aload_n 0, 1) := by decide +kernel
theorem dX12_payments_107 : decode cX12_payments 107 = .ok (.getfield 44, 3) := by decide +kernel
theorem dX12_payments_110 : decode cX12_payments 110 = .ok (.iload_n 3, 1) := by decide +kernel
theorem dX12_payments_111 : decode cX12_payments 111 = .ok (.aload_n 0, 1) := by decide +kernel
theorem dX12_payments_112 : decode cX12_payments 112 = .ok (.getfield 44, 3) := by decide +kernel
theorem dX12_payments_115 : decode cX12_payments 115 = .ok (.iload_n 3, 1) := by decide +kernel
theorem dX12_payments_116 : decode cX12_payments 116 = .ok (.iconst 1, 1) := by decide +kernel
theorem dX12_payments_117 : decode cX12_payments 117 = .ok (.iload 4, 2) := by decide +kernel
theorem dX12_payments_119 : decode cX12_payments 119 = .ok (.ishl, 1) := by decide +kernel
theorem dX12_payments_120 : decode cX12_payments 120 = .ok (.iconst (-1), 1) := by decide +kernel
theorem dX12_payments_121 : decode cX12_payments 121 = .ok (.ixor, 1) := by decide +kernel
theorem dX12_payments_122 : decode cX12_payments 122 = .ok (.iand, 1) := by decide +kernel
theorem dX12_payments_123 : decode cX12_payments 123 = .ok (.laload, 1) := by decide +kernel
theorem dX12_payments_124 : decode cX12_payments 124 = .ok (.aload_n 0, 1) := by decide +kernel
theorem dX12_payments_125 : decode cX12_payments 125 = .ok (.getfield 40, 3) := by decide +kernel
theorem dX12_payments_128 : decode cX12_payments 128 = .ok (.iload 4, 2) := by decide +kernel
theorem dX12_payments_130 : decode cX12_payments 130 = .ok (.laload, 1) := by decide +kernel
theorem dX12_payments_131 : decode cX12_payments 131 = .ok (.ladd, 1) := by decide +kernel
theorem dX12_payments_132 : decode cX12_payments 132 = .ok (.lastore, 1) := by decide +kernel
theorem dX12_payments_133 : decode cX12_payments 133 = .ok (.aload_n 0, 1) := by decide +kernel
theorem dX12_payments_134 : decode cX12_payments 134 = .ok (.getfield 47, 3) := by decide +kernel
theorem dX12_payments_137 : decode cX12_payments 137 = .ok (.iload_n 3, 1) := by decide +kernel
theorem dX12_payments_138 : decode cX12_payments 138 = .ok (.aload_n 0, 1) := by decide +kernel
theorem dX12_payments_139 : decode cX12_payments 139 = .ok (.getfield 47, 3) := by decide +kernel
theorem dX12_payments_142 : decode cX12_payments 142 = .ok (.iload_n 3, 1) := by decide +kernel
theorem dX12_payments_143 : decode cX12_payments 143 = .ok (.iaload, 1) := by decide +kernel
theorem dX12_payments_144 : decode cX12_payments 144 = .ok (.aload_n 0, 1) := by decide +kernel
theorem dX12_payments_145 : decode cX12_payments 145 = .ok (.getfield 47, 3) := by decide +kernel
theorem dX12_payments_148 : decode cX12_payments 148 = .ok (.iload_n 3, 1) := by decide +kernel
theorem dX12_payments_149 : decode cX12_payments 149 = .ok (.iconst 1, 1) := by decide +kernel
theorem dX12_payments_150 : decode cX12_payments 150 = .ok (.iload 4, 2) := by decide +kernel
theorem dX12_payments_152 : decode cX12_payments 152 = .ok (.ishl, 1) := by decide +kernel
theorem dX12_payments_153 : decode cX12_payments 153 = .ok (.iconst (-1), 1) := by decide +kernel
theorem dX12_payments_154 : decode cX12_payments 154 = .ok (.ixor, 1) := by decide +kernel
theorem dX12_payments_155 : decode cX12_payments 155 = .ok (.iand, 1) := by decide +kernel
theorem dX12_payments_156 : decode cX12_payments 156 = .ok (.iaload, 1) := by decide +kernel
theorem dX12_payments_157 : decode cX12_payments 157 = .ok (.invokestatic 136, 3) := by decide +kernel
theorem dX12_payments_160 : decode cX12_payments 160 = .ok (.iastore, 1) := by decide +kernel
theorem dX12_payments_161 : decode cX12_payments 161 = .ok (.iinc 4 1, 3) := by decide +kernel
theorem dX12_payments_164 : decode cX12_payments 164 = .ok (.goto (-82), 3) := by decide +kernel
theorem dX12_payments_167 : decode cX12_payments 167 = .ok (.aload_n 0, 1) := by decide +kernel
theorem dX12_payments_168 : decode cX12_payments 168 = .ok (.getfield 47, 3) := by decide +kernel
theorem dX12_payments_171 : decode cX12_payments 171 = .ok (.iload_n 3, 1) := by decide +kernel
theorem dX12_payments_172 : decode cX12_payments 172 = .ok (.dup2, 1) := by decide +kernel
theorem dX12_payments_173 : decode cX12_payments 173 = .ok (.iaload, 1) := by decide +kernel
theorem dX12_payments_174 : decode cX12_payments 174 = .ok (.iload_n 3, 1) := by decide +kernel
theorem dX12_payments_175 : decode cX12_payments 175 = .ok (.iload_n 2, 1) := by decide +kernel
theorem dX12_payments_176 : decode cX12_payments 176 = .ok (.iconst (-1), 1) := by decide +kernel
theorem dX12_payments_177 : decode cX12_payments 177 = .ok (.ixor, 1) := by decide +kernel
theorem dX12_payments_178 : decode cX12_payments 178 = .ok (.iand, 1) := by decide +kernel
theorem dX12_payments_179 : decode cX12_payments 179 = .ok (.ifCond .ne 18, 3) := by decide +kernel
theorem dX12_payments_182 : decode cX12_payments 182 = .ok (.aload_n 0, 1) := by decide +kernel
theorem dX12_payments_183 : decode cX12_payments 183 = .ok (.getfield 44, 3) := by decide +kernel
theorem dX12_payments_186 : decode cX12_payments 186 = .ok (.iload_n 3, 1) := by decide +kernel
theorem dX12_payments_187 : decode cX12_payments 187 = .ok (.laload, 1) := by decide +kernel
theorem dX12_payments_188 : decode cX12_payments 188 = .ok (.lconst 0, 1) := by decide +kernel
theorem dX12_payments_189 : decode cX12_payments 189 = .ok (.lcmp, 1) := by decide +kernel
theorem dX12_payments_190 : decode cX12_payments 190 = .ok (.ifCond .ne 7, 3) := by decide +kernel
theorem dX12_payments_193 : decode cX12_payments 193 = .ok (.iconst 1, 1) := by decide +kernel
theorem dX12_payments_194 : decode cX12_payments 194 = .ok (.goto 4, 3) := by decide +kernel
theorem dX12_payments_197 : decode cX12_payments 197 = .ok (.iconst 0, 1) := by decide +kernel
theorem dX12_payments_198 : decode cX12_payments 198 = .ok (.iadd, 1) := by decide +kernel
theorem dX12_payments_199 : decode cX12_payments 199 = .ok (.iastore, 1) := by decide +kernel
theorem dX12_payments_200 : decode cX12_payments 200 = .ok (.iinc 3 1, 3) := by decide +kernel
theorem dX12_payments_203 : decode cX12_payments 203 = .ok (.goto (-145), 3) := by decide +kernel
theorem dX12_payments_206 : decode cX12_payments 206 = .ok (.iload_n 2, 1) := by decide +kernel
theorem dX12_payments_207 : decode cX12_payments 207 = .ok (.invokestatic 149, 3) := by decide +kernel
theorem dX12_payments_210 : decode cX12_payments 210 = .ok (.aload_n 0, 1) := by decide +kernel
theorem dX12_payments_211 : decode cX12_payments 211 = .ok (.getfield 47, 3) := by decide +kernel
theorem dX12_payments_214 : decode cX12_payments 214 = .ok (.iload_n 2, 1) := by decide +kernel
theorem dX12_payments_215 : decode cX12_payments 215 = .ok (.iaload, 1) := by decide +kernel
theorem dX12_payments_216 : decode cX12_payments 216 = .ok (.isub, 1) := by decide +kernel
theorem dX12_payments_217 : decode cX12_payments 217 = .ok (.ireturn, 1) := by decide +kernel
theorem dX12_draws_0 : decode cX12_draws 0 = .ok (.aload_n 0, 1) := by decide +kernel
theorem dX12_draws_1 : decode cX12_draws 1 = .ok (.bipush 7, 2) := by decide +kernel
theorem dX12_draws_3 : decode cX12_draws 3 = .ok (.iload_n 1, 1) := by decide +kernel
theorem dX12_draws_4 : decode cX12_draws 4 = .ok (.invokevirtual 100, 3) := by decide +kernel
theorem dX12_draws_7 : decode cX12_draws 7 = .ok (.ireturn, 1) := by decide +kernel
theorem dX12_drawn_0 : decode cX12_drawn 0 = .ok (.aload_n 0, 1) := by decide +kernel
theorem dX12_drawn_1 : decode cX12_drawn 1 = .ok (.getfield 9, 3) := by decide +kernel
theorem dX12_drawn_4 : decode cX12_drawn 4 = .ok (.bipush 7, 2) := by decide +kernel
theorem dX12_drawn_6 : decode cX12_drawn 6 = .ok (.aload_n 0, 1) := by decide +kernel
theorem dX12_drawn_7 : decode cX12_drawn 7 = .ok (.getfield 9, 3) := by decide +kernel
theorem dX12_drawn_10 : decode cX12_drawn 10 = .ok (.bipush 7, 2) := by decide +kernel
theorem dX12_drawn_12 : decode cX12_drawn 12 = .ok (.iaload, 1) := by decide +kernel
theorem dX12_drawn_13 : decode cX12_drawn 13 = .ok (.ldc_w 323, 3) := by decide +kernel
theorem dX12_drawn_16 : decode cX12_drawn 16 = .ok (.imul, 1) := by decide +kernel
theorem dX12_drawn_17 : decode cX12_drawn 17 = .ok (.sipush 12345, 3) := by decide +kernel
theorem dX12_drawn_20 : decode cX12_drawn 20 = .ok (.iadd, 1) := by decide +kernel
theorem dX12_drawn_21 : decode cX12_drawn 21 = .ok (.iastore, 1) := by decide +kernel
theorem dX12_drawn_22 : decode cX12_drawn 22 = .ok (.aload_n 0, 1) := by decide +kernel
theorem dX12_drawn_23 : decode cX12_drawn 23 = .ok (.getfield 9, 3) := by decide +kernel
theorem dX12_drawn_26 : decode cX12_drawn 26 = .ok (.bipush 7, 2) := by decide +kernel
theorem dX12_drawn_28 : decode cX12_drawn 28 = .ok (.iaload, 1) := by decide +kernel
theorem dX12_drawn_29 : decode cX12_drawn 29 = .ok (.bipush 16, 2) := by decide +kernel
theorem dX12_drawn_31 : decode cX12_drawn 31 = .ok (.iushr, 1) := by decide +kernel
theorem dX12_drawn_32 : decode cX12_drawn 32 = .ok (.iload_n 1, 1) := by decide +kernel
theorem dX12_drawn_33 : decode cX12_drawn 33 = .ok (.irem, 1) := by decide +kernel
theorem dX12_drawn_34 : decode cX12_drawn 34 = .ok (.ireturn, 1) := by decide +kernel
theorem dX12_panel_0 : decode cX12_panel 0 = .ok (.aload_n 0, 1) := by decide +kernel
theorem dX12_panel_1 : decode cX12_panel 1 = .ok (.iload_n 1, 1) := by decide +kernel
