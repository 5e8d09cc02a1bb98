theorem dX11_count_64 : decode cX11_count 64 = .ok (.getfield 121, 3) := by decide +kernel
theorem dX11_count_67 : decode cX11_count 67 = .ok (.ireturn, 1) := by decide +kernel
theorem dX11_count_68 : decode cX11_count 68 = .ok (.aload_n 0, 1) := by decide +kernel
theorem dX11_count_69 : decode cX11_count 69 = .ok (.getfield 12, 3) := by decide +kernel
theorem dX11_count_72 : decode cX11_count 72 = .ok (.getfield 134, 3) := by decide +kernel
theorem dX11_count_75 : decode cX11_count 75 = .ok (.ireturn, 1) := by decide +kernel
theorem dX11_count_76 : decode cX11_count 76 = .ok (.aload_n 0, 1) := by decide +kernel
theorem dX11_count_77 : decode cX11_count 77 = .ok (.getfield 12, 3) := by decide +kernel
theorem dX11_count_80 : decode cX11_count 80 = .ok (.getfield 228, 3) := by decide +kernel
theorem dX11_count_83 : decode cX11_count 83 = .ok (.ireturn, 1) := by decide +kernel
theorem dX11_count_84 : decode cX11_count 84 = .ok (.aload_n 0, 1) := by decide +kernel
theorem dX11_count_85 : decode cX11_count 85 = .ok (.getfield 12, 3) := by decide +kernel
theorem dX11_count_88 : decode cX11_count 88 = .ok (.getfield 256, 3) := by decide +kernel
theorem dX11_count_91 : decode cX11_count 91 = .ok (.ireturn, 1) := by decide +kernel
theorem dX11_count_92 : decode cX11_count 92 = .ok (.aload_n 0, 1) := by decide +kernel
theorem dX11_count_93 : decode cX11_count 93 = .ok (.getfield 12, 3) := by decide +kernel
theorem dX11_count_96 : decode cX11_count 96 = .ok (.invokevirtual 429, 3) := by decide +kernel
theorem dX11_count_99 : decode cX11_count 99 = .ok (.ireturn, 1) := by decide +kernel
theorem dX11_count_100 : decode cX11_count 100 = .ok (.aload_n 0, 1) := by decide +kernel
theorem dX11_count_101 : decode cX11_count 101 = .ok (.getfield 12, 3) := by decide +kernel
theorem dX11_count_104 : decode cX11_count 104 = .ok (.getfield 222, 3) := by decide +kernel
theorem dX11_count_107 : decode cX11_count 107 = .ok (.ireturn, 1) := by decide +kernel
theorem dX11_count_108 : decode cX11_count 108 = .ok (.aload_n 0, 1) := by decide +kernel
theorem dX11_count_109 : decode cX11_count 109 = .ok (.getfield 12, 3) := by decide +kernel
theorem dX11_count_112 : decode cX11_count 112 = .ok (.getfield 411, 3) := by decide +kernel
theorem dX11_count_115 : decode cX11_count 115 = .ok (.ireturn, 1) := by decide +kernel
theorem dX11_count_116 : decode cX11_count 116 = .ok (.aload_n 0, 1) := by decide +kernel
theorem dX11_count_117 : decode cX11_count 117 = .ok (.getfield 54, 3) := by decide +kernel
theorem dX11_count_120 : decode cX11_count 120 = .ok (.getfield 382, 3) := by decide +kernel
theorem dX11_count_123 : decode cX11_count 123 = .ok (.ireturn, 1) := by decide +kernel
theorem dX11_count_124 : decode cX11_count 124 = .ok (.aload_n 0, 1) := by decide +kernel
theorem dX11_count_125 : decode cX11_count 125 = .ok (.ldc 74, 2) := by decide +kernel
theorem dX11_count_127 : decode cX11_count 127 = .ok (.invokevirtual 75, 3) := by decide +kernel
theorem dX11_count_130 : decode cX11_count 130 = .ok (.ireturn, 1) := by decide +kernel
theorem dX11_told_0 : decode cX11_told 0 = .ok (.iload_n 1, 1) := by decide +kernel
theorem dX11_told_1 : decode cX11_told 1 = .ok (.iconst 1, 1) := by decide +kernel
theorem dX11_told_2 : decode cX11_told 2 = .ok (.bipush 6, 2) := by decide +kernel
theorem dX11_told_4 : decode cX11_told 4 = .ok (.invokestatic 69, 3) := by decide +kernel
theorem dX11_told_7 : decode cX11_told 7 = .ok (.ifCond .eq 10, 3) := by decide +kernel
theorem dX11_told_10 : decode cX11_told 10 = .ok (.aload_n 0, 1) := by decide +kernel
theorem dX11_told_11 : decode cX11_told 11 = .ok (.ldc 74, 2) := by decide +kernel
theorem dX11_told_13 : decode cX11_told 13 = .ok (.invokevirtual 75, 3) := by decide +kernel
theorem dX11_told_16 : decode cX11_told 16 = .ok (.ireturn, 1) := by decide +kernel
theorem dX11_told_17 : decode cX11_told 17 = .ok (.aload_n 0, 1) := by decide +kernel
theorem dX11_told_18 : decode cX11_told 18 = .ok (.getfield 64, 3) := by decide +kernel
theorem dX11_told_21 : decode cX11_told 21 = .ok (.iload_n 1, 1) := by decide +kernel
theorem dX11_told_22 : decode cX11_told 22 = .ok (.iaload, 1) := by decide +kernel
theorem dX11_told_23 : decode cX11_told 23 = .ok (.ireturn, 1) := by decide +kernel
theorem dX11_refuse_0 : decode cX11_refuse 0 = .ok (.ldc_w 432, 3) := by decide +kernel
theorem dX11_refuse_3 : decode cX11_refuse 3 = .ok (.iload_n 1, 1) := by decide +kernel
theorem dX11_refuse_4 : decode cX11_refuse 4 = .ok (.isub, 1) := by decide +kernel
theorem dX11_refuse_5 : decode cX11_refuse 5 = .ok (.istore_n 2, 1) := by decide +kernel
theorem dX11_refuse_6 : decode cX11_refuse 6 = .ok (.iload_n 2, 1) := by decide +kernel
theorem dX11_refuse_7 : decode cX11_refuse 7 = .ok (.iconst 1, 1) := by decide +kernel
theorem dX11_refuse_8 : decode cX11_refuse 8 = .ok (.if_icmp .lt 19, 3) := by decide +kernel
theorem dX11_refuse_11 : decode cX11_refuse 11 = .ok (.iload_n 2, 1) := by decide +kernel
theorem dX11_refuse_12 : decode cX11_refuse 12 = .ok (.bipush 6, 2) := by decide +kernel
theorem dX11_refuse_14 : decode cX11_refuse 14 = .ok (.if_icmp .gt 13, 3) := by decide +kernel
theorem dX11_refuse_17 : decode cX11_refuse 17 = .ok (.aload_n 0, 1) := by decide +kernel
theorem dX11_refuse_18 : decode cX11_refuse 18 = .ok (.getfield 64, 3) := by decide +kernel
theorem dX11_refuse_21 : decode cX11_refuse 21 = .ok (.iload_n 2, 1) := by decide +kernel
theorem dX11_refuse_22 : decode cX11_refuse 22 = .ok (.dup2, 1) := by decide +kernel
theorem dX11_refuse_23 : decode cX11_refuse 23 = .ok (.iaload, 1) := by decide +kernel
theorem dX11_refuse_24 : decode cX11_refuse 24 = .ok (.iconst 1, 1) := by decide +kernel
theorem dX11_refuse_25 : decode cX11_refuse 25 = .ok (.iadd, 1) := by decide +kernel
theorem dX11_refuse_26 : decode cX11_refuse 26 = .ok (.iastore, 1) := by decide +kernel
theorem dX11_refuse_27 : decode cX11_refuse 27 = .ok (.iload_n 1, 1) := by decide +kernel
theorem dX11_refuse_28 : decode cX11_refuse 28 = .ok (.ireturn, 1) := by decide +kernel
theorem dX11_noCar_0 : decode cX11_noCar 0 = .ok (.iload_n 1, 1) := by decide +kernel
theorem dX11_noCar_1 : decode cX11_noCar 1 = .ok (.iconst 0, 1) := by decide +kernel
theorem dX11_noCar_2 : decode cX11_noCar 2 = .ok (.aload_n 0, 1) := by decide +kernel
theorem dX11_noCar_3 : decode cX11_noCar 3 = .ok (.getfield 12, 3) := by decide +kernel
theorem dX11_noCar_6 : decode cX11_noCar 6 = .ok (.getfield 79, 3) := by decide +kernel
theorem dX11_noCar_9 : decode cX11_noCar 9 = .ok (.iconst 1, 1) := by decide +kernel
theorem dX11_noCar_10 : decode cX11_noCar 10 = .ok (.isub, 1) := by decide +kernel
theorem dX11_noCar_11 : decode cX11_noCar 11 = .ok (.invokestatic 69, 3) := by decide +kernel
theorem dX11_noCar_14 : decode cX11_noCar 14 = .ok (.ireturn, 1) := by decide +kernel
theorem dX11_noCrash_0 : decode cX11_noCrash 0 = .ok (.iload_n 1, 1) := by decide +kernel
theorem dX11_noCrash_1 : decode cX11_noCrash 1 = .ok (.iconst 0, 1) := by decide +kernel
theorem dX11_noCrash_2 : decode cX11_noCrash 2 = .ok (.aload_n 0, 1) := by decide +kernel
theorem dX11_noCrash_3 : decode cX11_noCrash 3 = .ok (.getfield 12, 3) := by decide +kernel
theorem dX11_noCrash_6 : decode cX11_noCrash 6 = .ok (.getfield 134, 3) := by decide +kernel
theorem dX11_noCrash_9 : decode cX11_noCrash 9 = .ok (.iconst 1, 1) := by decide +kernel
theorem dX11_noCrash_10 : decode cX11_noCrash 10 = .ok (.isub, 1) := by decide +kernel
theorem dX11_noCrash_11 : decode cX11_noCrash 11 = .ok (.invokestatic 69, 3) := by decide +kernel
theorem dX11_noCrash_14 : decode cX11_noCrash 14 = .ok (.ireturn, 1) := by decide +kernel
theorem dX11_noSide_0 : decode cX11_noSide 0 = .ok (.aload_n 0, 1) := by decide +kernel
theorem dX11_noSide_1 : decode cX11_noSide 1 = .ok (.iload_n 1, 1) := by decide +kernel
theorem dX11_noSide_2 : decode cX11_noSide 2 = .ok (.invokevirtual 151, 3) := by decide +kernel
theorem dX11_noSide_5 : decode cX11_noSide 5 = .ok (.ifCond .ne 12, 3) := by decide +kernel
theorem dX11_noSide_8 : decode cX11_noSide 8 = .ok (.iload_n 2, 1) := by decide +kernel
theorem dX11_noSide_9 : decode cX11_noSide 9 = .ok (.iconst 0, 1) := by decide +kernel
theorem dX11_noSide_10 : decode cX11_noSide 10 = .ok (.iconst 1, 1) := by decide +kernel
theorem dX11_noSide_11 : decode cX11_noSide 11 = .ok (.invokestatic 69, 3) := by decide +kernel
theorem dX11_noSide_14 : decode cX11_noSide 14 = .ok (.ifCond .eq 7, 3) := by decide +kernel
theorem dX11_noSide_17 : decode cX11_noSide 17 = .ok (.iconst 1, 1) := by decide +kernel
theorem dX11_noSide_18 : decode cX11_noSide 18 = .ok (.goto 4, 3) := by decide +kernel
theorem dX11_noSide_21 : decode cX11_noSide 21 = .ok (.iconst 0, 1) := by decide +kernel
theorem dX11_noSide_22 : decode cX11_noSide 22 = .ok (.ireturn, 1) := by decide +kernel
theorem dX11_noEntry_0 : decode cX11_noEntry 0 = .ok (.iload_n 1, 1) := by decide +kernel
theorem dX11_noEntry_1 : decode cX11_noEntry 1 = .ok (.iconst 0, 1) := by decide +kernel
theorem dX11_noEntry_2 : decode cX11_noEntry 2 = .ok (.aload_n 0, 1) := by decide +kernel
theorem dX11_noEntry_3 : decode cX11_noEntry 3 = .ok (.getfield 12, 3) := by decide +kernel
theorem dX11_noEntry_6 : decode cX11_noEntry 6 = .ok (.getfield 256, 3) := by decide +kernel
theorem dX11_noEntry_9 : decode cX11_noEntry 9 = .ok (.iconst 1, 1) := by decide +kernel
theorem dX11_noEntry_10 : decode cX11_noEntry 10 = .ok (.isub, 1) := by decide +kernel
theorem dX11_noEntry_11 : decode cX11_noEntry 11 = .ok (.invokestatic 69, 3) := by decide +kernel
theorem dX11_noEntry_14 : decode cX11_noEntry 14 = .ok (.ireturn, 1) := by decide +kernel
theorem dX11_outside_0 : decode cX11_outside 0 = .ok (.iload_n 0, 1) := by decide +kernel
theorem dX11_outside_1 : decode cX11_outside 1 = .ok (.iload_n 1, 1) := by decide +kernel
theorem dX11_outside_2 : decode cX11_outside 2 = .ok (.if_icmp .lt 8, 3) := by decide +kernel
theorem dX11_outside_5 : decode cX11_outside 5 = .ok (.iload_n 0, 1) := by decide +kernel
theorem dX11_outside_6 : decode cX11_outside 6 = .ok (.iload_n 2, 1) := by decide +kernel
theorem dX11_outside_7 : decode cX11_outside 7 = .ok (.if_icmp .le 7, 3) := by decide +kernel
theorem dX11_outside_10 : decode cX11_outside 10 = .ok (.iconst 1, 1) := by decide +kernel
theorem dX11_outside_11 : decode cX11_outside 11 = .ok (.goto 4, 3) := by decide +kernel
theorem dX11_outside_14 : decode cX11_outside 14 = .ok (.iconst 0, 1) := by decide +kernel
theorem dX11_outside_15 : decode cX11_outside 15 = .ok (.ireturn, 1) := by decide +kernel
theorem dX11_bitAt_0 : decode cX11_bitAt 0 = .ok (.iload_n 0, 1) := by decide +kernel
theorem dX11_bitAt_1 : decode cX11_bitAt 1 = .ok (.istore_n 2, 1) := by decide +kernel
theorem dX11_bitAt_2 : decode cX11_bitAt 2 = .ok (.iconst 0, 1) := by decide +kernel
theorem dX11_bitAt_3 : decode cX11_bitAt 3 = .ok (.istore_n 3, 1) := by decide +kernel
theorem dX11_bitAt_4 : decode cX11_bitAt 4 = .ok (.iload_n 3, 1) := by decide +kernel
theorem dX11_bitAt_5 : decode cX11_bitAt 5 = .ok (.iload_n 1, 1) := by decide +kernel
theorem dX11_bitAt_6 : decode cX11_bitAt 6 = .ok (.if_icmp .ge 21, 3) := by decide +kernel
theorem dX11_bitAt_9 : decode cX11_bitAt 9 = .ok (.iload_n 3, 1) := by decide +kernel
theorem dX11_bitAt_10 : decode cX11_bitAt 10 = .ok (.bipush 32, 2) := by decide +kernel
theorem dX11_bitAt_12 : decode cX11_bitAt 12 = .ok (.if_icmp .ge 15, 3) := by decide +kernel
theorem dX11_bitAt_15 : decode cX11_bitAt 15 = .ok (.iload_n 2, 1) := by decide +kernel
theorem dX11_bitAt_16 : decode cX11_bitAt 16 = .ok (.iload_n 2, 1) := by decide +kernel
theorem dX11_bitAt_17 : decode cX11_bitAt 17 = .ok (.iconst 1, 1) := by decide +kernel
theorem dX11_bitAt_18 : decode cX11_bitAt 18 = .ok (.isub, 1) := by decide +kernel
theorem dX11_bitAt_19 : decode cX11_bitAt 19 = .ok (.iand, 1) := by decide +kernel
theorem dX11_bitAt_20 : decode cX11_bitAt 20 = .ok (.istore_n 2, 1) := by decide +kernel
theorem dX11_bitAt_21 : decode cX11_bitAt 21 = .ok (.iinc 3 1, 3) := by decide +kernel
theorem dX11_bitAt_24 : decode cX11_bitAt 24 = .ok (.goto (-20), 3) := by decide +kernel
theorem dX11_bitAt_27 : decode cX11_bitAt 27 = .ok (.iload_n 2, 1) := by decide +kernel
theorem dX11_bitAt_28 : decode cX11_bitAt 28 = .ok (.iload_n 2, 1) := by decide +kernel
theorem dX11_bitAt_29 : decode cX11_bitAt 29 = .ok (.ineg, 1) := by decide +kernel
theorem dX11_bitAt_30 : decode cX11_bitAt 30 = .ok (.iand, 1) := by decide +kernel
theorem dX11_bitAt_31 : decode cX11_bitAt 31 = .ok (.ireturn, 1) := by decide +kernel
theorem dX12_init_0 : decode cX12_init 0 = .ok (.aload_n 0, 1) := by decide +kernel
theorem dX12_init_1 : decode cX12_init 1 = .ok (.invokespecial 3, 3) := by decide +kernel
theorem dX12_init_4 : decode cX12_init 4 = .ok (.aload_n 0, 1) := by decide +kernel
theorem dX12_init_5 : decode cX12_init 5 = .ok (.sipush 1421, 3) := by decide +kernel
theorem dX12_init_8 : decode cX12_init 8 = .ok (.newarray .int, 2) := by decide +kernel
theorem dX12_init_10 : decode cX12_init 10 = .ok (.putfield 9, 3) := by decide +kernel
theorem dX12_init_13 : decode cX12_init 13 = .ok (.aload_n 0, 1) := by decide +kernel
theorem dX12_init_14 : decode cX12_init 14 = .ok (.sipush 1421, 3) := by decide +kernel
theorem dX12_init_17 : decode cX12_init 17 = .ok (.newarray .int, 2) := by decide +kernel
theorem dX12_init_19 : decode cX12_init 19 = .ok (.putfield 13, 3) := by decide +kernel
theorem dX12_init_22 : decode cX12_init 22 = .ok (.aload_n 0, 1) := by decide +kernel
theorem dX12_init_23 : decode cX12_init 23 = .ok (.bipush 7, 2) := by decide +kernel
theorem dX12_init_25 : decode cX12_init 25 = .ok (.newarray .int, 2) := by decide +kernel
theorem dX12_init_27 : decode cX12_init 27 = .ok (.putfield 16, 3) := by decide +kernel
theorem dX12_init_30 : decode cX12_init 30 = .ok (.aload_n 0, 1) := by decide +kernel
theorem dX12_init_31 : decode cX12_init 31 = .ok (.bipush 7, 2) := by decide +kernel
theorem dX12_init_33 : decode cX12_init 33 = .ok (.newarray .int, 2) := by decide +kernel
theorem dX12_init_35 : decode cX12_init 35 = .ok (.dup, 1) := by decide +kernel
theorem dX12_init_36 : decode cX12_init 36 = .ok (.iconst 0, 1) := by decide +kernel
theorem dX12_init_37 : decode cX12_init 37 = .ok (.bipush 99, 2) := by decide +kernel
theorem dX12_init_39 : decode cX12_init 39 = .ok (.iastore, 1) := by decide +kernel
theorem dX12_init_40 : decode cX12_init 40 = .ok (.dup, 1) := by decide +kernel
theorem dX12_init_41 : decode cX12_init 41 = .ok (.iconst 1, 1) := by decide +kernel
theorem dX12_init_42 : decode cX12_init 42 = .ok (.bipush 50, 2) := by decide +kernel
theorem dX12_init_44 : decode cX12_init 44 = .ok (.iastore, 1) := by decide +kernel
theorem dX12_init_45 : decode cX12_init 45 = .ok (.dup, 1) := by decide +kernel
theorem dX12_init_46 : decode cX12_init 46 = .ok (.iconst 2, 1) := by decide +kernel
theorem dX12_init_47 : decode cX12_init 47 = .ok (.bipush 100, 2) := by decide +kernel
theorem dX12_init_49 : decode cX12_init 49 = .ok (.iastore, 1) := by decide +kernel
theorem dX12_init_50 : decode cX12_init 50 = .ok (.dup, 1) := by decide +kernel
theorem dX12_init_51 : decode cX12_init 51 = .ok (.iconst 3, 1) := by decide +kernel
theorem dX12_init_52 : decode cX12_init 52 = .ok (.bipush 100, 2) := by decide +kernel
theorem dX12_init_54 : decode cX12_init 54 = .ok (.iastore, 1) := by decide +kernel
theorem dX12_init_55 : decode cX12_init 55 = .ok (.dup, 1) := by decide +kernel
theorem dX12_init_56 : decode cX12_init 56 = .ok (.iconst 4, 1) := by decide +kernel
theorem dX12_init_57 : decode cX12_init 57 = .ok (.bipush 99, 2) := by decide +kernel
theorem dX12_init_59 : decode cX12_init 59 = .ok (.iastore, 1) := by decide +kernel
theorem dX12_init_60 : decode cX12_init 60 = .ok (.dup, 1) := by decide +kernel
theorem dX12_init_61 : decode cX12_init 61 = .ok (.iconst 5, 1) := by decide +kernel
theorem dX12_init_62 : decode cX12_init 62 = .ok (.sipush 9999, 3) := by decide +kernel
theorem dX12_init_65 : decode cX12_init 65 = .ok (.iastore, 1) := by decide +kernel
theorem dX12_init_66 : decode cX12_init 66 = .ok (.dup, 1) := by decide +kernel
theorem dX12_init_67 : decode cX12_init 67 = .ok (.bipush 6, 2) := by decide +kernel
theorem dX12_init_69 : decode cX12_init 69 = .ok (.bipush 50, 2) := by decide +kernel
theorem dX12_init_71 : decode cX12_init 71 = .ok (.iastore, 1) := by decide +kernel
theorem dX12_init_72 : decode cX12_init 72 = .ok (.putfield 19, 3) := by decide +kernel
theorem dX12_init_75 : decode cX12_init 75 = .ok (.aload_n 0, 1) := by decide +kernel
theorem dX12_init_76 : decode cX12_init 76 = .ok (.iconst 3, 1) := by decide +kernel
theorem dX12_init_77 : decode cX12_init 77 = .ok (.anewarray 22, 3) := by decide +kernel
theorem dX12_init_80 : decode cX12_init 80 = .ok (.dup, 1) := by decide +kernel
theorem dX12_init_81 : decode cX12_init 81 = .ok (.iconst 0, 1) := by decide +kernel
theorem dX12_init_82 : decode cX12_init 82 = .ok (.ldc 24, 2) := by decide +kernel
theorem dX12_init_84 : decode cX12_init 84 = .ok (.aastore, 1) := by decide +kernel
theorem dX12_init_85 : decode cX12_init 85 = .ok (.dup, 1) := by decide +kernel
theorem dX12_init_86 : decode cX12_init 86 = .ok (.iconst 1, 1) := by decide +kernel
theorem dX12_init_87 : decode cX12_init 87 = .ok (.ldc 26, 2) := by decide +kernel
theorem dX12_init_89 : decode cX12_init 89 = .ok (.aastore, 1) := by decide +kernel
theorem dX12_init_90 : decode cX12_init 90 = .ok (.dup, 1) := by decide +kernel
theorem dX12_init_91 : decode cX12_init 91 = .ok (.iconst 2, 1) := by decide +kernel
theorem dX12_init_92 : decode cX12_init 92 = .ok (.ldc 28, 2) := by decide +kernel
theorem dX12_init_94 : decode cX12_init 94 = .ok (.aastore, 1) := by decide +kernel
theorem dX12_init_95 : decode cX12_init 95 = .ok (.putfield 30, 3) := by decide +kernel
theorem dX12_init_98 : decode cX12_init 98 = .ok (.aload_n 0, 1) := by decide +kernel
theorem dX12_init_99 : decode cX12_init 99 = .ok (.bipush 61, 2) := by decide +kernel
theorem dX12_init_101 : decode cX12_init 101 = .ok (.newarray .int, 2) := by decide +kernel
theorem dX12_init_103 : decode cX12_init 103 = .ok (.putfield 34, 3) := by decide +kernel
theorem dX12_init_106 : decode cX12_init 106 = .ok (.aload_n 0, 1) := by decide +kernel
theorem dX12_init_107 : decode cX12_init 107 = .ok (.bipush 61, 2) := by decide +kernel
theorem dX12_init_109 : decode cX12_init 109 = .ok (.newarray .int, 2) := by decide +kernel
theorem dX12_init_111 : decode cX12_init 111 = .ok (.putfield 37, 3) := by decide +kernel
theorem dX12_init_114 : decode cX12_init 114 = .ok (.aload_n 0, 1) := by decide +kernel
theorem dX12_init_115 : decode cX12_init 115 = .ok (.bipush 11, 2) := by decide +kernel
theorem dX12_init_117 : decode cX12_init 117 = .ok (.newarray .long, 2) := by decide +kernel
theorem dX12_init_119 : decode cX12_init 119 = .ok (.putfield 40, 3) := by decide +kernel
theorem dX12_init_122 : decode cX12_init 122 = .ok (.aload_n 0, 1) := by decide +kernel
theorem dX12_init_123 : decode cX12_init 123 = .ok (.sipush 2048, 3) := by decide +kernel
theorem dX12_init_126 : decode cX12_init 126 = .ok (.newarray .long, 2) := by decide +kernel
theorem dX12_init_128 : decode cX12_init 128 = .ok (.putfield 44, 3) := by decide +kernel
theorem dX12_init_131 : decode cX12_init 131 = .ok (.aload_n 0, 1) := by decide +kernel
theorem dX12_init_132 : decode cX12_init 132 = .ok (.sipush 2048, 3) := by decide +kernel
theorem dX12_init_135 : decode cX12_init 135 = .ok (.newarray .int, 2) := by decide +kernel
theorem dX12_init_137 : decode cX12_init 137 = .ok (.putfield 47, 3) := by decide +kernel
theorem dX12_init_140 : decode cX12_init 140 = .ok (.aload_n 0, 1) := by decide +kernel
theorem dX12_init_141 : decode cX12_init 141 = .ok (.bipush 20, 2) := by decide +kernel
theorem dX12_init_143 : decode cX12_init 143 = .ok (.newarray .int, 2) := by decide +kernel
theorem dX12_init_145 : decode cX12_init 145 = .ok (.putfield 50, 3) := by decide +kernel
theorem dX12_init_148 : decode cX12_init 148 = .ok (.aload_n 0, 1) := by decide +kernel
theorem dX12_init_149 : decode cX12_init 149 = .ok (.bipush 20, 2) := by decide +kernel
theorem dX12_init_151 : decode cX12_init 151 = .ok (.newarray .int, 2) := by decide +kernel
theorem dX12_init_153 : decode cX12_init 153 = .ok (.putfield 53, 3) := by decide +kernel
theorem dX12_init_156 : decode cX12_init 156 = .ok (.aload_n 0, 1) := by decide +kernel
theorem dX12_init_157 : decode cX12_init 157 = .ok (.bipush 6, 2) := by decide +kernel
theorem dX12_init_159 : decode cX12_init 159 = .ok (.newarray .int, 2) := by decide +kernel
theorem dX12_init_161 : decode cX12_init 161 = .ok (.putfield 56, 3) := by decide +kernel
theorem dX12_init_164 : decode cX12_init 164 = .ok (.aload_n 0, 1) := by decide +kernel
theorem dX12_init_165 : decode cX12_init 165 = .ok (.bipush 6, 2) := by decide +kernel
theorem dX12_init_167 : decode cX12_init 167 = .ok (.newarray .int, 2) := by decide +kernel
theorem dX12_init_169 : decode cX12_init 169 = .ok (.putfield 59, 3) := by decide +kernel
theorem dX12_init_172 : decode cX12_init 172 = .ok (.aload_n 0, 1) := by decide +kernel
theorem dX12_init_173 : decode cX12_init 173 = .ok (.bipush 30, 2) := by decide +kernel
theorem dX12_init_175 : decode cX12_init 175 = .ok (.newarray .int, 2) := by decide +kernel
theorem dX12_init_177 : decode cX12_init 177 = .ok (.putfield 62, 3) := by decide +kernel
theorem dX12_init_180 : decode cX12_init 180 = .ok (.aload_n 0, 1) := by decide +kernel
theorem dX12_init_181 : decode cX12_init 181 = .ok (.iconst 4, 1) := by decide +kernel
theorem dX12_init_182 : decode cX12_init 182 = .ok (.newarray .int, 2) := by decide +kernel
theorem dX12_init_184 : decode cX12_init 184 = .ok (.putfield 65, 3) := by decide +kernel
theorem dX12_init_187 : decode cX12_init 187 = .ok (.aload_n 0, 1) := by decide +kernel
theorem dX12_init_188 : decode cX12_init 188 = .ok (.iconst 4, 1) := by decide +kernel
theorem dX12_init_189 : decode cX12_init 189 = .ok (.newarray .int, 2) := by decide +kernel
theorem dX12_init_191 : decode cX12_init 191 = .ok (.putfield 68, 3) := by decide +kernel
theorem dX12_init_194 : decode cX12_init 194 = .ok (.aload_n 0, 1) := by decide +kernel
theorem dX12_init_195 : decode cX12_init 195 = .ok (.bipush 96, 2) := by decide +kernel
theorem dX12_init_197 : decode cX12_init 197 = .ok (.newarray .int, 2) := by decide +kernel
theorem dX12_init_199 : decode cX12_init 199 = .ok (.putfield 71, 3) := by decide +kernel
theorem dX12_init_202 : decode cX12_init 202 = .ok (.aload_n 0, 1) := by decide +kernel
theorem dX12_init_203 : decode cX12_init 203 = .ok (.bipush 24, 2) := by decide +kernel
theorem dX12_init_205 : decode cX12_init 205 = .ok (.newarray .int, 2) := by decide +kernel
theorem dX12_init_207 : decode cX12_init 207 = .ok (.putfield 74, 3) := by decide +kernel
theorem dX12_init_210 : decode cX12_init 210 = .ok (.aload_n 0, 1) := by decide +kernel
theorem dX12_init_211 : decode cX12_init 211 = .ok (.getfield 9, 3) := by decide +kernel
theorem dX12_init_214 : decode cX12_init 214 = .ok (.bipush 7, 2) := by decide +kernel
theorem dX12_init_216 : decode cX12_init 216 = .ok (.iconst 1, 1) := by decide +kernel
theorem dX12_init_217 : decode cX12_init 217 = .ok (.iastore, 1) := by decide +kernel
theorem dX12_init_218 : decode cX12_init 218 = .ok (.aload_n 0, 1) := by decide +kernel
theorem dX12_init_219 : decode cX12_init 219 = .ok (.getfield 9, 3) := by decide +kernel
theorem dX12_init_222 : decode cX12_init 222 = .ok (.bipush 8, 2) := by decide +kernel
theorem dX12_init_224 : decode cX12_init 224 = .ok (.bipush 10, 2) := by decide +kernel
theorem dX12_init_226 : decode cX12_init 226 = .ok (.iastore, 1) := by decide +kernel
theorem dX12_init_227 : decode cX12_init 227 = .ok (.aload_n 0, 1) := by decide +kernel
theorem dX12_init_228 : decode cX12_init 228 = .ok (.getfield 9, 3) := by decide +kernel
theorem dX12_init_231 : decode cX12_init 231 = .ok (.bipush 9, 2) := by decide +kernel
theorem dX12_init_233 : decode cX12_init 233 = .ok (.bipush 15, 2) := by decide +kernel
theorem dX12_init_235 : decode cX12_init 235 = .ok (.iastore, 1) := by decide +kernel
theorem dX12_init_236 : decode cX12_init 236 = .ok (.aload_n 0, 1) := by decide +kernel
theorem dX12_init_237 : decode cX12_init 237 = .ok (.getfield 9, 3) := by decide +kernel
theorem dX12_init_240 : decode cX12_init 240 = .ok (.bipush 10, 2) := by decide +kernel
theorem dX12_init_242 : decode cX12_init 242 = .ok (.bipush 70, 2) := by decide +kernel
theorem dX12_init_244 : decode cX12_init 244 = .ok (.iastore, 1) := by decide +kernel
theorem dX12_init_245 : decode cX12_init 245 = .ok (.aload_n 0, 1) := by decide +kernel
theorem dX12_init_246 : decode cX12_init 246 = .ok (.getfield 9, 3) := by decide +kernel
theorem dX12_init_249 : decode cX12_init 249 = .ok (.bipush 11, 2) := by decide +kernel
theorem dX12_init_251 : decode cX12_init 251 = .ok (.bipush 20, 2) := by decide +kernel
theorem dX12_init_253 : decode cX12_init 253 = .ok (.iastore, 1) := by decide +kernel
theorem dX12_init_254 : decode cX12_init 254 = .ok (.aload_n 0, 1) := by decide +kernel
theorem dX12_init_255 : decode cX12_init 255 = .ok (.getfield 9, 3) := by decide +kernel
theorem dX12_init_258 : decode cX12_init 258 = .ok (.bipush 12, 2) := by decide +kernel
theorem dX12_init_260 : decode cX12_init 260 = .ok (.bipush 30, 2) := by decide +kernel
theorem dX12_init_262 : decode cX12_init 262 = .ok (.iastore, 1) := by decide +kernel
theorem dX12_init_263 : decode cX12_init 263 = .ok (.aload_n 0, 1) := by decide +kernel
theorem dX12_init_264 : decode cX12_init 264 = .ok (.getfield 9, 3) := by decide +kernel
theorem dX12_init_267 : decode cX12_init 267 = .ok (.bipush 14, 2) := by decide +kernel
theorem dX12_init_269 : decode cX12_init 269 = .ok (.iconst 1, 1) := by decide +kernel
theorem dX12_init_270 : decode cX12_init 270 = .ok (.iastore, 1) := by decide +kernel
theorem dX12_init_271 : decode cX12_init 271 = .ok (.return_, 1) := by decide +kernel
theorem dX12_finding_0 : decode cX12_finding 0 = .ok (.aload_n 0, 1) := by decide +kernel
theorem dX12_finding_1 : decode cX12_finding 1 = .ok (.getfield 16, 3) := by decide +kernel
theorem dX12_finding_4 : decode cX12_finding 4 = .ok (.ldc 77, 2) := by decide +kernel
theorem dX12_finding_6 : decode cX12_finding 6 = .ok (.iload_n 1, 1) := by decide +kernel
theorem dX12_finding_7 : decode cX12_finding 7 = .ok (.isub, 1) := by decide +kernel
theorem dX12_finding_8 : decode cX12_finding 8 = .ok (.dup2, 1) := by decide +kernel
theorem dX12_finding_9 : decode cX12_finding 9 = .ok (.iaload, 1) := by decide +kernel
theorem dX12_finding_10 : decode cX12_finding 10 = .ok (.iconst 1, 1) := by decide +kernel
theorem dX12_finding_11 : decode cX12_finding 11 = .ok (.iadd, 1) := by decide +kernel
theorem dX12_finding_12 : decode cX12_finding 12 = .ok (.iastore, 1) := by decide +kernel
theorem dX12_finding_13 : decode cX12_finding 13 = .ok (.iload_n 1, 1) := by decide +kernel
theorem dX12_finding_14 : decode cX12_finding 14 = .ok (.ireturn, 1) := by decide +kernel
theorem dX12_within_0 : decode cX12_within 0 = .ok (.iload_n 0, 1) := by decide +kernel
theorem dX12_within_1 : decode cX12_within 1 = .ok (.iload_n 1, 1) := by decide +kernel
theorem dX12_within_2 : decode cX12_within 2 = .ok (.if_icmp .lt 12, 3) := by decide +kernel
theorem dX12_within_5 : decode cX12_within 5 = .ok (.iload_n 0, 1) := by decide +kernel
theorem dX12_within_6 : decode cX12_within 6 = .ok (.iload_n 2, 1) := by decide +kernel
theorem dX12_within_7 : decode cX12_within 7 = .ok (.if_icmp .gt 7, 3) := by decide +kernel
theorem dX12_within_10 : decode cX12_within 10 = .ok (.iconst 1, 1) := by decide +kernel
theorem dX12_within_11 : decode cX12_within 11 = .ok (.goto 4, 3) := by decide +kernel
theorem dX12_within_14 : decode cX12_within 14 = .ok (.iconst 0, 1) := by decide +kernel
theorem dX12_within_15 : decode cX12_within 15 = .ok (.ireturn, 1) := by decide +kernel
theorem dX12_is_0 : decode cX12_is 0 = .ok (.iload_n 1, 1) := by decide +kernel
theorem dX12_is_1 : decode cX12_is 1 = .ok (.iconst 0, 1) := by decide +kernel
theorem dX12_is_2 : decode cX12_is 2 = .ok (.aload_n 0, 1) := by decide +kernel
theorem dX12_is_3 : decode cX12_is 3 = .ok (.getfield 9, 3) := by decide +kernel
theorem dX12_is_6 : decode cX12_is 6 = .ok (.iload_n 2, 1) := by decide +kernel
theorem dX12_is_7 : decode cX12_is 7 = .ok (.iaload, 1) := by decide +kernel
theorem dX12_is_8 : decode cX12_is 8 = .ok (.iconst 1, 1) := by decide +kernel
theorem dX12_is_9 : decode cX12_is 9 = .ok (.isub, 1) := by decide +kernel
theorem dX12_is_10 : decode cX12_is 10 = .ok (.invokestatic 78, 3) := by decide +kernel
theorem dX12_is_13 : decode cX12_is 13 = .ok (.ireturn, 1) := by decide +kernel
theorem dX12_has_0 : decode cX12_has 0 = .ok (.iload_n 0, 1) := by decide +kernel
theorem dX12_has_1 : decode cX12_has 1 = .ok (.iload_n 1, 1) := by decide +kernel
theorem dX12_has_2 : decode cX12_has 2 = .ok (.ishr, 1) := by decide +kernel
theorem dX12_has_3 : decode cX12_has 3 = .ok (.iconst 1, 1) := by decide +kernel
theorem dX12_has_4 : decode cX12_has 4 = .ok (.iand, 1) := by decide +kernel
theorem dX12_has_5 : decode cX12_has 5 = .ok (.iconst 1, 1) := by decide +kernel
theorem dX12_has_6 : decode cX12_has 6 = .ok (.if_icmp .ne 7, 3) := by decide +kernel
theorem dX12_has_9 : decode cX12_has 9 = .ok (.iconst 1, 1) := by decide +kernel
theorem dX12_has_10 : decode cX12_has 10 = .ok (.goto 4, 3) := by decide +kernel
theorem dX12_has_13 : decode cX12_has 13 = .ok (.iconst 0, 1) := by decide +kernel
theorem dX12_has_14 : decode cX12_has 14 = .ok (.ireturn, 1) := by decide +kernel
theorem dX12_bits_0 : decode cX12_bits 0 = .ok (.iconst 0, 1) := by decide +kernel
theorem dX12_bits_1 : decode cX12_bits 1 = .ok (.istore_n 1, 1) := by decide +kernel
theorem dX12_bits_2 : decode cX12_bits 2 = .ok (.iconst 0, 1) := by decide +kernel
theorem dX12_bits_3 : decode cX12_bits 3 = .ok (.istore_n 2, 1) := by decide +kernel
theorem dX12_bits_4 : decode cX12_bits 4 = .ok (.iload_n 2, 1) := by decide +kernel
theorem dX12_bits_5 : decode cX12_bits 5 = .ok (.bipush 24, 2) := by decide +kernel
theorem dX12_bits_7 : decode cX12_bits 7 = .ok (.if_icmp .ge 17, 3) := by decide +kernel
theorem dX12_bits_10 : decode cX12_bits 10 = .ok (.iload_n 1, 1) := by decide +kernel
theorem dX12_bits_11 : decode cX12_bits 11 = .ok (.iload_n 0, 1) := by decide +kernel
theorem dX12_bits_12 : decode cX12_bits 12 = .ok (.iload_n 2, 1) := by decide +kernel
theorem dX12_bits_13 : decode cX12_bits 13 = .ok (.ishr, 1) := by decide +kernel
theorem dX12_bits_14 : decode cX12_bits 14 = .ok (.iconst 1, 1) := by decide +kernel
theorem dX12_bits_15 : decode cX12_bits 15 = .ok (.iand, 1) := by decide +kernel
theorem dX12_bits_16 : decode cX12_bits 16 = .ok (.iadd, 1) := by decide +kernel
theorem dX12_bits_17 : decode cX12_bits 17 = .ok (.istore_n 1, 1) := by decide +kernel
theorem dX12_bits_18 : decode cX12_bits 18 = .ok (.iinc 2 1, 3) := by decide +kernel
theorem dX12_bits_21 : decode cX12_bits 21 = .ok (.goto (-17), 3) := by decide +kernel
theorem dX12_bits_24 : decode cX12_bits 24 = .ok (.iload_n 1, 1) := by decide +kernel
theorem dX12_bits_25 : decode cX12_bits 25 = .ok (.ireturn, 1) := by decide +kernel
theorem dX12_become_0 : decode cX12_become 0 = .ok (.aload_n 0, 1) := by decide +kernel
theorem dX12_become_1 : decode cX12_become 1 = .ok (.getfield 9, 3) := by decide +kernel
theorem dX12_become_4 : decode cX12_become 4 = .ok (.iload_n 1, 1) := by decide +kernel
theorem dX12_become_5 : decode cX12_become 5 = .ok (.iaload, 1) := by decide +kernel
theorem dX12_become_6 : decode cX12_become 6 = .ok (.istore_n 3, 1) := by decide +kernel
theorem dX12_become_7 : decode cX12_become 7 = .ok (.aload_n 0, 1) := by decide +kernel
theorem dX12_become_8 : decode cX12_become 8 = .ok (.getfield 9, 3) := by decide +kernel
theorem dX12_become_11 : decode cX12_become 11 = .ok (.iload_n 1, 1) := by decide +kernel
theorem dX12_become_12 : decode cX12_become 12 = .ok (.iload_n 2, 1) := by decide +kernel
theorem dX12_become_13 : decode cX12_become 13 = .ok (.iastore, 1) := by decide +kernel
theorem dX12_become_14 : decode cX12_become 14 = .ok (.iload_n 3, 1) := by decide +kernel
theorem dX12_become_15 : decode cX12_become 15 = .ok (.ireturn, 1) := by decide +kernel
theorem dX12_car_0 : decode cX12_car 0 = .ok (.aload_n 0, 1) := by decide +kernel
theorem dX12_car_1 : decode cX12_car 1 = .ok (.getfield 9, 3) := by decide +kernel
theorem dX12_car_4 : decode cX12_car 4 = .ok (.bipush 40, 2) := by decide +kernel
theorem dX12_car_6 : decode cX12_car 6 = .ok (.bipush 8, 2) := by decide +kernel
theorem dX12_car_8 : decode cX12_car 8 = .ok (.iload_n 1, 1) := by decide +kernel
theorem dX12_car_9 : decode cX12_car 9 = .ok (.imul, 1) := by decide +kernel
theorem dX12_car_10 : decode cX12_car 10 = .ok (.iadd, 1) := by decide +kernel
theorem dX12_car_11 : decode cX12_car 11 = .ok (.iload_n 2, 1) := by decide +kernel
theorem dX12_car_12 : decode cX12_car 12 = .ok (.iadd, 1) := by decide +kernel
theorem dX12_car_13 : decode cX12_car 13 = .ok (.iaload, 1) := by decide +kernel
theorem dX12_car_14 : decode cX12_car 14 = .ok (.ireturn, 1) := by decide +kernel
theorem dX12_car__0 : decode cX12_car_ 0 = .ok (.iload_n 1, 1) := by decide +kernel
theorem dX12_car__1 : decode cX12_car_ 1 = .ok (.iconst 0, 1) := by decide +kernel
theorem dX12_car__2 : decode cX12_car_ 2 = .ok (.bipush 10, 2) := by decide +kernel
theorem dX12_car__4 : decode cX12_car_ 4 = .ok (.invokestatic 78, 3) := by decide +kernel
theorem dX12_car__7 : decode cX12_car_ 7 = .ok (.ifCond .eq 40, 3) := by decide +kernel
theorem dX12_car__10 : decode cX12_car_ 10 = .ok (.iload_n 2, 1) := by decide +kernel
theorem dX12_car__11 : decode cX12_car_ 11 = .ok (.iconst 1, 1) := by decide +kernel
theorem dX12_car__12 : decode cX12_car_ 12 = .ok (.ldc 82, 2) := by decide +kernel
theorem dX12_car__14 : decode cX12_car_ 14 = .ok (.invokestatic 78, 3) := by decide +kernel
theorem dX12_car__17 : decode cX12_car_ 17 = .ok (.ifCond .eq 30, 3) := by decide +kernel
theorem dX12_car__20 : decode cX12_car_ 20 = .ok (.iload_n 3, 1) := by decide +kernel
theorem dX12_car__21 : decode cX12_car_ 21 = .ok (.iconst 0, 1) := by decide +kernel
theorem dX12_car__22 : decode cX12_car_ 22 = .ok (.sipush 20999, 3) := by decide +kernel
theorem dX12_car__25 : decode cX12_car_ 25 = .ok (.invokestatic 78, 3) := by decide +kernel
theorem dX12_car__28 : decode cX12_car_ 28 = .ok (.ifCond .eq 19, 3) := by decide +kernel
theorem dX12_car__31 : decode cX12_car_ 31 = .ok (.iload 4, 2) := by decide +kernel
theorem dX12_car__33 : decode cX12_car_ 33 = .ok (.iconst 0, 1) := by decide +kernel
theorem dX12_car__34 : decode cX12_car_ 34 = .ok (.sipush 255, 3) := by decide +kernel
theorem dX12_car__37 : decode cX12_car_ 37 = .ok (.invokestatic 78, 3) := by decide +kernel
theorem dX12_car__40 : decode cX12_car_ 40 = .ok (.ifCond .eq 7, 3) := by decide +kernel
theorem dX12_car__43 : decode cX12_car_ 43 = .ok (.iconst 1, 1) := by decide +kernel
theorem dX12_car__44 : decode cX12_car_ 44 = .ok (.goto 4, 3) := by decide +kernel
theorem dX12_car__47 : decode cX12_car_ 47 = .ok (.iconst 0, 1) := by decide +kernel
theorem dX12_car__48 : decode cX12_car_ 48 = .ok (.istore 5, 2) := by decide +kernel
theorem dX12_car__50 : decode cX12_car_ 50 = .ok (.iload 5, 2) := by decide +kernel
theorem dX12_car__52 : decode cX12_car_ 52 = .ok (.ifCond .ne 10, 3) := by decide +kernel
theorem dX12_car__55 : decode cX12_car_ 55 = .ok (.aload_n 0, 1) := by decide +kernel
theorem dX12_car__56 : decode cX12_car_ 56 = .ok (.ldc 83, 2) := by decide +kernel
theorem dX12_car__58 : decode cX12_car_ 58 = .ok (.invokevirtual 84, 3) := by decide +kernel
theorem dX12_car__61 : decode cX12_car_ 61 = .ok (.ireturn, 1) := by decide +kernel
theorem dX12_car__62 : decode cX12_car_ 62 = .ok (.aload_n 0, 1) := by decide +kernel
theorem dX12_car__63 : decode cX12_car_ 63 = .ok (.getfield 9, 3) := by decide +kernel
theorem dX12_car__66 : decode cX12_car_ 66 = .ok (.iconst 0, 1) := by decide +kernel
theorem dX12_car__67 : decode cX12_car_ 67 = .ok (.iaload, 1) := by decide +kernel
theorem dX12_car__68 : decode cX12_car_ 68 = .ok (.istore 6, 2) := by decide +kernel
theorem dX12_car__70 : decode cX12_car_ 70 = .ok (.iload 6, 2) := by decide +kernel
theorem dX12_car__72 : decode cX12_car_ 72 = .ok (.bipush 30, 2) := by decide +kernel
theorem dX12_car__74 : decode cX12_car_ 74 = .ok (.if_icmp .ne 10, 3) := by decide +kernel
theorem dX12_car__77 : decode cX12_car_ 77 = .ok (.aload_n 0, 1) := by decide +kernel
theorem dX12_car__78 : decode cX12_car_ 78 = .ok (.ldc 88, 2) := by decide +kernel
theorem dX12_car__80 : decode cX12_car_ 80 = .ok (.invokevirtual 84, 3) := by decide +kernel
theorem dX12_car__83 : decode cX12_car_ 83 = .ok (.ireturn, 1) := by decide +kernel
theorem dX12_car__84 : decode cX12_car_ 84 = .ok (.bipush 40, 2) := by decide +kernel
theorem dX12_car__86 : decode cX12_car_ 86 = .ok (.bipush 8, 2) := by decide +kernel
theorem dX12_car__88 : decode cX12_car_ 88 = .ok (.iload 6, 2) := by decide +kernel
theorem dX12_car__90 : decode cX12_car_ 90 = .ok (.imul, 1) := by decide +kernel
theorem dX12_car__91 : decode cX12_car_ 91 = .ok (.iadd, 1) := by decide +kernel
theorem dX12_car__92 : decode cX12_car_ 92 = .ok (.istore 7, 2) := by decide +kernel
theorem dX12_car__94 : decode cX12_car_ 94 = .ok (.aload_n 0, 1) := by decide +kernel
theorem dX12_car__95 : decode cX12_car_ 95 = .ok (.getfield 9, 3) := by decide +kernel
theorem dX12_car__98 : decode cX12_car_ 98 = .ok (.iload 7, 2) := by decide +kernel
theorem dX12_car__100 : decode cX12_car_ 100 = .ok (.iconst 0, 1) := by decide +kernel
theorem dX12_car__101 : decode cX12_car_ 101 = .ok (.iadd, 1) := by decide +kernel
theorem dX12_car__102 : decode cX12_car_ 102 = .ok (.iload_n 1, 1) := by decide +kernel
theorem dX12_car__103 : decode cX12_car_ 103 = .ok (.iastore, 1) := by decide +kernel
theorem dX12_car__104 : decode cX12_car_ 104 = .ok (.aload_n 0, 1) := by decide +kernel
theorem dX12_car__105 : decode cX12_car_ 105 = .ok (.getfield 9, 3) := by decide +kernel
theorem dX12_car__108 : decode cX12_car_ 108 = .ok (.iload 7, 2) := by decide +kernel
theorem dX12_car__110 : decode cX12_car_ 110 = .ok (.iconst 1, 1) := by decide +kernel
theorem dX12_car__111 : decode cX12_car_ 111 = .ok (.iadd, 1) := by decide +kernel
theorem dX12_car__112 : decode cX12_car_ 112 = .ok (.iload_n 2, 1) := by decide +kernel
theorem dX12_car__113 : decode cX12_car_ 113 = .ok (.iastore, 1) := by decide +kernel
theorem dX12_car__114 : decode cX12_car_ 114 = .ok (.aload_n 0, 1) := by decide +kernel
theorem dX12_car__115 : decode cX12_car_ 115 = .ok (.getfield 9, 3) := by decide +kernel
theorem dX12_car__118 : decode cX12_car_ 118 = .ok (.iload 7, 2) := by decide +kernel
theorem dX12_car__120 : decode cX12_car_ 120 = .ok (.iconst 2, 1) := by decide +kernel
theorem dX12_car__121 : decode cX12_car_ 121 = .ok (.iadd, 1) := by decide +kernel
theorem dX12_car__122 : decode cX12_car_ 122 = .ok (.iload_n 3, 1) := by decide +kernel
theorem dX12_car__123 : decode cX12_car_ 123 = .ok (.sipush 1000, 3) := by decide +kernel
theorem dX12_car__126 : decode cX12_car_ 126 = .ok (.idiv, 1) := by decide +kernel
theorem dX12_car__127 : decode cX12_car_ 127 = .ok (.iastore, 1) := by decide +kernel
theorem dX12_car__128 : decode cX12_car_ 128 = .ok (.aload_n 0, 1) := by decide +kernel
theorem dX12_car__129 : decode cX12_car_ 129 = .ok (.getfield 9, 3) := by decide +kernel
theorem dX12_car__132 : decode cX12_car_ 132 = .ok (.iload 7, 2) := by decide +kernel
theorem dX12_car__134 : decode cX12_car_ 134 = .ok (.iconst 3, 1) := by decide +kernel
theorem dX12_car__135 : decode cX12_car_ 135 = .ok (.iadd, 1) := by decide +kernel
theorem dX12_car__136 : decode cX12_car_ 136 = .ok (.iload_n 3, 1) := by decide +kernel
theorem dX12_car__137 : decode cX12_car_ 137 = .ok (.sipush 1000, 3) := by decide +kernel
theorem dX12_car__140 : decode cX12_car_ 140 = .ok (.irem, 1) := by decide +kernel
theorem dX12_car__141 : decode cX12_car_ 141 = .ok (.iastore, 1) := by decide +kernel
theorem dX12_car__142 : decode cX12_car_ 142 = .ok (.aload_n 0, 1) := by decide +kernel
theorem dX12_car__143 : decode cX12_car_ 143 = .ok (.getfield 9, 3) := by decide +kernel
theorem dX12_car__146 : decode cX12_car_ 146 = .ok (.iload 7, 2) := by decide +kernel
theorem dX12_car__148 : decode cX12_car_ 148 = .ok (.iconst 4, 1) := by decide +kernel
theorem dX12_car__149 : decode cX12_car_ 149 = .ok (.iadd, 1) := by decide +kernel
theorem dX12_car__150 : decode cX12_car_ 150 = .ok (.iload 4, 2) := by decide +kernel
theorem dX12_car__152 : decode cX12_car_ 152 = .ok (.iastore, 1) := by decide +kernel
theorem dX12_car__153 : decode cX12_car_ 153 = .ok (.iconst 0, 1) := by decide +kernel
theorem dX12_car__154 : decode cX12_car_ 154 = .ok (.istore 8, 2) := by decide +kernel
theorem dX12_car__156 : decode cX12_car_ 156 = .ok (.iload 8, 2) := by decide +kernel
theorem dX12_car__158 : decode cX12_car_ 158 = .ok (.iconst 3, 1) := by decide +kernel
theorem dX12_car__159 : decode cX12_car_ 159 = .ok (.if_icmp .ge 22, 3) := by decide +kernel
theorem dX12_car__162 : decode cX12_car_ 162 = .ok (.aload_n 0, 1) := by decide +kernel
theorem dX12_car__163 : decode cX12_car_ 163 = .ok (.getfield 9, 3) := by decide +kernel
theorem dX12_car__166 : decode cX12_car_ 166 = .ok (.iload 7, 2) := by decide +kernel
theorem dX12_car__168 : decode cX12_car_ 168 = .ok (.iconst 5, 1) := by decide +kernel
theorem dX12_car__169 : decode cX12_car_ 169 = .ok (.iadd, 1) := by decide +kernel
theorem dX12_car__170 : decode cX12_car_ 170 = .ok (.iload 8, 2) := by decide +kernel
theorem dX12_car__172 : decode cX12_car_ 172 = .ok (.iadd, 1) := by decide +kernel
theorem dX12_car__173 : decode cX12_car_ 173 = .ok (.iconst (-1), 1) := by decide +kernel
theorem dX12_car__174 : decode cX12_car_ 174 = .ok (.iastore, 1) := by decide +kernel
theorem dX12_car__175 : decode cX12_car_ 175 = .ok (.iinc 8 1, 3) := by decide +kernel
theorem dX12_car__178 : decode cX12_car_ 178 = .ok (.goto (-22), 3) := by decide +kernel
theorem dX12_car__181 : decode cX12_car_ 181 = .ok (.aload_n 0, 1) := by decide +kernel
theorem dX12_car__182 : decode cX12_car_ 182 = .ok (.getfield 9, 3) := by decide +kernel
theorem dX12_car__185 : decode cX12_car_ 185 = .ok (.iconst 0, 1) := by decide +kernel
theorem dX12_car__186 : decode cX12_car_ 186 = .ok (.dup2, 1) := by decide +kernel
theorem dX12_car__187 : decode cX12_car_ 187 = .ok (.iaload, 1) := by decide +kernel
theorem dX12_car__188 : decode cX12_car_ 188 = .ok (.iconst 1, 1) := by decide +kernel
theorem dX12_car__189 : decode cX12_car_ 189 = .ok (.iadd, 1) := by decide +kernel
theorem dX12_car__190 : decode cX12_car_ 190 = .ok (.iastore, 1) := by decide +kernel
theorem dX12_car__191 : decode cX12_car_ 191 = .ok (.iload 6, 2) := by decide +kernel
theorem dX12_car__193 : decode cX12_car_ 193 = .ok (.ireturn, 1) := by decide +kernel
theorem dX12_bookOf_0 : decode cX12_bookOf 0 = .ok (.aload_n 0, 1) := by decide +kernel
theorem dX12_bookOf_1 : decode cX12_bookOf 1 = .ok (.iload_n 1, 1) := by decide +kernel
theorem dX12_bookOf_2 : decode cX12_bookOf 2 = .ok (.iconst 1, 1) := by decide +kernel
theorem dX12_bookOf_3 : decode cX12_bookOf 3 = .ok (.invokevirtual 89, 3) := by decide +kernel
theorem dX12_bookOf_6 : decode cX12_bookOf 6 = .ok (.istore_n 2, 1) := by decide +kernel
theorem dX12_bookOf_7 : decode cX12_bookOf 7 = .ok (.iconst 0, 1) := by decide +kernel
theorem dX12_bookOf_8 : decode cX12_bookOf 8 = .ok (.istore_n 3, 1) := by decide +kernel
theorem dX12_bookOf_9 : decode cX12_bookOf 9 = .ok (.iload_n 3, 1) := by decide +kernel
theorem dX12_bookOf_10 : decode cX12_bookOf 10 = .ok (.aload_n 0, 1) := by decide +kernel
theorem dX12_bookOf_11 : decode cX12_bookOf 11 = .ok (.iload_n 1, 1) := by decide +kernel
theorem dX12_bookOf_12 : decode cX12_bookOf 12 = .ok (.iconst 2, 1) := by decide +kernel
theorem dX12_bookOf_13 : decode cX12_bookOf 13 = .ok (.invokevirtual 89, 3) := by decide +kernel
theorem dX12_bookOf_16 : decode cX12_bookOf 16 = .ok (.if_icmp .ge 25, 3) := by decide +kernel
theorem dX12_bookOf_19 : decode cX12_bookOf 19 = .ok (.iload_n 2, 1) := by decide +kernel
theorem dX12_bookOf_20 : decode cX12_bookOf 20 = .ok (.bipush 100, 2) := by decide +kernel
theorem dX12_bookOf_22 : decode cX12_bookOf 22 = .ok (.aload_n 0, 1) := by decide +kernel
theorem dX12_bookOf_23 : decode cX12_bookOf 23 = .ok (.getfield 9, 3) := by decide +kernel
theorem dX12_bookOf_26 : decode cX12_bookOf 26 = .ok (.bipush 9, 2) := by decide +kernel
theorem dX12_bookOf_28 : decode cX12_bookOf 28 = .ok (.iaload, 1) := by decide +kernel
theorem dX12_bookOf_29 : decode cX12_bookOf 29 = .ok (.isub, 1) := by decide +kernel
theorem dX12_bookOf_30 : decode cX12_bookOf 30 = .ok (.imul, 1) := by decide +kernel
theorem dX12_bookOf_31 : decode cX12_bookOf 31 = .ok (.bipush 100, 2) := by decide +kernel
theorem dX12_bookOf_33 : decode cX12_bookOf 33 = .ok (.idiv, 1) := by decide +kernel
theorem dX12_bookOf_34 : decode cX12_bookOf 34 = .ok (.istore_n 2, 1) := by decide +kernel
theorem dX12_bookOf_35 : decode cX12_bookOf 35 = .ok (.iinc 3 1, 3) := by decide +kernel
theorem dX12_bookOf_38 : decode cX12_bookOf 38 = .ok (.goto (-29), 3) := by decide +kernel
theorem dX12_bookOf_41 : decode cX12_bookOf 41 = .ok (.iload_n 2, 1) := by decide +kernel
theorem dX12_bookOf_42 : decode cX12_bookOf 42 = .ok (.ireturn, 1) := by decide +kernel
theorem dX12_carIs_0 : decode cX12_carIs 0 = .ok (.aload_n 0, 1) := by decide +kernel
theorem dX12_carIs_1 : decode cX12_carIs 1 = .ok (.iload_n 1, 1) := by decide +kernel
theorem dX12_carIs_2 : decode cX12_carIs 2 = .ok (.iconst 0, 1) := by decide +kernel
theorem dX12_carIs_3 : decode cX12_carIs 3 = .ok (.invokevirtual 93, 3) := by decide +kernel
theorem dX12_carIs_6 : decode cX12_carIs 6 = .ok (.ifCond .eq 13, 3) := by decide +kernel
theorem dX12_carIs_9 : decode cX12_carIs 9 = .ok (.iload_n 2, 1) := by decide +kernel
theorem dX12_carIs_10 : decode cX12_carIs 10 = .ok (.iconst 0, 1) := by decide +kernel
theorem dX12_carIs_11 : decode cX12_carIs 11 = .ok (.bipush 8, 2) := by decide +kernel
theorem dX12_carIs_13 : decode cX12_carIs 13 = .ok (.invokestatic 78, 3) := by decide +kernel
theorem dX12_carIs_16 : decode cX12_carIs 16 = .ok (.ifCond .ne 10, 3) := by decide +kernel
theorem dX12_carIs_19 : decode cX12_carIs 19 = .ok (.aload_n 0, 1) := by decide +kernel
theorem dX12_carIs_20 : decode cX12_carIs 20 = .ok (.ldc 83, 2) := by decide +kernel
theorem dX12_carIs_22 : decode cX12_carIs 22 = .ok (.invokevirtual 84, 3) := by decide +kernel
theorem dX12_carIs_25 : decode cX12_carIs 25 = .ok (.ireturn, 1) := by decide +kernel
theorem dX12_carIs_26 : decode cX12_carIs 26 = .ok (.iload_n 2, 1) := by decide +kernel
theorem dX12_carIs_27 : decode cX12_carIs 27 = .ok (.iconst 5, 1) := by decide +kernel
theorem dX12_carIs_28 : decode cX12_carIs 28 = .ok (.if_icmp .ne 11, 3) := by decide +kernel
theorem dX12_carIs_31 : decode cX12_carIs 31 = .ok (.aload_n 0, 1) := by decide +kernel
theorem dX12_carIs_32 : decode cX12_carIs 32 = .ok (.iload_n 1, 1) := by decide +kernel
theorem dX12_carIs_33 : decode cX12_carIs 33 = .ok (.invokevirtual 97, 3) := by decide +kernel
theorem dX12_carIs_36 : decode cX12_carIs 36 = .ok (.goto 20, 3) := by decide +kernel
theorem dX12_carIs_39 : decode cX12_carIs 39 = .ok (.aload_n 0, 1) := by decide +kernel
theorem dX12_carIs_40 : decode cX12_carIs 40 = .ok (.iload_n 1, 1) := by decide +kernel
theorem dX12_carIs_41 : decode cX12_carIs 41 = .ok (.iload_n 2, 1) := by decide +kernel
theorem dX12_carIs_42 : decode cX12_carIs 42 = .ok (.iconst 5, 1) := by decide +kernel
theorem dX12_carIs_43 : decode cX12_carIs 43 = .ok (.if_icmp .ge 7, 3) := by decide +kernel
theorem dX12_carIs_46 : decode cX12_carIs 46 = .ok (.iload_n 2, 1) := by decide +kernel
theorem dX12_carIs_47 : decode cX12_carIs 47 = .ok (.goto 6, 3) := by decide +kernel
theorem dX12_carIs_50 : decode cX12_carIs 50 = .ok (.iload_n 2, 1) := by decide +kernel
theorem dX12_carIs_51 : decode cX12_carIs 51 = .ok (.iconst 1, 1) := by decide +kernel
theorem dX12_carIs_52 : decode cX12_carIs 52 = .ok (.isub, 1) := by decide +kernel
theorem dX12_carIs_53 : decode cX12_carIs 53 = .ok (.invokevirtual 89, 3) := by decide +kernel
theorem dX12_carIs_56 : decode cX12_carIs 56 = .ok (.ireturn, 1) := by decide +kernel
theorem dX12_mark_0 : decode cX12_mark 0 = .ok (.aload_n 0, 1) := by decide +kernel
theorem dX12_mark_1 : decode cX12_mark 1 = .ok (.iload_n 1, 1) := by decide +kernel
theorem dX12_mark_2 : decode cX12_mark 2 = .ok (.iconst 0, 1) := by decide +kernel
theorem dX12_mark_3 : decode cX12_mark 3 = .ok (.invokevirtual 93, 3) := by decide +kernel
theorem dX12_mark_6 : decode cX12_mark 6 = .ok (.ifCond .eq 41, 3) := by decide +kernel
theorem dX12_mark_9 : decode cX12_mark 9 = .ok (.iload_n 2, 1) := by decide +kernel
theorem dX12_mark_10 : decode cX12_mark 10 = .ok (.iconst 0, 1) := by decide +kernel
theorem dX12_mark_11 : decode cX12_mark 11 = .ok (.iconst 2, 1) := by decide +kernel
theorem dX12_mark_12 : decode cX12_mark 12 = .ok (.invokestatic 78, 3) := by decide +kernel
theorem dX12_mark_15 : decode cX12_mark 15 = .ok (.ifCond .eq 32, 3) := by decide +kernel
theorem dX12_mark_18 : decode cX12_mark 18 = .ok (.iload_n 3, 1) := by decide +kernel
theorem dX12_mark_19 : decode cX12_mark 19 = .ok (.iconst (-1), 1) := by decide +kernel
theorem dX12_mark_20 : decode cX12_mark 20 = .ok (.bipush 99, 2) := by decide +kernel
theorem dX12_mark_22 : decode cX12_mark 22 = .ok (.invokestatic 78, 3) := by decide +kernel
theorem dX12_mark_25 : decode cX12_mark 25 = .ok (.ifCond .eq 22, 3) := by decide +kernel
theorem dX12_mark_28 : decode cX12_mark 28 = .ok (.aload_n 0, 1) := by decide +kernel
theorem dX12_mark_29 : decode cX12_mark 29 = .ok (.bipush 40, 2) := by decide +kernel
theorem dX12_mark_31 : decode cX12_mark 31 = .ok (.bipush 8, 2) := by decide +kernel
theorem dX12_mark_33 : decode cX12_mark 33 = .ok (.iload_n 1, 1) := by decide +kernel
theorem dX12_mark_34 : decode cX12_mark 34 = .ok (.imul, 1) := by decide +kernel
theorem dX12_mark_35 : decode cX12_mark 35 = .ok (.iadd, 1) := by decide +kernel
theorem dX12_mark_36 : decode cX12_mark 36 = .ok (.iconst 5, 1) := by decide +kernel
theorem dX12_mark_37 : decode cX12_mark 37 = .ok (.iadd, 1) := by decide +kernel
theorem dX12_mark_38 : decode cX12_mark 38 = .ok (.iload_n 2, 1) := by decide +kernel
theorem dX12_mark_39 : decode cX12_mark 39 = .ok (.iadd, 1) := by decide +kernel
theorem dX12_mark_40 : decode cX12_mark 40 = .ok (.iload_n 3, 1) := by decide +kernel
theorem dX12_mark_41 : decode cX12_mark 41 = .ok (.invokevirtual 100, 3) := by decide +kernel
theorem dX12_mark_44 : decode cX12_mark 44 = .ok (.goto 9, 3) := by decide +kernel
theorem dX12_mark_47 : decode cX12_mark 47 = .ok (.aload_n 0, 1) := by decide +kernel
theorem dX12_mark_48 : decode cX12_mark 48 = .ok (.ldc 83, 2) := by decide +kernel
theorem dX12_mark_50 : decode cX12_mark 50 = .ok (.invokevirtual 84, 3) := by decide +kernel
theorem dX12_mark_53 : decode cX12_mark 53 = .ok (.ireturn, 1) := by decide +kernel
theorem dX12_shape_0 : decode cX12_shape 0 = .ok (.iload_n 1, 1) := by decide +kernel
theorem dX12_shape_1 : decode cX12_shape 1 = .ok (.iconst 0, 1) := by decide +kernel
theorem dX12_shape_2 : decode cX12_shape 2 = .ok (.ldc 103, 2) := by decide +kernel
theorem dX12_shape_4 : decode cX12_shape 4 = .ok (.invokestatic 78, 3) := by decide +kernel
theorem dX12_shape_7 : decode cX12_shape 7 = .ok (.ifCond .eq 23, 3) := by decide +kernel
theorem dX12_shape_10 : decode cX12_shape 10 = .ok (.iload_n 2, 1) := by decide +kernel
theorem dX12_shape_11 : decode cX12_shape 11 = .ok (.iconst 0, 1) := by decide +kernel
theorem dX12_shape_12 : decode cX12_shape 12 = .ok (.ldc 103, 2) := by decide +kernel
theorem dX12_shape_14 : decode cX12_shape 14 = .ok (.invokestatic 78, 3) := by decide +kernel
theorem dX12_shape_17 : decode cX12_shape 17 = .ok (.ifCond .eq 13, 3) := by decide +kernel
theorem dX12_shape_20 : decode cX12_shape 20 = .ok (.iload_n 3, 1) := by decide +kernel
theorem dX12_shape_21 : decode cX12_shape 21 = .ok (.iconst 0, 1) := by decide +kernel
theorem dX12_shape_22 : decode cX12_shape 22 = .ok (.bipush 100, 2) := by decide +kernel
theorem dX12_shape_24 : decode cX12_shape 24 = .ok (.invokestatic 78, 3) := by decide +kernel
theorem dX12_shape_27 : decode cX12_shape 27 = .ok (.ifCond .ne 10, 3) := by decide +kernel
theorem dX12_shape_30 : decode cX12_shape 30 = .ok (.aload_n 0, 1) := by decide +kernel
theorem dX12_shape_31 : decode cX12_shape 31 = .ok (.ldc 83, 2) := by decide +kernel
theorem dX12_shape_33 : decode cX12_shape 33 = .ok (.invokevirtual 84, 3) := by decide +kernel
theorem dX12_shape_36 : decode cX12_shape 36 = .ok (.ireturn, 1) := by decide +kernel
theorem dX12_shape_37 : decode cX12_shape 37 = .ok (.aload_n 0, 1) := by decide +kernel
theorem dX12_shape_38 : decode cX12_shape 38 = .ok (.getfield 9, 3) := by decide +kernel
theorem dX12_shape_41 : decode cX12_shape 41 = .ok (.iconst 1, 1) := by decide +kernel
theorem dX12_shape_42 : decode cX12_shape 42 = .ok (.iaload, 1) := by decide +kernel
theorem dX12_shape_43 : decode cX12_shape 43 = .ok (.istore 4, 2) := by decide +kernel
theorem dX12_shape_45 : decode cX12_shape 45 = .ok (.iload 4, 2) := by decide +kernel
theorem dX12_shape_47 : decode cX12_shape 47 = .ok (.bipush 16, 2) := by decide +kernel
theorem dX12_shape_49 : decode cX12_shape 49 = .ok (.if_icmp .ne 10, 3) := by decide +kernel
theorem dX12_shape_52 : decode cX12_shape 52 = .ok (.aload_n 0, 1) := by decide +kernel
theorem dX12_shape_53 : decode cX12_shape 53 = .ok (.ldc 88, 2) := by decide +kernel
theorem dX12_shape_55 : decode cX12_shape 55 = .ok (.invokevirtual 84, 3) := by decide +kernel
theorem dX12_shape_58 : decode cX12_shape 58 = .ok (.ireturn, 1) := by decide +kernel
theorem dX12_shape_59 : decode cX12_shape 59 = .ok (.aload_n 0, 1) := by decide +kernel
theorem dX12_shape_60 : decode cX12_shape 60 = .ok (.getfield 9, 3) := by decide +kernel
theorem dX12_shape_63 : decode cX12_shape 63 = .ok (.sipush 280, 3) := by decide +kernel
theorem dX12_shape_66 : decode cX12_shape 66 = .ok (.iconst 3, 1) := by decide +kernel
theorem dX12_shape_67 : decode cX12_shape 67 = .ok (.iload 4, 2) := by decide +kernel
theorem dX12_shape_69 : decode cX12_shape 69 = .ok (.imul, 1) := by decide +kernel
theorem dX12_shape_70 : decode cX12_shape 70 = .ok (.iadd, 1) := by decide +kernel
theorem dX12_shape_71 : decode cX12_shape 71 = .ok (.iload_n 1, 1) := by decide +kernel
theorem dX12_shape_72 : decode cX12_shape 72 = .ok (.iastore, 1) := by decide +kernel
theorem dX12_shape_73 : decode cX12_shape 73 = .ok (.aload_n 0, 1) := by decide +kernel
theorem dX12_shape_74 : decode cX12_shape 74 = .ok (.getfield 9, 3) := by decide +kernel
theorem dX12_shape_77 : decode cX12_shape 77 = .ok (.sipush 280, 3) := by decide +kernel
theorem dX12_shape_80 : decode cX12_shape 80 = .ok (.iconst 3, 1) := by decide +kernel
theorem dX12_shape_81 : decode cX12_shape 81 = .ok (.iload 4, 2) := by decide +kernel
theorem dX12_shape_83 : decode cX12_shape 83 = .ok (.imul, 1) := by decide +kernel
theorem dX12_shape_84 : decode cX12_shape 84 = .ok (.iadd, 1) := by decide +kernel
theorem dX12_shape_85 : decode cX12_shape 85 = .ok (.iconst 1, 1) := by decide +kernel
theorem dX12_shape_86 : decode cX12_shape 86 = .ok (.iadd, 1) := by decide +kernel
theorem dX12_shape_87 : decode cX12_shape 87 = .ok (.iload_n 2, 1) := by decide +kernel
theorem dX12_shape_88 : decode cX12_shape 88 = .ok (.iastore, 1) := by decide +kernel
theorem dX12_shape_89 : decode cX12_shape 89 = .ok (.aload_n 0, 1) := by decide +kernel
theorem dX12_shape_90 : decode cX12_shape 90 = .ok (.getfield 9, 3) := by decide +kernel
theorem dX12_shape_93 : decode cX12_shape 93 = .ok (.sipush 280, 3) := by decide +kernel
theorem dX12_shape_96 : decode cX12_shape 96 = .ok (.iconst 3, 1) := by decide +kernel
theorem dX12_shape_97 : decode cX12_shape 97 = .ok (.iload 4, 2) := by decide +kernel
theorem dX12_shape_99 : decode cX12_shape 99 = .ok (.imul, 1) := by decide +kernel
theorem dX12_shape_100 : decode cX12_shape 100 = .ok (.iadd, 1) := by decide +kernel
theorem dX12_shape_101 : decode cX12_shape 101 = .ok (.iconst 2, 1) := by decide +kernel
theorem dX12_shape_102 : decode cX12_shape 102 = .ok (.iadd, 1) := by decide +kernel
theorem dX12_shape_103 : decode cX12_shape 103 = .ok (.iload_n 3, 1) := by decide +kernel
theorem dX12_shape_104 : decode cX12_shape 104 = .ok (.iastore, 1) := by decide +kernel
theorem dX12_shape_105 : decode cX12_shape 105 = .ok (.aload_n 0, 1) := by decide +kernel
theorem dX12_shape_106 : decode cX12_shape 106 = .ok (.getfield 9, 3) := by decide +kernel
theorem dX12_shape_109 : decode cX12_shape 109 = .ok (.iconst 1, 1) := by decide +kernel
theorem dX12_shape_110 : decode cX12_shape 110 = .ok (.dup2, 1) := by decide +kernel
theorem dX12_shape_111 : decode cX12_shape 111 = .ok (.iaload, 1) := by decide +kernel
theorem dX12_shape_112 : decode cX12_shape 112 = .ok (.iconst 1, 1) := by decide +kernel
theorem dX12_shape_113 : decode cX12_shape 113 = .ok (.iadd, 1) := by decide +kernel
theorem dX12_shape_114 : decode cX12_shape 114 = .ok (.iastore, 1) := by decide +kernel
theorem dX12_shape_115 : decode cX12_shape 115 = .ok (.iload 4, 2) := by decide +kernel
theorem dX12_shape_117 : decode cX12_shape 117 = .ok (.ireturn, 1) := by decide +kernel
theorem dX12_crash_0 : decode cX12_crash 0 = .ok (.iload_n 1, 1) := by decide +kernel
theorem dX12_crash_1 : decode cX12_crash 1 = .ok (.ifCond .lt 47, 3) := by decide +kernel
theorem dX12_crash_4 : decode cX12_crash 4 = .ok (.aload_n 0, 1) := by decide +kernel
theorem dX12_crash_5 : decode cX12_crash 5 = .ok (.iload_n 1, 1) := by decide +kernel
theorem dX12_crash_6 : decode cX12_crash 6 = .ok (.bipush 100, 2) := by decide +kernel
theorem dX12_crash_8 : decode cX12_crash 8 = .ok (.idiv, 1) := by decide +kernel
theorem dX12_crash_9 : decode cX12_crash 9 = .ok (.iconst 0, 1) := by decide +kernel
theorem dX12_crash_10 : decode cX12_crash 10 = .ok (.invokevirtual 93, 3) := by decide +kernel
theorem dX12_crash_13 : decode cX12_crash 13 = .ok (.ifCond .eq 35, 3) := by decide +kernel
theorem dX12_crash_16 : decode cX12_crash 16 = .ok (.aload_n 0, 1) := by decide +kernel
theorem dX12_crash_17 : decode cX12_crash 17 = .ok (.iload_n 1, 1) := by decide +kernel
theorem dX12_crash_18 : decode cX12_crash 18 = .ok (.bipush 100, 2) := by decide +kernel
theorem dX12_crash_20 : decode cX12_crash 20 = .ok (.irem, 1) := by decide +kernel
theorem dX12_crash_21 : decode cX12_crash 21 = .ok (.iconst 0, 1) := by decide +kernel
theorem dX12_crash_22 : decode cX12_crash 22 = .ok (.invokevirtual 93, 3) := by decide +kernel
theorem dX12_crash_25 : decode cX12_crash 25 = .ok (.ifCond .eq 23, 3) := by decide +kernel
theorem dX12_crash_28 : decode cX12_crash 28 = .ok (.iload_n 2, 1) := by decide +kernel
theorem dX12_crash_29 : decode cX12_crash 29 = .ok (.iconst 0, 1) := by decide +kernel
theorem dX12_crash_30 : decode cX12_crash 30 = .ok (.ldc 82, 2) := by decide +kernel
theorem dX12_crash_32 : decode cX12_crash 32 = .ok (.invokestatic 78, 3) := by decide +kernel
theorem dX12_crash_35 : decode cX12_crash 35 = .ok (.ifCond .eq 13, 3) := by decide +kernel
theorem dX12_crash_38 : decode cX12_crash 38 = .ok (.iload_n 3, 1) := by decide +kernel
theorem dX12_crash_39 : decode cX12_crash 39 = .ok (.iconst 0, 1) := by decide +kernel
theorem dX12_crash_40 : decode cX12_crash 40 = .ok (.ldc 103, 2) := by decide +kernel
theorem dX12_crash_42 : decode cX12_crash 42 = .ok (.invokestatic 78, 3) := by decide +kernel
theorem dX12_crash_45 : decode cX12_crash 45 = .ok (.ifCond .ne 10, 3) := by decide +kernel
theorem dX12_crash_48 : decode cX12_crash 48 = .ok (.aload_n 0, 1) := by decide +kernel
theorem dX12_crash_49 : decode cX12_crash 49 = .ok (.ldc 83, 2) := by decide +kernel
theorem dX12_crash_51 : decode cX12_crash 51 = .ok (.invokevirtual 84, 3) := by decide +kernel
theorem dX12_crash_54 : decode cX12_crash 54 = .ok (.ireturn, 1) := by decide +kernel
theorem dX12_crash_55 : decode cX12_crash 55 = .ok (.aload_n 0, 1) := by decide +kernel
theorem dX12_crash_56 : decode cX12_crash 56 = .ok (.iload_n 1, 1) := by decide +kernel
theorem dX12_crash_57 : decode cX12_crash 57 = .ok (.bipush 100, 2) := by decide +kernel
theorem dX12_crash_59 : decode cX12_crash 59 = .ok (.idiv, 1) := by decide +kernel
theorem dX12_crash_60 : decode cX12_crash 60 = .ok (.iconst 0, 1) := by decide +kernel
theorem dX12_crash_61 : decode cX12_crash 61 = .ok (.invokevirtual 89, 3) := by decide +kernel
theorem dX12_crash_64 : decode cX12_crash 64 = .ok (.aload_n 0, 1) := by decide +kernel
theorem dX12_crash_65 : decode cX12_crash 65 = .ok (.iload_n 1, 1) := by decide +kernel
theorem dX12_crash_66 : decode cX12_crash 66 = .ok (.bipush 100, 2) := by decide +kernel
theorem dX12_crash_68 : decode cX12_crash 68 = .ok (.irem, 1) := by decide +kernel
theorem dX12_crash_69 : decode cX12_crash 69 = .ok (.iconst 0, 1) := by decide +kernel
theorem dX12_crash_70 : decode cX12_crash 70 = .ok (.invokevirtual 89, 3) := by decide +kernel
theorem dX12_crash_73 : decode cX12_crash 73 = .ok (.if_icmp .ne 10, 3) := by decide +kernel
theorem dX12_crash_76 : decode cX12_crash 76 = .ok (.aload_n 0, 1) := by decide +kernel
theorem dX12_crash_77 : decode cX12_crash 77 = .ok (.ldc 104, 2) := by decide +kernel
theorem dX12_crash_79 : decode cX12_crash 79 = .ok (.invokevirtual 84, 3) := by decide +kernel
theorem dX12_crash_82 : decode cX12_crash 82 = .ok (.ireturn, 1) := by decide +kernel
theorem dX12_crash_83 : decode cX12_crash 83 = .ok (.aload_n 0, 1) := by decide +kernel
theorem dX12_crash_84 : decode cX12_crash 84 = .ok (.getfield 9, 3) := by decide +kernel
theorem dX12_crash_87 : decode cX12_crash 87 = .ok (.iconst 2, 1) := by decide +kernel
theorem dX12_crash_88 : decode cX12_crash 88 = .ok (.iaload, 1) := by decide +kernel
theorem dX12_crash_89 : decode cX12_crash 89 = .ok (.istore 4, 2) := by decide +kernel
theorem dX12_crash_91 : decode cX12_crash 91 = .ok (.iload 4, 2) := by decide +kernel
theorem dX12_crash_93 : decode cX12_crash 93 = .ok (.bipush 20, 2) := by decide +kernel
theorem dX12_crash_95 : decode cX12_crash 95 = .ok (.if_icmp .ne 10, 3) := by decide +kernel
theorem dX12_crash_98 : decode cX12_crash 98 = .ok (.aload_n 0, 1) := by decide +kernel
theorem dX12_crash_99 : decode cX12_crash 99 = .ok (.ldc 88, 2) := by decide +kernel
theorem dX12_crash_101 : decode cX12_crash 101 = .ok (.invokevirtual 84, 3) := by decide +kernel
theorem dX12_crash_104 : decode cX12_crash 104 = .ok (.ireturn, 1) := by decide +kernel
theorem dX12_crash_105 : decode cX12_crash 105 = .ok (.sipush 328, 3) := by decide +kernel
theorem dX12_crash_108 : decode cX12_crash 108 = .ok (.bipush 7, 2) := by decide +kernel
theorem dX12_crash_110 : decode cX12_crash 110 = .ok (.iload 4, 2) := by decide +kernel
theorem dX12_crash_112 : decode cX12_crash 112 = .ok (.imul, 1) := by decide +kernel
theorem dX12_crash_113 : decode cX12_crash 113 = .ok (.iadd, 1) := by decide +kernel
theorem dX12_crash_114 : decode cX12_crash 114 = .ok (.istore 5, 2) := by decide +kernel
theorem dX12_crash_116 : decode cX12_crash 116 = .ok (.aload_n 0, 1) := by decide +kernel
theorem dX12_crash_117 : decode cX12_crash 117 = .ok (.getfield 9, 3) := by decide +kernel
theorem dX12_crash_120 : decode cX12_crash 120 = .ok (.iload 5, 2) := by decide +kernel
theorem dX12_crash_122 : decode cX12_crash 122 = .ok (.iconst 0, 1) := by decide +kernel
theorem dX12_crash_123 : decode cX12_crash 123 = .ok (.iadd, 1) := by decide +kernel
theorem dX12_crash_124 : decode cX12_crash 124 = .ok (.iload_n 1, 1) := by decide +kernel
theorem dX12_crash_125 : decode cX12_crash 125 = .ok (.bipush 100, 2) := by decide +kernel
theorem dX12_crash_127 : decode cX12_crash 127 = .ok (.idiv, 1) := by decide +kernel
theorem dX12_crash_128 : decode cX12_crash 128 = .ok (.iastore, 1) := by decide +kernel
theorem dX12_crash_129 : decode cX12_crash 129 = .ok (.aload_n 0, 1) := by decide +kernel
theorem dX12_crash_130 : decode cX12_crash 130 = .ok (.getfield 9, 3) := by decide +kernel
theorem dX12_crash_133 : decode cX12_crash 133 = .ok (.iload 5, 2) := by decide +kernel
theorem dX12_crash_135 : decode cX12_crash 135 = .ok (.iconst 0, 1) := by decide +kernel
theorem dX12_crash_136 : decode cX12_crash 136 = .ok (.iadd, 1) := by decide +kernel
theorem dX12_crash_137 : decode cX12_crash 137 = .ok (.iconst 1, 1) := by decide +kernel
theorem dX12_crash_138 : decode cX12_crash 138 = .ok (.iadd, 1) := by decide +kernel
theorem dX12_crash_139 : decode cX12_crash 139 = .ok (.iload_n 1, 1) := by decide +kernel
theorem dX12_crash_140 : decode cX12_crash 140 = .ok (.bipush 100, 2) := by decide +kernel
theorem dX12_crash_142 : decode cX12_crash 142 = .ok (.irem, 1) := by decide +kernel
theorem dX12_crash_143 : decode cX12_crash 143 = .ok (.iastore, 1) := by decide +kernel
theorem dX12_crash_144 : decode cX12_crash 144 = .ok (.aload_n 0, 1) := by decide +kernel
theorem dX12_crash_145 : decode cX12_crash 145 = .ok (.getfield 9, 3) := by decide +kernel
theorem dX12_crash_148 : decode cX12_crash 148 = .ok (.iload 5, 2) := by decide +kernel
theorem dX12_crash_150 : decode cX12_crash 150 = .ok (.iconst 2, 1) := by decide +kernel
theorem dX12_crash_151 : decode cX12_crash 151 = .ok (.iadd, 1) := by decide +kernel
theorem dX12_crash_152 : decode cX12_crash 152 = .ok (.iload_n 2, 1) := by decide +kernel
theorem dX12_crash_153 : decode cX12_crash 153 = .ok (.bipush 100, 2) := by decide +kernel
theorem dX12_crash_155 : decode cX12_crash 155 = .ok (.idiv, 1) := by decide +kernel
theorem dX12_crash_156 : decode cX12_crash 156 = .ok (.iastore, 1) := by decide +kernel
theorem dX12_crash_157 : decode cX12_crash 157 = .ok (.aload_n 0, 1) := by decide +kernel
theorem dX12_crash_158 : decode cX12_crash 158 = .ok (.getfield 9, 3) := by decide +kernel
theorem dX12_crash_161 : decode cX12_crash 161 = .ok (.iload 5, 2) := by decide +kernel
theorem dX12_crash_163 : decode cX12_crash 163 = .ok (.iconst 3, 1) := by decide +kernel
theorem dX12_crash_164 : decode cX12_crash 164 = .ok (.iadd, 1) := by decide +kernel
theorem dX12_crash_165 : decode cX12_crash 165 = .ok (.iload_n 2, 1) := by decide +kernel
theorem dX12_crash_166 : decode cX12_crash 166 = .ok (.bipush 100, 2) := by decide +kernel
theorem dX12_crash_168 : decode cX12_crash 168 = .ok (.irem, 1) := by decide +kernel
theorem dX12_crash_169 : decode cX12_crash 169 = .ok (.iastore, 1) := by decide +kernel
theorem dX12_crash_170 : decode cX12_crash 170 = .ok (.aload_n 0, 1) := by decide +kernel
theorem dX12_crash_171 : decode cX12_crash 171 = .ok (.getfield 9, 3) := by decide +kernel
theorem dX12_crash_174 : decode cX12_crash 174 = .ok (.iload 5, 2) := by decide +kernel
theorem dX12_crash_176 : decode cX12_crash 176 = .ok (.iconst 4, 1) := by decide +kernel
theorem dX12_crash_177 : decode cX12_crash 177 = .ok (.iadd, 1) := by decide +kernel
theorem dX12_crash_178 : decode cX12_crash 178 = .ok (.iload_n 3, 1) := by decide +kernel
theorem dX12_crash_179 : decode cX12_crash 179 = .ok (.iastore, 1) := by decide +kernel
theorem dX12_crash_180 : decode cX12_crash 180 = .ok (.aload_n 0, 1) := by decide +kernel
theorem dX12_crash_181 : decode cX12_crash 181 = .ok (.getfield 9, 3) := by decide +kernel
theorem dX12_crash_184 : decode cX12_crash 184 = .ok (.iload 5, 2) := by decide +kernel
theorem dX12_crash_186 : decode cX12_crash 186 = .ok (.iconst 5, 1) := by decide +kernel
theorem dX12_crash_187 : decode cX12_crash 187 = .ok (.iadd, 1) := by decide +kernel
theorem dX12_crash_188 : decode cX12_crash 188 = .ok (.iconst 0, 1) := by decide +kernel
theorem dX12_crash_189 : decode cX12_crash 189 = .ok (.iastore, 1) := by decide +kernel
theorem dX12_crash_190 : decode cX12_crash 190 = .ok (.aload_n 0, 1) := by decide +kernel
theorem dX12_crash_191 : decode cX12_crash 191 = .ok (.getfield 9, 3) := by decide +kernel
theorem dX12_crash_194 : decode cX12_crash 194 = .ok (.iload 5, 2) := by decide +kernel
theorem dX12_crash_196 : decode cX12_crash 196 = .ok (.iconst 5, 1) := by decide +kernel
theorem dX12_crash_197 : decode cX12_crash 197 = .ok (.iadd, 1) := by decide +kernel
theorem dX12_crash_198 : decode cX12_crash 198 = .ok (.iconst 1, 1) := by decide +kernel
theorem dX12_crash_199 : decode cX12_crash 199 = .ok (.iadd, 1) := by decide +kernel
theorem dX12_crash_200 : decode cX12_crash 200 = .ok (.iconst 0, 1) := by decide +kernel
theorem dX12_crash_201 : decode cX12_crash 201 = .ok (.iastore, 1) := by decide +kernel
theorem dX12_crash_202 : decode cX12_crash 202 = .ok (.aload_n 0, 1) := by decide +kernel
theorem dX12_crash_203 : decode cX12_crash 203 = .ok (.getfield 9, 3) := by decide +kernel
theorem dX12_crash_206 : decode cX12_crash 206 = .ok (.iconst 2, 1) := by decide +kernel
theorem dX12_crash_207 : decode cX12_crash 207 = .ok (.dup2, 1) := by decide +kernel
theorem dX12_crash_208 : decode cX12_crash 208 = .ok (.iaload, 1) := by decide +kernel
theorem dX12_crash_209 : decode cX12_crash 209 = .ok (.iconst 1, 1) := by decide +kernel
theorem dX12_crash_210 : decode cX12_crash 210 = .ok (.iadd, 1) := by decide +kernel
theorem dX12_crash_211 : decode cX12_crash 211 = .ok (.iastore, 1) := by decide +kernel
theorem dX12_crash_212 : decode cX12_crash 212 = .ok (.iload 4, 2) := by decide +kernel
theorem dX12_crash_214 : decode cX12_crash 214 = .ok (.ireturn, 1) := by decide +kernel
theorem dX12_crash__0 : decode cX12_crash_ 0 = .ok (.aload_n 0, 1) := by decide +kernel
theorem dX12_crash__1 : decode cX12_crash_ 1 = .ok (.getfield 9, 3) := by decide +kernel
theorem dX12_crash__4 : decode cX12_crash_ 4 = .ok (.sipush 328, 3) := by decide +kernel
theorem dX12_crash__7 : decode cX12_crash_ 7 = .ok (.bipush 7, 2) := by decide +kernel
theorem dX12_crash__9 : decode cX12_crash_ 9 = .ok (.iload_n 1, 1) := by decide +kernel
theorem dX12_crash__10 : decode cX12_crash_ 10 = .ok (.imul, 1) := by decide +kernel
theorem dX12_crash__11 : decode cX12_crash_ 11 = .ok (.iadd, 1) := by decide +kernel
theorem dX12_crash__12 : decode cX12_crash_ 12 = .ok (.iload_n 2, 1) := by decide +kernel
theorem dX12_crash__13 : decode cX12_crash_ 13 = .ok (.iadd, 1) := by decide +kernel
theorem dX12_crash__14 : decode cX12_crash_ 14 = .ok (.iaload, 1) := by decide +kernel
theorem dX12_crash__15 : decode cX12_crash_ 15 = .ok (.ireturn, 1) := by decide +kernel
theorem dX12_isSide_0 : decode cX12_isSide 0 = .ok (.iload_n 0, 1) := by decide +kernel
theorem dX12_isSide_1 : decode cX12_isSide 1 = .ok (.iconst 0, 1) := by decide +kernel
theorem dX12_isSide_2 : decode cX12_isSide 2 = .ok (.iconst 1, 1) := by decide +kernel
theorem dX12_isSide_3 : decode cX12_isSide 3 = .ok (.invokestatic 78, 3) := by decide +kernel
theorem dX12_isSide_6 : decode cX12_isSide 6 = .ok (.ireturn, 1) := by decide +kernel
theorem dX12_allShapes_0 : decode cX12_allShapes 0 = .ok (.iconst 1, 1) := by decide +kernel
theorem dX12_allShapes_1 : decode cX12_allShapes 1 = .ok (.aload_n 0, 1) := by decide +kernel
theorem dX12_allShapes_2 : decode cX12_allShapes 2 = .ok (.getfield 9, 3) := by decide +kernel
theorem dX12_allShapes_5 : decode cX12_allShapes 5 = .ok (.iconst 1, 1) := by decide +kernel
theorem dX12_allShapes_6 : decode cX12_allShapes 6 = .ok (.iaload, 1) := by decide +kernel
theorem dX12_allShapes_7 : decode cX12_allShapes 7 = .ok (.ishl, 1) := by decide +kernel
theorem dX12_allShapes_8 : decode cX12_allShapes 8 = .ok (.iconst 1, 1) := by decide +kernel
theorem dX12_allShapes_9 : decode cX12_allShapes 9 = .ok (.isub, 1) := by decide +kernel
theorem dX12_allShapes_10 : decode cX12_allShapes 10 = .ok (.ireturn, 1) := by decide +kernel
theorem dX12_tells_0 : decode cX12_tells 0 = .ok (.aload_n 0, 1) := by decide +kernel
theorem dX12_tells_1 : decode cX12_tells 1 = .ok (.iload_n 1, 1) := by decide +kernel
theorem dX12_tells_2 : decode cX12_tells 2 = .ok (.iconst 2, 1) := by decide +kernel
theorem dX12_tells_3 : decode cX12_tells 3 = .ok (.invokevirtual 93, 3) := by decide +kernel
theorem dX12_tells_6 : decode cX12_tells 6 = .ok (.ifCond .eq 42, 3) := by decide +kernel
theorem dX12_tells_9 : decode cX12_tells 9 = .ok (.iload_n 2, 1) := by decide +kernel
theorem dX12_tells_10 : decode cX12_tells 10 = .ok (.invokestatic 105, 3) := by decide +kernel
theorem dX12_tells_13 : decode cX12_tells 13 = .ok (.ifCond .eq 35, 3) := by decide +kernel
theorem dX12_tells_16 : decode cX12_tells 16 = .ok (.iload_n 3, 1) := by decide +kernel
theorem dX12_tells_17 : decode cX12_tells 17 = .ok (.iconst 0, 1) := by decide +kernel
theorem dX12_tells_18 : decode cX12_tells 18 = .ok (.aload_n 0, 1) := by decide +kernel
theorem dX12_tells_19 : decode cX12_tells 19 = .ok (.invokevirtual 109, 3) := by decide +kernel
theorem dX12_tells_22 : decode cX12_tells 22 = .ok (.invokestatic 78, 3) := by decide +kernel
theorem dX12_tells_25 : decode cX12_tells 25 = .ok (.ifCond .eq 23, 3) := by decide +kernel
theorem dX12_tells_28 : decode cX12_tells 28 = .ok (.aload_n 0, 1) := by decide +kernel
theorem dX12_tells_29 : decode cX12_tells 29 = .ok (.sipush 328, 3) := by decide +kernel
theorem dX12_tells_32 : decode cX12_tells 32 = .ok (.bipush 7, 2) := by decide +kernel
theorem dX12_tells_34 : decode cX12_tells 34 = .ok (.iload_n 1, 1) := by decide +kernel
theorem dX12_tells_35 : decode cX12_tells 35 = .ok (.imul, 1) := by decide +kernel
theorem dX12_tells_36 : decode cX12_tells 36 = .ok (.iadd, 1) := by decide +kernel
theorem dX12_tells_37 : decode cX12_tells 37 = .ok (.iconst 5, 1) := by decide +kernel
theorem dX12_tells_38 : decode cX12_tells 38 = .ok (.iadd, 1) := by decide +kernel
theorem dX12_tells_39 : decode cX12_tells 39 = .ok (.iload_n 2, 1) := by decide +kernel
theorem dX12_tells_40 : decode cX12_tells 40 = .ok (.iadd, 1) := by decide +kernel
theorem dX12_tells_41 : decode cX12_tells 41 = .ok (.iload_n 3, 1) := by decide +kernel
theorem dX12_tells_42 : decode cX12_tells 42 = .ok (.invokevirtual 100, 3) := by decide +kernel
theorem dX12_tells_45 : decode cX12_tells 45 = .ok (.goto 9, 3) := by decide +kernel
theorem dX12_tells_48 : decode cX12_tells 48 = .ok (.aload_n 0, 1) := by decide +kernel
theorem dX12_tells_49 : decode cX12_tells 49 = .ok (.ldc 83, 2) := by decide +kernel
theorem dX12_tells_51 : decode cX12_tells 51 = .ok (.invokevirtual 84, 3) := by decide +kernel
theorem dX12_tells_54 : decode cX12_tells 54 = .ok (.ireturn, 1) := by decide +kernel
theorem dX12_carOf_0 : decode cX12_carOf 0 = .ok (.aload_n 0, 1) := by decide +kernel
theorem dX12_carOf_1 : decode cX12_carOf 1 = .ok (.iload_n 1, 1) := by decide +kernel
theorem dX12_carOf_2 : decode cX12_carOf 2 = .ok (.iconst 0, 1) := by decide +kernel
theorem dX12_carOf_3 : decode cX12_carOf 3 = .ok (.iload_n 2, 1) := by decide +kernel
theorem dX12_carOf_4 : decode cX12_carOf 4 = .ok (.iadd, 1) := by decide +kernel
theorem dX12_carOf_5 : decode cX12_carOf 5 = .ok (.invokevirtual 113, 3) := by decide +kernel
theorem dX12_carOf_8 : decode cX12_carOf 8 = .ok (.ireturn, 1) := by decide +kernel
theorem dX12_fresh_0 : decode cX12_fresh 0 = .ok (.iload_n 2, 1) := by decide +kernel
theorem dX12_fresh_1 : decode cX12_fresh 1 = .ok (.ifCond .ne 15, 3) := by decide +kernel
theorem dX12_fresh_4 : decode cX12_fresh 4 = .ok (.aload_n 0, 1) := by decide +kernel
theorem dX12_fresh_5 : decode cX12_fresh 5 = .ok (.iload_n 1, 1) := by decide +kernel
theorem dX12_fresh_6 : decode cX12_fresh 6 = .ok (.iconst 4, 1) := by decide +kernel
theorem dX12_fresh_7 : decode cX12_fresh 7 = .ok (.invokevirtual 113, 3) := by decide +kernel
theorem dX12_fresh_10 : decode cX12_fresh 10 = .ok (.bipush 8, 2) := by decide +kernel
theorem dX12_fresh_12 : decode cX12_fresh 12 = .ok (.ishr, 1) := by decide +kernel
theorem dX12_fresh_13 : decode cX12_fresh 13 = .ok (.goto 13, 3) := by decide +kernel
theorem dX12_fresh_16 : decode cX12_fresh 16 = .ok (.aload_n 0, 1) := by decide +kernel
theorem dX12_fresh_17 : decode cX12_fresh 17 = .ok (.iload_n 1, 1) := by decide +kernel
theorem dX12_fresh_18 : decode cX12_fresh 18 = .ok (.iconst 4, 1) := by decide +kernel
theorem dX12_fresh_19 : decode cX12_fresh 19 = .ok (.invokevirtual 113, 3) := by decide +kernel
theorem dX12_fresh_22 : decode cX12_fresh 22 = .ok (.sipush 255, 3) := by decide +kernel
theorem dX12_fresh_25 : decode cX12_fresh 25 = .ok (.iand, 1) := by decide +kernel
theorem dX12_fresh_26 : decode cX12_fresh 26 = .ok (.aload_n 0, 1) := by decide +kernel
theorem dX12_fresh_27 : decode cX12_fresh 27 = .ok (.aload_n 0, 1) := by decide +kernel
theorem dX12_fresh_28 : decode cX12_fresh 28 = .ok (.iload_n 1, 1) := by decide +kernel
theorem dX12_fresh_29 : decode cX12_fresh 29 = .ok (.iload_n 2, 1) := by decide +kernel
theorem dX12_fresh_30 : decode cX12_fresh 30 = .ok (.invokevirtual 116, 3) := by decide +kernel
theorem dX12_fresh_33 : decode cX12_fresh 33 = .ok (.iconst 4, 1) := by decide +kernel
theorem dX12_fresh_34 : decode cX12_fresh 34 = .ok (.invokevirtual 89, 3) := by decide +kernel
theorem dX12_fresh_37 : decode cX12_fresh 37 = .ok (.iconst (-1), 1) := by decide +kernel
theorem dX12_fresh_38 : decode cX12_fresh 38 = .ok (.ixor, 1) := by decide +kernel
theorem dX12_fresh_39 : decode cX12_fresh 39 = .ok (.iand, 1) := by decide +kernel
theorem dX12_fresh_40 : decode cX12_fresh 40 = .ok (.ireturn, 1) := by decide +kernel
theorem dX12_fit_0 : decode cX12_fit 0 = .ok (.sipush 256, 3) := by decide +kernel
theorem dX12_fit_3 : decode cX12_fit 3 = .ok (.aload_n 0, 1) := by decide +kernel
theorem dX12_fit_4 : decode cX12_fit 4 = .ok (.iload_n 1, 1) := by decide +kernel
theorem dX12_fit_5 : decode cX12_fit 5 = .ok (.iconst 0, 1) := by decide +kernel
theorem dX12_fit_6 : decode cX12_fit 6 = .ok (.invokevirtual 119, 3) := by decide +kernel
theorem dX12_fit_9 : decode cX12_fit 9 = .ok (.imul, 1) := by decide +kernel
theorem dX12_fit_10 : decode cX12_fit 10 = .ok (.aload_n 0, 1) := by decide +kernel
theorem dX12_fit_11 : decode cX12_fit 11 = .ok (.iload_n 1, 1) := by decide +kernel
theorem dX12_fit_12 : decode cX12_fit 12 = .ok (.iconst 1, 1) := by decide +kernel
theorem dX12_fit_13 : decode cX12_fit 13 = .ok (.invokevirtual 119, 3) := by decide +kernel
theorem dX12_fit_16 : decode cX12_fit 16 = .ok (.iadd, 1) := by decide +kernel
theorem dX12_fit_17 : decode cX12_fit 17 = .ok (.istore_n 2, 1) := by decide +kernel
theorem dX12_fit_18 : decode cX12_fit 18 = .ok (.iconst 0, 1) := by decide +kernel
theorem dX12_fit_19 : decode cX12_fit 19 = .ok (.istore_n 3, 1) := by decide +kernel
theorem dX12_fit_20 : decode cX12_fit 20 = .ok (.iconst 0, 1) := by decide +kernel
theorem dX12_fit_21 : decode cX12_fit 21 = .ok (.istore 4, 2) := by decide +kernel
theorem dX12_fit_23 : decode cX12_fit 23 = .ok (.iload 4, 2) := by decide +kernel
theorem dX12_fit_25 : decode cX12_fit 25 = .ok (.aload_n 0, 1) := by decide +kernel
theorem dX12_fit_26 : decode cX12_fit 26 = .ok (.getfield 9, 3) := by decide +kernel
theorem dX12_fit_29 : decode cX12_fit 29 = .ok (.iconst 1, 1) := by decide +kernel
theorem dX12_fit_30 : decode cX12_fit 30 = .ok (.iaload, 1) := by decide +kernel
theorem dX12_fit_31 : decode cX12_fit 31 = .ok (.if_icmp .ge 73, 3) := by decide +kernel
theorem dX12_fit_34 : decode cX12_fit 34 = .ok (.aload_n 0, 1) := by decide +kernel
theorem dX12_fit_35 : decode cX12_fit 35 = .ok (.getfield 9, 3) := by decide +kernel
theorem dX12_fit_38 : decode cX12_fit 38 = .ok (.sipush 280, 3) := by decide +kernel
theorem dX12_fit_41 : decode cX12_fit 41 = .ok (.iconst 3, 1) := by decide +kernel
theorem dX12_fit_42 : decode cX12_fit 42 = .ok (.iload 4, 2) := by decide +kernel
theorem dX12_fit_44 : decode cX12_fit 44 = .ok (.imul, 1) := by decide +kernel
theorem dX12_fit_45 : decode cX12_fit 45 = .ok (.iadd, 1) := by decide +kernel
theorem dX12_fit_46 : decode cX12_fit 46 = .ok (.iaload, 1) := by decide +kernel
theorem dX12_fit_47 : decode cX12_fit 47 = .ok (.istore 5, 2) := by decide +kernel
theorem dX12_fit_49 : decode cX12_fit 49 = .ok (.aload_n 0, 1) := by decide +kernel
theorem dX12_fit_50 : decode cX12_fit 50 = .ok (.getfield 9, 3) := by decide +kernel
theorem dX12_fit_53 : decode cX12_fit 53 = .ok (.sipush 280, 3) := by decide +kernel
theorem dX12_fit_56 : decode cX12_fit 56 = .ok (.iconst 3, 1) := by decide +kernel
theorem dX12_fit_57 : decode cX12_fit 57 = .ok (.iload 4, 2) := by decide +kernel
theorem dX12_fit_59 : decode cX12_fit 59 = .ok (.imul, 1) := by decide +kernel
theorem dX12_fit_60 : decode cX12_fit 60 = .ok (.iadd, 1) := by decide +kernel
theorem dX12_fit_61 : decode cX12_fit 61 = .ok (.iconst 1, 1) := by decide +kernel
theorem dX12_fit_62 : decode cX12_fit 62 = .ok (.iadd, 1) := by decide +kernel
theorem dX12_fit_63 : decode cX12_fit 63 = .ok (.iaload, 1) := by decide +kernel
theorem dX12_fit_64 : decode cX12_fit 64 = .ok (.istore 6, 2) := by decide +kernel
theorem dX12_fit_66 : decode cX12_fit 66 = .ok (.iload_n 3, 1) := by decide +kernel
theorem dX12_fit_67 : decode cX12_fit 67 = .ok (.iload 5, 2) := by decide +kernel
theorem dX12_fit_69 : decode cX12_fit 69 = .ok (.iload_n 2, 1) := by decide +kernel
theorem dX12_fit_70 : decode cX12_fit 70 = .ok (.iconst (-1), 1) := by decide +kernel
theorem dX12_fit_71 : decode cX12_fit 71 = .ok (.ixor, 1) := by decide +kernel
theorem dX12_fit_72 : decode cX12_fit 72 = .ok (.iand, 1) := by decide +kernel
theorem dX12_fit_73 : decode cX12_fit 73 = .ok (.ifCond .ne 22, 3) := by decide +kernel
theorem dX12_fit_76 : decode cX12_fit 76 = .ok (.iload_n 2, 1) := by decide +kernel
theorem dX12_fit_77 : decode cX12_fit 77 = .ok (.iload 5, 2) := by decide +kernel
theorem dX12_fit_79 : decode cX12_fit 79 = .ok (.iload 6, 2) := by decide +kernel
theorem dX12_fit_81 : decode cX12_fit 81 = .ok (.ior, 1) := by decide +kernel
theorem dX12_fit_82 : decode cX12_fit 82 = .ok (.iconst (-1), 1) := by decide +kernel
theorem dX12_fit_83 : decode cX12_fit 83 = .ok (.ixor, 1) := by decide +kernel
theorem dX12_fit_84 : decode cX12_fit 84 = .ok (.iand, 1) := by decide +kernel
theorem dX12_fit_85 : decode cX12_fit 85 = .ok (.ifCond .ne 10, 3) := by decide +kernel
theorem dX12_fit_88 : decode cX12_fit 88 = .ok (.iconst 1, 1) := by decide +kernel
theorem dX12_fit_89 : decode cX12_fit 89 = .ok (.iload 4, 2) := by decide +kernel
theorem dX12_fit_91 : decode cX12_fit 91 = .ok (.ishl, 1) := by decide +kernel
theorem dX12_fit_92 : decode cX12_fit 92 = .ok (.goto 4, 3) := by decide +kernel
theorem dX12_fit_95 : decode cX12_fit 95 = .ok (.iconst 0, 1) := by decide +kernel
theorem dX12_fit_96 : decode cX12_fit 96 = .ok (.ior, 1) := by decide +kernel
theorem dX12_fit_97 : decode cX12_fit 97 = .ok (.istore_n 3, 1) := by decide +kernel
theorem dX12_fit_98 : decode cX12_fit 98 = .ok (.iinc 4 1, 3) := by decide +kernel
theorem dX12_fit_101 : decode cX12_fit 101 = .ok (.goto (-78), 3) := by decide +kernel
theorem dX12_fit_104 : decode cX12_fit 104 = .ok (.iload_n 3, 1) := by decide +kernel
theorem dX12_fit_105 : decode cX12_fit 105 = .ok (.ireturn, 1) := by decide +kernel
theorem dX12_toldBy_0 : decode cX12_toldBy 0 = .ok (.aload_n 0, 1) := by decide +kernel
theorem dX12_toldBy_1 : decode cX12_toldBy 1 = .ok (.iload_n 1, 1) := by decide +kernel
theorem dX12_toldBy_2 : decode cX12_toldBy 2 = .ok (.iconst 5, 1) := by decide +kernel
theorem dX12_toldBy_3 : decode cX12_toldBy 3 = .ok (.iload_n 2, 1) := by decide +kernel
theorem dX12_toldBy_4 : decode cX12_toldBy 4 = .ok (.iadd, 1) := by decide +kernel
theorem dX12_toldBy_5 : decode cX12_toldBy 5 = .ok (.invokevirtual 113, 3) := by decide +kernel
theorem dX12_toldBy_8 : decode cX12_toldBy 8 = .ok (.istore_n 3, 1) := by decide +kernel
theorem dX12_toldBy_9 : decode cX12_toldBy 9 = .ok (.iload_n 3, 1) := by decide +kernel
theorem dX12_toldBy_10 : decode cX12_toldBy 10 = .ok (.ifCond .ne 10, 3) := by decide +kernel
theorem dX12_toldBy_13 : decode cX12_toldBy 13 = .ok (.aload_n 0, 1) := by decide +kernel
theorem dX12_toldBy_14 : decode cX12_toldBy 14 = .ok (.invokevirtual 109, 3) := by decide +kernel
theorem dX12_toldBy_17 : decode cX12_toldBy 17 = .ok (.goto 4, 3) := by decide +kernel
theorem dX12_toldBy_20 : decode cX12_toldBy 20 = .ok (.iload_n 3, 1) := by decide +kernel
theorem dX12_toldBy_21 : decode cX12_toldBy 21 = .ok (.ireturn, 1) := by decide +kernel
theorem dX12_left_0 : decode cX12_left 0 = .ok (.aload_n 0, 1) := by decide +kernel
theorem dX12_left_1 : decode cX12_left 1 = .ok (.iload_n 1, 1) := by decide +kernel
theorem dX12_left_2 : decode cX12_left 2 = .ok (.invokevirtual 122, 3) := by decide +kernel
theorem dX12_left_5 : decode cX12_left 5 = .ok (.istore_n 2, 1) := by decide +kernel
theorem dX12_left_6 : decode cX12_left 6 = .ok (.iload_n 2, 1) := by decide +kernel
theorem dX12_left_7 : decode cX12_left 7 = .ok (.aload_n 0, 1) := by decide +kernel
theorem dX12_left_8 : decode cX12_left 8 = .ok (.iload_n 1, 1) := by decide +kernel
theorem dX12_left_9 : decode cX12_left 9 = .ok (.iconst 0, 1) := by decide +kernel
theorem dX12_left_10 : decode cX12_left 10 = .ok (.invokevirtual 125, 3) := by decide +kernel
theorem dX12_left_13 : decode cX12_left 13 = .ok (.iand, 1) := by decide +kernel
theorem dX12_left_14 : decode cX12_left 14 = .ok (.aload_n 0, 1) := by decide +kernel
theorem dX12_left_15 : decode cX12_left 15 = .ok (.iload_n 1, 1) := by decide +kernel
theorem dX12_left_16 : decode cX12_left 16 = .ok (.iconst 1, 1) := by decide +kernel
theorem dX12_left_17 : decode cX12_left 17 = .ok (.invokevirtual 125, 3) := by decide +kernel
theorem dX12_left_20 : decode cX12_left 20 = .ok (.iand, 1) := by decide +kernel
theorem dX12_left_21 : decode cX12_left 21 = .ok (.istore_n 3, 1) := by decide +kernel
theorem dX12_left_22 : decode cX12_left 22 = .ok (.iload_n 2, 1) := by decide +kernel
theorem dX12_left_23 : decode cX12_left 23 = .ok (.aload_n 0, 1) := by decide +kernel
theorem dX12_left_24 : decode cX12_left 24 = .ok (.iload_n 1, 1) := by decide +kernel
theorem dX12_left_25 : decode cX12_left 25 = .ok (.iconst 0, 1) := by decide +kernel
theorem dX12_left_26 : decode cX12_left 26 = .ok (.invokevirtual 125, 3) := by decide +kernel
theorem dX12_left_29 : decode cX12_left 29 = .ok (.aload_n 0, 1) := by decide +kernel
theorem dX12_left_30 : decode cX12_left 30 = .ok (.iload_n 1, 1) := by decide +kernel
theorem dX12_left_31 : decode cX12_left 31 = .ok (.iconst 1, 1) := by decide +kernel
theorem dX12_left_32 : decode cX12_left 32 = .ok (.invokevirtual 125, 3) := by decide +kernel
theorem dX12_left_35 : decode cX12_left 35 = .ok (.ior, 1) := by decide +kernel
theorem dX12_left_36 : decode cX12_left 36 = .ok (.iand, 1) := by decide +kernel
theorem dX12_left_37 : decode cX12_left 37 = .ok (.istore 4, 2) := by decide +kernel
theorem dX12_left_39 : decode cX12_left 39 = .ok (.iload_n 3, 1) := by decide +kernel
theorem dX12_left_40 : decode cX12_left 40 = .ok (.ifCond .eq 7, 3) := by decide +kernel
theorem dX12_left_43 : decode cX12_left 43 = .ok (.iload_n 3, 1) := by decide +kernel
theorem dX12_left_44 : decode cX12_left 44 = .ok (.goto 14, 3) := by decide +kernel
theorem dX12_left_47 : decode cX12_left 47 = .ok (.iload 4, 2) := by decide +kernel
theorem dX12_left_49 : decode cX12_left 49 = .ok (.ifCond .eq 8, 3) := by decide +kernel
theorem dX12_left_52 : decode cX12_left 52 = .ok (.iload 4, 2) := by decide +kernel
theorem dX12_left_54 : decode cX12_left 54 = .ok (.goto 4, 3) := by decide +kernel
theorem dX12_left_57 : decode cX12_left 57 = .ok (.iload_n 2, 1) := by decide +kernel
theorem dX12_left_58 : decode cX12_left 58 = .ok (.ireturn, 1) := by decide +kernel
theorem dX12_end_0 : decode cX12_end 0 = .ok (.iload_n 2, 1) := by decide +kernel
theorem dX12_end_1 : decode cX12_end 1 = .ok (.ifCond .eq 7, 3) := by decide +kernel
theorem dX12_end_4 : decode cX12_end 4 = .ok (.iconst (-1), 1) := by decide +kernel
theorem dX12_end_5 : decode cX12_end 5 = .ok (.goto 5, 3) := by decide +kernel
theorem dX12_end_8 : decode cX12_end 8 = .ok (.bipush 101, 2) := by decide +kernel
theorem dX12_end_10 : decode cX12_end 10 = .ok (.istore_n 3, 1) := by decide +kernel
theorem dX12_end_11 : decode cX12_end 11 = .ok (.iconst 0, 1) := by decide +kernel
theorem dX12_end_12 : decode cX12_end 12 = .ok (.istore 4, 2) := by decide +kernel
theorem dX12_end_14 : decode cX12_end 14 = .ok (.iload 4, 2) := by decide +kernel
theorem dX12_end_16 : decode cX12_end 16 = .ok (.aload_n 0, 1) := by decide +kernel
theorem dX12_end_17 : decode cX12_end 17 = .ok (.getfield 9, 3) := by decide +kernel
theorem dX12_end_20 : decode cX12_end 20 = .ok (.iconst 1, 1) := by decide +kernel
theorem dX12_end_21 : decode cX12_end 21 = .ok (.iaload, 1) := by decide +kernel
theorem dX12_end_22 : decode cX12_end 22 = .ok (.if_icmp .ge 61, 3) := by decide +kernel
theorem dX12_end_25 : decode cX12_end 25 = .ok (.aload_n 0, 1) := by decide +kernel
theorem dX12_end_26 : decode cX12_end 26 = .ok (.getfield 9, 3) := by decide +kernel
theorem dX12_end_29 : decode cX12_end 29 = .ok (.sipush 280, 3) := by decide +kernel
theorem dX12_end_32 : decode cX12_end 32 = .ok (.iconst 3, 1) := by decide +kernel
theorem dX12_end_33 : decode cX12_end 33 = .ok (.iload 4, 2) := by decide +kernel
theorem dX12_end_35 : decode cX12_end 35 = .ok (.imul, 1) := by decide +kernel
theorem dX12_end_36 : decode cX12_end 36 = .ok (.iadd, 1) := by decide +kernel
theorem dX12_end_37 : decode cX12_end 37 = .ok (.iconst 2, 1) := by decide +kernel
theorem dX12_end_38 : decode cX12_end 38 = .ok (.iadd, 1) := by decide +kernel
theorem dX12_end_39 : decode cX12_end 39 = .ok (.iaload, 1) := by decide +kernel
theorem dX12_end_40 : decode cX12_end 40 = .ok (.istore 5, 2) := by decide +kernel
theorem dX12_end_42 : decode cX12_end 42 = .ok (.iload_n 1, 1) := by decide +kernel
theorem dX12_end_43 : decode cX12_end 43 = .ok (.iload 4, 2) := by decide +kernel
theorem dX12_end_45 : decode cX12_end 45 = .ok (.invokestatic 128, 3) := by decide +kernel
theorem dX12_end_48 : decode cX12_end 48 = .ok (.ifCond .eq 27, 3) := by decide +kernel
theorem dX12_end_51 : decode cX12_end 51 = .ok (.iload_n 2, 1) := by decide +kernel
theorem dX12_end_52 : decode cX12_end 52 = .ok (.ifCond .eq 12, 3) := by decide +kernel
theorem dX12_end_55 : decode cX12_end 55 = .ok (.iload 5, 2) := by decide +kernel
theorem dX12_end_57 : decode cX12_end 57 = .ok (.iload_n 3, 1) := by decide +kernel
theorem dX12_end_58 : decode cX12_end 58 = .ok (.if_icmp .le 17, 3) := by decide +kernel
theorem dX12_end_61 : decode cX12_end 61 = .ok (.goto 9, 3) := by decide +kernel
theorem dX12_end_64 : decode cX12_end 64 = .ok (.iload 5, 2) := by decide +kernel
theorem dX12_end_66 : decode cX12_end 66 = .ok (.iload_n 3, 1) := by decide +kernel
theorem dX12_end_67 : decode cX12_end 67 = .ok (.if_icmp .ge 8, 3) := by decide +kernel
theorem dX12_end_70 : decode cX12_end 70 = .ok (.iload 5, 2) := by decide +kernel
theorem dX12_end_72 : decode cX12_end 72 = .ok (.goto 4, 3) := by decide +kernel
theorem dX12_end_75 : decode cX12_end 75 = .ok (.iload_n 3, 1) := by decide +kernel
theorem dX12_end_76 : decode cX12_end 76 = .ok (.istore_n 3, 1) := by decide +kernel
theorem dX12_end_77 : decode cX12_end 77 = .ok (.iinc 4 1, 3) := by decide +kernel
theorem dX12_end_80 : decode cX12_end 80 = .ok (.goto (-66), 3) := by decide +kernel
theorem dX12_end_83 : decode cX12_end 83 = .ok (.iload_n 1, 1) := by decide +kernel
theorem dX12_end_84 : decode cX12_end 84 = .ok (.ifCond .ne 16, 3) := by decide +kernel
theorem dX12_end_87 : decode cX12_end 87 = .ok (.iload_n 2, 1) := by decide +kernel
theorem dX12_end_88 : decode cX12_end 88 = .ok (.ifCond .eq 8, 3) := by decide +kernel
theorem dX12_end_91 : decode cX12_end 91 = .ok (.bipush 100, 2) := by decide +kernel
theorem dX12_end_93 : decode cX12_end 93 = .ok (.goto 8, 3) := by decide +kernel
theorem dX12_end_96 : decode cX12_end 96 = .ok (.iconst 0, 1) := by decide +kernel
theorem dX12_end_97 : decode cX12_end 97 = .ok (.goto 4, 3) := by decide +kernel
theorem dX12_end_100 : decode cX12_end 100 = .ok (.iload_n 3, 1) := by decide +kernel
theorem dX12_end_101 : decode cX12_end 101 = .ok (.ireturn, 1) := by decide +kernel
theorem dX12_hold_0 : decode cX12_hold 0 = .ok (.iconst 0, 1) := by decide +kernel
theorem dX12_hold_1 : decode cX12_hold 1 = .ok (.iload_n 1, 1) := by decide +kernel
theorem dX12_hold_2 : decode cX12_hold 2 = .ok (.iload_n 0, 1) := by decide +kernel
theorem dX12_hold_3 : decode cX12_hold 3 = .ok (.invokestatic 131, 3) := by decide +kernel
theorem dX12_hold_6 : decode cX12_hold 6 = .ok (.invokestatic 136, 3) := by decide +kernel
theorem dX12_hold_9 : decode cX12_hold 9 = .ok (.ireturn, 1) := by decide +kernel
theorem dX12_agreed_0 : decode cX12_agreed 0 = .ok (.aload_n 0, 1) := by decide +kernel
theorem dX12_agreed_1 : decode cX12_agreed 1 = .ok (.iload_n 1, 1) := by decide +kernel
theorem dX12_agreed_2 : decode cX12_agreed 2 = .ok (.invokevirtual 139, 3) := by decide +kernel
theorem dX12_agreed_5 : decode cX12_agreed 5 = .ok (.istore_n 2, 1) := by decide +kernel
theorem dX12_agreed_6 : decode cX12_agreed 6 = .ok (.aload_n 0, 1) := by decide +kernel
theorem dX12_agreed_7 : decode cX12_agreed 7 = .ok (.iconst 0, 1) := by decide +kernel
theorem dX12_agreed_8 : decode cX12_agreed 8 = .ok (.aload_n 0, 1) := by decide +kernel
theorem dX12_agreed_9 : decode cX12_agreed 9 = .ok (.iload_n 1, 1) := by decide +kernel
theorem dX12_agreed_10 : decode cX12_agreed 10 = .ok (.iconst 2, 1) := by decide +kernel
theorem dX12_agreed_11 : decode cX12_agreed 11 = .ok (.invokevirtual 113, 3) := by decide +kernel
theorem dX12_agreed_14 : decode cX12_agreed 14 = .ok (.invokevirtual 142, 3) := by decide +kernel
theorem dX12_agreed_17 : decode cX12_agreed 17 = .ok (.istore_n 3, 1) := by decide +kernel
theorem dX12_agreed_18 : decode cX12_agreed 18 = .ok (.aload_n 0, 1) := by decide +kernel
theorem dX12_agreed_19 : decode cX12_agreed 19 = .ok (.iload_n 2, 1) := by decide +kernel
theorem dX12_agreed_20 : decode cX12_agreed 20 = .ok (.iconst 0, 1) := by decide +kernel
theorem dX12_agreed_21 : decode cX12_agreed 21 = .ok (.invokevirtual 145, 3) := by decide +kernel
theorem dX12_agreed_24 : decode cX12_agreed 24 = .ok (.istore 4, 2) := by decide +kernel
theorem dX12_agreed_26 : decode cX12_agreed 26 = .ok (.aload_n 0, 1) := by decide +kernel
theorem dX12_agreed_27 : decode cX12_agreed 27 = .ok (.iload_n 2, 1) := by decide +kernel
theorem dX12_agreed_28 : decode cX12_agreed 28 = .ok (.iconst 1, 1) := by decide +kernel
theorem dX12_agreed_29 : decode cX12_agreed 29 = .ok (.invokevirtual 145, 3) := by decide +kernel
theorem dX12_agreed_32 : decode cX12_agreed 32 = .ok (.istore 5, 2) := by decide +kernel
theorem dX12_agreed_34 : decode cX12_agreed 34 = .ok (.iload_n 3, 1) := by decide +kernel
theorem dX12_agreed_35 : decode cX12_agreed 35 = .ok (.ifCond .ge 13, 3) := by decide +kernel
theorem dX12_agreed_38 : decode cX12_agreed 38 = .ok (.iload 4, 2) := by decide +kernel
theorem dX12_agreed_40 : decode cX12_agreed 40 = .ok (.iload 5, 2) := by decide +kernel
theorem dX12_agreed_42 : decode cX12_agreed 42 = .ok (.iadd, 1) := by decide +kernel
theorem dX12_agreed_43 : decode cX12_agreed 43 = .ok (.iconst 2, 1) := by decide +kernel
theorem dX12_agreed_44 : decode cX12_agreed 44 = .ok (.idiv, 1) := by decide +kernel
theorem dX12_agreed_45 : decode cX12_agreed 45 = .ok (.goto 22, 3) := by decide +kernel
theorem dX12_agreed_48 : decode cX12_agreed 48 = .ok (.aload_n 0, 1) := by decide +kernel
theorem dX12_agreed_49 : decode cX12_agreed 49 = .ok (.iload_n 3, 1) := by decide +kernel
theorem dX12_agreed_50 : decode cX12_agreed 50 = .ok (.iload 4, 2) := by decide +kernel
theorem dX12_agreed_52 : decode cX12_agreed 52 = .ok (.iload 5, 2) := by decide +kernel
theorem dX12_agreed_54 : decode cX12_agreed 54 = .ok (.iload_n 2, 1) := by decide +kernel
theorem dX12_agreed_55 : decode cX12_agreed 55 = .ok (.invokestatic 149, 3) := by decide +kernel
theorem dX12_agreed_58 : decode cX12_agreed 58 = .ok (.aload_n 0, 1) := by decide +kernel
theorem dX12_agreed_59 : decode cX12_agreed 59 = .ok (.iload_n 1, 1) := by decide +kernel
theorem dX12_agreed_60 : decode cX12_agreed 60 = .ok (.iconst 3, 1) := by decide +kernel
theorem dX12_agreed_61 : decode cX12_agreed 61 = .ok (.invokevirtual 113, 3) := by decide +kernel
theorem dX12_agreed_64 : decode cX12_agreed 64 = .ok (.invokevirtual 152, 3) := by decide +kernel
theorem dX12_agreed_67 : decode cX12_agreed 67 = .ok (.bipush 100, 2) := by decide +kernel
theorem dX12_agreed_69 : decode cX12_agreed 69 = .ok (.invokestatic 156, 3) := by decide +kernel
theorem dX12_agreed_72 : decode cX12_agreed 72 = .ok (.ireturn, 1) := by decide +kernel
theorem dX12_crashIs_0 : decode cX12_crashIs 0 = .ok (.aload_n 0, 1) := by decide +kernel
theorem dX12_crashIs_1 : decode cX12_crashIs 1 = .ok (.iload_n 1, 1) := by decide +kernel
theorem dX12_crashIs_2 : decode cX12_crashIs 2 = .ok (.iconst 2, 1) := by decide +kernel
theorem dX12_crashIs_3 : decode cX12_crashIs 3 = .ok (.invokevirtual 93, 3) := by decide +kernel
theorem dX12_crashIs_6 : decode cX12_crashIs 6 = .ok (.ifCond .eq 13, 3) := by decide +kernel
theorem dX12_crashIs_9 : decode cX12_crashIs 9 = .ok (.iload_n 2, 1) := by decide +kernel
theorem dX12_crashIs_10 : decode cX12_crashIs 10 = .ok (.iconst 0, 1) := by decide +kernel
theorem dX12_crashIs_11 : decode cX12_crashIs 11 = .ok (.bipush 10, 2) := by decide +kernel
theorem dX12_crashIs_13 : decode cX12_crashIs 13 = .ok (.invokestatic 78, 3) := by decide +kernel
theorem dX12_crashIs_16 : decode cX12_crashIs 16 = .ok (.ifCond .ne 10, 3) := by decide +kernel
theorem dX12_crashIs_19 : decode cX12_crashIs 19 = .ok (.aload_n 0, 1) := by decide +kernel
theorem dX12_crashIs_20 : decode cX12_crashIs 20 = .ok (.ldc 83, 2) := by decide +kernel
theorem dX12_crashIs_22 : decode cX12_crashIs 22 = .ok (.invokevirtual 84, 3) := by decide +kernel
theorem dX12_crashIs_25 : decode cX12_crashIs 25 = .ok (.ireturn, 1) := by decide +kernel
theorem dX12_crashIs_26 : decode cX12_crashIs 26 = .ok (.iload_n 2, 1) := by decide +kernel
theorem dX12_crashIs_27 : decode cX12_crashIs 27 = .ok (.tableswitch 89 4 10 #[41, 41, 50, 56, 62, 62, 83], 41) := by decide +kernel
theorem dX12_crashIs_68 : decode cX12_crashIs 68 = .ok (.aload_n 0, 1) := by decide +kernel
theorem dX12_crashIs_69 : decode cX12_crashIs 69 = .ok (.iload_n 1, 1) := by decide +kernel
theorem dX12_crashIs_70 : decode cX12_crashIs 70 = .ok (.iload_n 2, 1) := by decide +kernel
theorem dX12_crashIs_71 : decode cX12_crashIs 71 = .ok (.iconst 4, 1) := by decide +kernel
theorem dX12_crashIs_72 : decode cX12_crashIs 72 = .ok (.isub, 1) := by decide +kernel
theorem dX12_crashIs_73 : decode cX12_crashIs 73 = .ok (.invokevirtual 119, 3) := by decide +kernel
theorem dX12_crashIs_76 : decode cX12_crashIs 76 = .ok (.ireturn, 1) := by decide +kernel
theorem dX12_crashIs_77 : decode cX12_crashIs 77 = .ok (.aload_n 0, 1) := by decide +kernel
theorem dX12_crashIs_78 : decode cX12_crashIs 78 = .ok (.iload_n 1, 1) := by decide +kernel
theorem dX12_crashIs_79 : decode cX12_crashIs 79 = .ok (.invokevirtual 122, 3) := by decide +kernel
theorem dX12_crashIs_82 : decode cX12_crashIs 82 = .ok (.ireturn, 1) := by decide +kernel
theorem dX12_crashIs_83 : decode cX12_crashIs 83 = .ok (.aload_n 0, 1) := by decide +kernel
theorem dX12_crashIs_84 : decode cX12_crashIs 84 = .ok (.iload_n 1, 1) := by decide +kernel
theorem dX12_crashIs_85 : decode cX12_crashIs 85 = .ok (.invokevirtual 139, 3) := by decide +kernel
theorem dX12_crashIs_88 : decode cX12_crashIs 88 = .ok (.ireturn, 1) := by decide +kernel
theorem dX12_crashIs_89 : decode cX12_crashIs 89 = .ok (.aload_n 0, 1) := by decide +kernel
theorem dX12_crashIs_90 : decode cX12_crashIs 90 = .ok (.aload_n 0, 1) := by decide +kernel
theorem dX12_crashIs_91 : decode cX12_crashIs 91 = .ok (.iload_n 1, 1) := by decide +kernel
theorem dX12_crashIs_92 : decode cX12_crashIs 92 = .ok (.invokevirtual 139, 3) := by decide +kernel
theorem dX12_crashIs_95 : decode cX12_crashIs 95 = .ok (.iload_n 2, 1) := by decide +kernel
theorem dX12_crashIs_96 : decode cX12_crashIs 96 = .ok (.bipush 9, 2) := by decide +kernel
theorem dX12_crashIs_98 : decode cX12_crashIs 98 = .ok (.if_icmp .ne 7, 3) := by decide +kernel
theorem dX12_crashIs_101 : decode cX12_crashIs 101 = .ok (.iconst 1, 1) := by decide +kernel
theorem dX12_crashIs_102 : decode cX12_crashIs 102 = .ok (.goto 4, 3) := by decide +kernel
theorem dX12_crashIs_105 : decode cX12_crashIs 105 = .ok (.iconst 0, 1) := by decide +kernel
theorem dX12_crashIs_106 : decode cX12_crashIs 106 = .ok (.invokevirtual 145, 3) := by decide +kernel
theorem dX12_crashIs_109 : decode cX12_crashIs 109 = .ok (.ireturn, 1) := by decide +kernel
theorem dX12_crashIs_110 : decode cX12_crashIs 110 = .ok (.aload_n 0, 1) := by decide +kernel
theorem dX12_crashIs_111 : decode cX12_crashIs 111 = .ok (.iload_n 1, 1) := by decide +kernel
theorem dX12_crashIs_112 : decode cX12_crashIs 112 = .ok (.invokevirtual 159, 3) := by decide +kernel
theorem dX12_crashIs_115 : decode cX12_crashIs 115 = .ok (.ireturn, 1) := by decide +kernel
theorem dX12_crashIs_116 : decode cX12_crashIs 116 = .ok (.aload_n 0, 1) := by decide +kernel
theorem dX12_crashIs_117 : decode cX12_crashIs 117 = .ok (.iload_n 1, 1) := by decide +kernel
theorem dX12_crashIs_118 : decode cX12_crashIs 118 = .ok (.iload_n 2, 1) := by decide +kernel
theorem dX12_crashIs_119 : decode cX12_crashIs 119 = .ok (.invokevirtual 113, 3) := by decide +kernel
theorem dX12_crashIs_122 : decode cX12_crashIs 122 = .ok (.ireturn, 1) := by decide +kernel
theorem dX12_zone_0 : decode cX12_zone 0 = .ok (.iload_n 1, 1) := by decide +kernel
theorem dX12_zone_1 : decode cX12_zone 1 = .ok (.iconst 0, 1) := by decide +kernel
theorem dX12_zone_2 : decode cX12_zone 2 = .ok (.bipush 7, 2) := by decide +kernel
theorem dX12_zone_4 : decode cX12_zone 4 = .ok (.invokestatic 78, 3) := by decide +kernel
theorem dX12_zone_7 : decode cX12_zone 7 = .ok (.ifCond .eq 58, 3) := by decide +kernel
theorem dX12_zone_10 : decode cX12_zone 10 = .ok (.iload_n 2, 1) := by decide +kernel
theorem dX12_zone_11 : decode cX12_zone 11 = .ok (.ifCond .ne 17, 3) := by decide +kernel
theorem dX12_zone_14 : decode cX12_zone 14 = .ok (.iload_n 3, 1) := by decide +kernel
theorem dX12_zone_15 : decode cX12_zone 15 = .ok (.iconst 0, 1) := by decide +kernel
theorem dX12_zone_16 : decode cX12_zone 16 = .ok (.sipush 9999, 3) := by decide +kernel
theorem dX12_zone_19 : decode cX12_zone 19 = .ok (.invokestatic 78, 3) := by decide +kernel
theorem dX12_zone_22 : decode cX12_zone 22 = .ok (.ifCond .eq 43, 3) := by decide +kernel
theorem dX12_zone_25 : decode cX12_zone 25 = .ok (.goto 36, 3) := by decide +kernel
theorem dX12_zone_28 : decode cX12_zone 28 = .ok (.iload_n 2, 1) := by decide +kernel
theorem dX12_zone_29 : decode cX12_zone 29 = .ok (.iconst 1, 1) := by decide +kernel
theorem dX12_zone_30 : decode cX12_zone 30 = .ok (.if_icmp .ne 16, 3) := by decide +kernel
theorem dX12_zone_33 : decode cX12_zone 33 = .ok (.iload_n 3, 1) := by decide +kernel
theorem dX12_zone_34 : decode cX12_zone 34 = .ok (.iconst 0, 1) := by decide +kernel
theorem dX12_zone_35 : decode cX12_zone 35 = .ok (.bipush 99, 2) := by decide +kernel
theorem dX12_zone_37 : decode cX12_zone 37 = .ok (.invokestatic 78, 3) := by decide +kernel
theorem dX12_zone_40 : decode cX12_zone 40 = .ok (.ifCond .eq 25, 3) := by decide +kernel
theorem dX12_zone_43 : decode cX12_zone 43 = .ok (.goto 18, 3) := by decide +kernel
theorem dX12_zone_46 : decode cX12_zone 46 = .ok (.iload_n 2, 1) := by decide +kernel
theorem dX12_zone_47 : decode cX12_zone 47 = .ok (.iconst 2, 1) := by decide +kernel
theorem dX12_zone_48 : decode cX12_zone 48 = .ok (.if_icmp .ne 17, 3) := by decide +kernel
theorem dX12_zone_51 : decode cX12_zone 51 = .ok (.iload_n 3, 1) := by decide +kernel
theorem dX12_zone_52 : decode cX12_zone 52 = .ok (.iconst 0, 1) := by decide +kernel
theorem dX12_zone_53 : decode cX12_zone 53 = .ok (.bipush 60, 2) := by decide +kernel
theorem dX12_zone_55 : decode cX12_zone 55 = .ok (.invokestatic 78, 3) := by decide +kernel
theorem dX12_zone_58 : decode cX12_zone 58 = .ok (.ifCond .eq 7, 3) := by decide +kernel
theorem dX12_zone_61 : decode cX12_zone 61 = .ok (.iconst 1, 1) := by decide +kernel
theorem dX12_zone_62 : decode cX12_zone 62 = .ok (.goto 4, 3) := by decide +kernel
theorem dX12_zone_65 : decode cX12_zone 65 = .ok (.iconst 0, 1) := by decide +kernel
theorem dX12_zone_66 : decode cX12_zone 66 = .ok (.istore 4, 2) := by decide +kernel
theorem dX12_zone_68 : decode cX12_zone 68 = .ok (.iload 4, 2) := by decide +kernel
theorem dX12_zone_70 : decode cX12_zone 70 = .ok (.ifCond .eq 19, 3) := by decide +kernel
theorem dX12_zone_73 : decode cX12_zone 73 = .ok (.aload_n 0, 1) := by decide +kernel
theorem dX12_zone_74 : decode cX12_zone 74 = .ok (.bipush 16, 2) := by decide +kernel
theorem dX12_zone_76 : decode cX12_zone 76 = .ok (.iconst 3, 1) := by decide +kernel
theorem dX12_zone_77 : decode cX12_zone 77 = .ok (.iload_n 1, 1) := by decide +kernel
theorem dX12_zone_78 : decode cX12_zone 78 = .ok (.imul, 1) := by decide +kernel
theorem dX12_zone_79 : decode cX12_zone 79 = .ok (.iadd, 1) := by decide +kernel
theorem dX12_zone_80 : decode cX12_zone 80 = .ok (.iload_n 2, 1) := by decide +kernel
theorem dX12_zone_81 : decode cX12_zone 81 = .ok (.iadd, 1) := by decide +kernel
theorem dX12_zone_82 : decode cX12_zone 82 = .ok (.iload_n 3, 1) := by decide +kernel
theorem dX12_zone_83 : decode cX12_zone 83 = .ok (.invokevirtual 100, 3) := by decide +kernel
theorem dX12_zone_86 : decode cX12_zone 86 = .ok (.goto 9, 3) := by decide +kernel
theorem dX12_zone_89 : decode cX12_zone 89 = .ok (.aload_n 0, 1) := by decide +kernel
theorem dX12_zone_90 : decode cX12_zone 90 = .ok (.ldc 83, 2) := by decide +kernel
theorem dX12_zone_92 : decode cX12_zone 92 = .ok (.invokevirtual 84, 3) := by decide +kernel
theorem dX12_zone_95 : decode cX12_zone 95 = .ok (.ireturn, 1) := by decide +kernel
theorem dX12_rate_0 : decode cX12_rate 0 = .ok (.iload_n 1, 1) := by decide +kernel
theorem dX12_rate_1 : decode cX12_rate 1 = .ok (.iconst 0, 1) := by decide +kernel
theorem dX12_rate_2 : decode cX12_rate 2 = .ok (.bipush 6, 2) := by decide +kernel
theorem dX12_rate_4 : decode cX12_rate 4 = .ok (.invokestatic 78, 3) := by decide +kernel
theorem dX12_rate_7 : decode cX12_rate 7 = .ok (.ifCond .eq 29, 3) := by decide +kernel
theorem dX12_rate_10 : decode cX12_rate 10 = .ok (.iload_n 2, 1) := by decide +kernel
theorem dX12_rate_11 : decode cX12_rate 11 = .ok (.iconst 0, 1) := by decide +kernel
theorem dX12_rate_12 : decode cX12_rate 12 = .ok (.aload_n 0, 1) := by decide +kernel
theorem dX12_rate_13 : decode cX12_rate 13 = .ok (.getfield 19, 3) := by decide +kernel
theorem dX12_rate_16 : decode cX12_rate 16 = .ok (.iload_n 1, 1) := by decide +kernel
theorem dX12_rate_17 : decode cX12_rate 17 = .ok (.iaload, 1) := by decide +kernel
theorem dX12_rate_18 : decode cX12_rate 18 = .ok (.invokestatic 78, 3) := by decide +kernel
theorem dX12_rate_21 : decode cX12_rate 21 = .ok (.ifCond .eq 15, 3) := by decide +kernel
theorem dX12_rate_24 : decode cX12_rate 24 = .ok (.aload_n 0, 1) := by decide +kernel
theorem dX12_rate_25 : decode cX12_rate 25 = .ok (.bipush 8, 2) := by decide +kernel
theorem dX12_rate_27 : decode cX12_rate 27 = .ok (.iload_n 1, 1) := by decide +kernel
theorem dX12_rate_28 : decode cX12_rate 28 = .ok (.iadd, 1) := by decide +kernel
theorem dX12_rate_29 : decode cX12_rate 29 = .ok (.iload_n 2, 1) := by decide +kernel
theorem dX12_rate_30 : decode cX12_rate 30 = .ok (.invokevirtual 100, 3) := by decide +kernel
theorem dX12_rate_33 : decode cX12_rate 33 = .ok (.goto 9, 3) := by decide +kernel
theorem dX12_rate_36 : decode cX12_rate 36 = .ok (.aload_n 0, 1) := by decide +kernel
theorem dX12_rate_37 : decode cX12_rate 37 = .ok (.ldc 83, 2) := by decide +kernel
theorem dX12_rate_39 : decode cX12_rate 39 = .ok (.invokevirtual 84, 3) := by decide +kernel
theorem dX12_rate_42 : decode cX12_rate 42 = .ok (.ireturn, 1) := by decide +kernel
theorem dX12_zonesOf_0 : decode cX12_zonesOf 0 = .ok (.iconst 0, 1) := by decide +kernel
theorem dX12_zonesOf_1 : decode cX12_zonesOf 1 = .ok (.istore 4, 2) := by decide +kernel
theorem dX12_zonesOf_3 : decode cX12_zonesOf 3 = .ok (.iconst 0, 1) := by decide +kernel
theorem dX12_zonesOf_4 : decode cX12_zonesOf 4 = .ok (.istore 5, 2) := by decide +kernel
theorem dX12_zonesOf_6 : decode cX12_zonesOf 6 = .ok (.iload 5, 2) := by decide +kernel
theorem dX12_zonesOf_8 : decode cX12_zonesOf 8 = .ok (.bipush 8, 2) := by decide +kernel
theorem dX12_zonesOf_10 : decode cX12_zonesOf 10 = .ok (.if_icmp .ge 65, 3) := by decide +kernel
theorem dX12_zonesOf_13 : decode cX12_zonesOf 13 = .ok (.aload_n 0, 1) := by decide +kernel
theorem dX12_zonesOf_14 : decode cX12_zonesOf 14 = .ok (.iload_n 1, 1) := by decide +kernel
theorem dX12_zonesOf_15 : decode cX12_zonesOf 15 = .ok (.iload_n 2, 1) := by decide +kernel
theorem dX12_zonesOf_16 : decode cX12_zonesOf 16 = .ok (.invokevirtual 119, 3) := by decide +kernel
theorem dX12_zonesOf_19 : decode cX12_zonesOf 19 = .ok (.iload 5, 2) := by decide +kernel
theorem dX12_zonesOf_21 : decode cX12_zonesOf 21 = .ok (.invokestatic 128, 3) := by decide +kernel
theorem dX12_zonesOf_24 : decode cX12_zonesOf 24 = .ok (.ifCond .eq 20, 3) := by decide +kernel
theorem dX12_zonesOf_27 : decode cX12_zonesOf 27 = .ok (.aload_n 0, 1) := by decide +kernel
theorem dX12_zonesOf_28 : decode cX12_zonesOf 28 = .ok (.getfield 9, 3) := by decide +kernel
theorem dX12_zonesOf_31 : decode cX12_zonesOf 31 = .ok (.bipush 16, 2) := by decide +kernel
theorem dX12_zonesOf_33 : decode cX12_zonesOf 33 = .ok (.iconst 3, 1) := by decide +kernel
theorem dX12_zonesOf_34 : decode cX12_zonesOf 34 = .ok (.iload 5, 2) := by decide +kernel
theorem dX12_zonesOf_36 : decode cX12_zonesOf 36 = .ok (.imul, 1) := by decide +kernel
theorem dX12_zonesOf_37 : decode cX12_zonesOf 37 = .ok (.iadd, 1) := by decide +kernel
theorem dX12_zonesOf_38 : decode cX12_zonesOf 38 = .ok (.iload_n 3, 1) := by decide +kernel
theorem dX12_zonesOf_39 : decode cX12_zonesOf 39 = .ok (.iadd, 1) := by decide +kernel
theorem dX12_zonesOf_40 : decode cX12_zonesOf 40 = .ok (.iaload, 1) := by decide +kernel
theorem dX12_zonesOf_41 : decode cX12_zonesOf 41 = .ok (.goto 4, 3) := by decide +kernel
theorem dX12_zonesOf_44 : decode cX12_zonesOf 44 = .ok (.iconst 0, 1) := by decide +kernel
theorem dX12_zonesOf_45 : decode cX12_zonesOf 45 = .ok (.istore 6, 2) := by decide +kernel
theorem dX12_zonesOf_47 : decode cX12_zonesOf 47 = .ok (.iload_n 3, 1) := by decide +kernel
theorem dX12_zonesOf_48 : decode cX12_zonesOf 48 = .ok (.iconst 2, 1) := by decide +kernel
theorem dX12_zonesOf_49 : decode cX12_zonesOf 49 = .ok (.if_icmp .ne 13, 3) := by decide +kernel
theorem dX12_zonesOf_52 : decode cX12_zonesOf 52 = .ok (.iload 4, 2) := by decide +kernel
theorem dX12_zonesOf_54 : decode cX12_zonesOf 54 = .ok (.iload 6, 2) := by decide +kernel
theorem dX12_zonesOf_56 : decode cX12_zonesOf 56 = .ok (.invokestatic 136, 3) := by decide +kernel
theorem dX12_zonesOf_59 : decode cX12_zonesOf 59 = .ok (.goto 8, 3) := by decide +kernel
theorem dX12_zonesOf_62 : decode cX12_zonesOf 62 = .ok (.iload 4, 2) := by decide +kernel
theorem dX12_zonesOf_64 : decode cX12_zonesOf 64 = .ok (.iload 6, 2) := by decide +kernel
theorem dX12_zonesOf_66 : decode cX12_zonesOf 66 = .ok (.iadd, 1) := by decide +kernel
theorem dX12_zonesOf_67 : decode cX12_zonesOf 67 = .ok (.istore 4, 2) := by decide +kernel
theorem dX12_zonesOf_69 : decode cX12_zonesOf 69 = .ok (.iinc 5 1, 3) := by decide +kernel
theorem dX12_zonesOf_72 : decode cX12_zonesOf 72 = .ok (.goto (-66), 3) := by decide +kernel
theorem dX12_zonesOf_75 : decode cX12_zonesOf 75 = .ok (.iload 4, 2) := by decide +kernel
theorem dX12_zonesOf_77 : decode cX12_zonesOf 77 = .ok (.ireturn, 1) := by decide +kernel
theorem dX12_repair_0 : decode cX12_repair 0 = .ok (.aload_n 0, 1) := by decide +kernel
theorem dX12_repair_1 : decode cX12_repair 1 = .ok (.iload_n 1, 1) := by decide +kernel
theorem dX12_repair_2 : decode cX12_repair 2 = .ok (.iload_n 2, 1) := by decide +kernel
theorem dX12_repair_3 : decode cX12_repair 3 = .ok (.iconst 0, 1) := by decide +kernel
theorem dX12_repair_4 : decode cX12_repair 4 = .ok (.invokevirtual 162, 3) := by decide +kernel
theorem dX12_repair_7 : decode cX12_repair 7 = .ok (.aload_n 0, 1) := by decide +kernel
theorem dX12_repair_8 : decode cX12_repair 8 = .ok (.iload_n 1, 1) := by decide +kernel
theorem dX12_repair_9 : decode cX12_repair 9 = .ok (.iload_n 2, 1) := by decide +kernel
theorem dX12_repair_10 : decode cX12_repair 10 = .ok (.iconst 1, 1) := by decide +kernel
theorem dX12_repair_11 : decode cX12_repair 11 = .ok (.invokevirtual 162, 3) := by decide +kernel
theorem dX12_repair_14 : decode cX12_repair 14 = .ok (.aload_n 0, 1) := by decide +kernel
theorem dX12_repair_15 : decode cX12_repair 15 = .ok (.getfield 9, 3) := by decide +kernel
theorem dX12_repair_18 : decode cX12_repair 18 = .ok (.bipush 8, 2) := by decide +kernel
theorem dX12_repair_20 : decode cX12_repair 20 = .ok (.iaload, 1) := by decide +kernel
theorem dX12_repair_21 : decode cX12_repair 21 = .ok (.imul, 1) := by decide +kernel
theorem dX12_repair_22 : decode cX12_repair 22 = .ok (.iadd, 1) := by decide +kernel
theorem dX12_repair_23 : decode cX12_repair 23 = .ok (.ireturn, 1) := by decide +kernel
theorem dX12_isTotal_0 : decode cX12_isTotal 0 = .ok (.ldc2_w 166, 3) := by decide +kernel
theorem dX12_isTotal_3 : decode cX12_isTotal 3 = .ok (.aload_n 0, 1) := by decide +kernel
theorem dX12_isTotal_4 : decode cX12_isTotal 4 = .ok (.iload_n 1, 1) := by decide +kernel
theorem dX12_isTotal_5 : decode cX12_isTotal 5 = .ok (.iload_n 2, 1) := by decide +kernel
theorem dX12_isTotal_6 : decode cX12_isTotal 6 = .ok (.invokevirtual 168, 3) := by decide +kernel
theorem dX12_isTotal_9 : decode cX12_isTotal 9 = .ok (.i2l, 1) := by decide +kernel
theorem dX12_isTotal_10 : decode cX12_isTotal 10 = .ok (.lmul, 1) := by decide +kernel
theorem dX12_isTotal_11 : decode cX12_isTotal 11 = .ok (.aload_n 0, 1) := by decide +kernel
theorem dX12_isTotal_12 : decode cX12_isTotal 12 = .ok (.getfield 9, 3) := by decide +kernel
theorem dX12_isTotal_15 : decode cX12_isTotal 15 = .ok (.bipush 10, 2) := by decide +kernel
theorem dX12_isTotal_17 : decode cX12_isTotal 17 = .ok (.iaload, 1) := by decide +kernel
theorem dX12_isTotal_18 : decode cX12_isTotal 18 = .ok (.i2l, 1) := by decide +kernel
theorem dX12_isTotal_19 : decode cX12_isTotal 19 = .ok (.aload_n 0, 1) := by decide +kernel
theorem dX12_isTotal_20 : decode cX12_isTotal 20 = .ok (.aload_n 0, 1) := by decide +kernel
theorem dX12_isTotal_21 : decode cX12_isTotal 21 = .ok (.iload_n 1, 1) := by decide +kernel
theorem dX12_isTotal_22 : decode cX12_isTotal 22 = .ok (.iload_n 2, 1) := by decide +kernel
theorem dX12_isTotal_23 : decode cX12_isTotal 23 = .ok (.invokevirtual 116, 3) := by decide +kernel
theorem dX12_isTotal_26 : decode cX12_isTotal 26 = .ok (.invokevirtual 97, 3) := by decide +kernel
theorem dX12_isTotal_29 : decode cX12_isTotal 29 = .ok (.i2l, 1) := by decide +kernel
theorem dX12_isTotal_30 : decode cX12_isTotal 30 = .ok (.lmul, 1) := by decide +kernel
theorem dX12_isTotal_31 : decode cX12_isTotal 31 = .ok (.lcmp, 1) := by decide +kernel
theorem dX12_isTotal_32 : decode cX12_isTotal 32 = .ok (.ifCond .le 7, 3) := by decide +kernel
theorem dX12_isTotal_35 : decode cX12_isTotal 35 = .ok (.iconst 1, 1) := by decide +kernel
theorem dX12_isTotal_36 : decode cX12_isTotal 36 = .ok (.goto 4, 3) := by decide +kernel
theorem dX12_isTotal_39 : decode cX12_isTotal 39 = .ok (.iconst 0, 1) := by decide +kernel
theorem dX12_isTotal_40 : decode cX12_isTotal 40 = .ok (.ireturn, 1) := by decide +kernel
theorem dX12_lossOf_0 : decode cX12_lossOf 0 = .ok (.aload_n 0, 1) := by decide +kernel
theorem dX12_lossOf_1 : decode cX12_lossOf 1 = .ok (.aload_n 0, 1) := by decide +kernel
theorem dX12_lossOf_2 : decode cX12_lossOf 2 = .ok (.iload_n 1, 1) := by decide +kernel
theorem dX12_lossOf_3 : decode cX12_lossOf 3 = .ok (.iload_n 2, 1) := by decide +kernel
theorem dX12_lossOf_4 : decode cX12_lossOf 4 = .ok (.invokevirtual 116, 3) := by decide +kernel
theorem dX12_lossOf_7 : decode cX12_lossOf 7 = .ok (.invokevirtual 97, 3) := by decide +kernel
theorem dX12_lossOf_10 : decode cX12_lossOf 10 = .ok (.istore_n 3, 1) := by decide +kernel
theorem dX12_lossOf_11 : decode cX12_lossOf 11 = .ok (.aload_n 0, 1) := by decide +kernel
theorem dX12_lossOf_12 : decode cX12_lossOf 12 = .ok (.iload_n 1, 1) := by decide +kernel
theorem dX12_lossOf_13 : decode cX12_lossOf 13 = .ok (.iload_n 2, 1) := by decide +kernel
theorem dX12_lossOf_14 : decode cX12_lossOf 14 = .ok (.invokevirtual 171, 3) := by decide +kernel
theorem dX12_lossOf_17 : decode cX12_lossOf 17 = .ok (.ifCond .eq 20, 3) := by decide +kernel
theorem dX12_lossOf_20 : decode cX12_lossOf 20 = .ok (.iload_n 3, 1) := by decide +kernel
theorem dX12_lossOf_21 : decode cX12_lossOf 21 = .ok (.iload_n 3, 1) := by decide +kernel
theorem dX12_lossOf_22 : decode cX12_lossOf 22 = .ok (.aload_n 0, 1) := by decide +kernel
theorem dX12_lossOf_23 : decode cX12_lossOf 23 = .ok (.getfield 9, 3) := by decide +kernel
theorem dX12_lossOf_26 : decode cX12_lossOf 26 = .ok (.bipush 11, 2) := by decide +kernel
theorem dX12_lossOf_28 : decode cX12_lossOf 28 = .ok (.iaload, 1) := by decide +kernel
theorem dX12_lossOf_29 : decode cX12_lossOf 29 = .ok (.imul, 1) := by decide +kernel
theorem dX12_lossOf_30 : decode cX12_lossOf 30 = .ok (.bipush 100, 2) := by decide +kernel
theorem dX12_lossOf_32 : decode cX12_lossOf 32 = .ok (.idiv, 1) := by decide +kernel
theorem dX12_lossOf_33 : decode cX12_lossOf 33 = .ok (.isub, 1) := by decide +kernel
theorem dX12_lossOf_34 : decode cX12_lossOf 34 = .ok (.goto 9, 3) := by decide +kernel
theorem dX12_lossOf_37 : decode cX12_lossOf 37 = .ok (.aload_n 0, 1) := by decide +kernel
theorem dX12_lossOf_38 : decode cX12_lossOf 38 = .ok (.iload_n 1, 1) := by decide +kernel
theorem dX12_lossOf_39 : decode cX12_lossOf 39 = .ok (.iload_n 2, 1) := by decide +kernel
theorem dX12_lossOf_40 : decode cX12_lossOf 40 = .ok (.invokevirtual 168, 3) := by decide +kernel
theorem dX12_lossOf_43 : decode cX12_lossOf 43 = .ok (.ireturn, 1) := by decide +kernel
theorem dX12_hireDays_0 : decode cX12_hireDays 0 = .ok (.aload_n 0, 1) := by decide +kernel
theorem dX12_hireDays_1 : decode cX12_hireDays 1 = .ok (.iload_n 1, 1) := by decide +kernel
theorem dX12_hireDays_2 : decode cX12_hireDays 2 = .ok (.iload_n 2, 1) := by decide +kernel
theorem dX12_hireDays_3 : decode cX12_hireDays 3 = .ok (.invokevirtual 171, 3) := by decide +kernel
theorem dX12_hireDays_6 : decode cX12_hireDays 6 = .ok (.ifCond .eq 8, 3) := by decide +kernel
theorem dX12_hireDays_9 : decode cX12_hireDays 9 = .ok (.bipush 14, 2) := by decide +kernel
theorem dX12_hireDays_11 : decode cX12_hireDays 11 = .ok (.goto 24, 3) := by decide +kernel
theorem dX12_hireDays_14 : decode cX12_hireDays 14 = .ok (.aload_n 0, 1) := by decide +kernel
theorem dX12_hireDays_15 : decode cX12_hireDays 15 = .ok (.iload_n 1, 1) := by decide +kernel
theorem dX12_hireDays_16 : decode cX12_hireDays 16 = .ok (.iload_n 2, 1) := by decide +kernel
theorem dX12_hireDays_17 : decode cX12_hireDays 17 = .ok (.iconst 2, 1) := by decide +kernel
theorem dX12_hireDays_18 : decode cX12_hireDays 18 = .ok (.invokevirtual 162, 3) := by decide +kernel
theorem dX12_hireDays_21 : decode cX12_hireDays 21 = .ok (.aload_n 0, 1) := by decide +kernel
theorem dX12_hireDays_22 : decode cX12_hireDays 22 = .ok (.iload_n 1, 1) := by decide +kernel
theorem dX12_hireDays_23 : decode cX12_hireDays 23 = .ok (.iload_n 2, 1) := by decide +kernel
theorem dX12_hireDays_24 : decode cX12_hireDays 24 = .ok (.iconst 1, 1) := by decide +kernel
theorem dX12_hireDays_25 : decode cX12_hireDays 25 = .ok (.invokevirtual 162, 3) := by decide +kernel
theorem dX12_hireDays_28 : decode cX12_hireDays 28 = .ok (.bipush 7, 2) := by decide +kernel
theorem dX12_hireDays_30 : decode cX12_hireDays 30 = .ok (.iadd, 1) := by decide +kernel
theorem dX12_hireDays_31 : decode cX12_hireDays 31 = .ok (.bipush 8, 2) := by decide +kernel
theorem dX12_hireDays_33 : decode cX12_hireDays 33 = .ok (.idiv, 1) := by decide +kernel
theorem dX12_hireDays_34 : decode cX12_hireDays 34 = .ok (.iadd, 1) := by decide +kernel
theorem dX12_hireDays_35 : decode cX12_hireDays 35 = .ok (.ireturn, 1) := by decide +kernel
theorem dX12_claimOf_0 : decode cX12_claimOf 0 = .ok (.iload_n 2, 1) := by decide +kernel
theorem dX12_claimOf_1 : decode cX12_claimOf 1 = .ok (.ifCond .ne 14, 3) := by decide +kernel
theorem dX12_claimOf_4 : decode cX12_claimOf 4 = .ok (.bipush 100, 2) := by decide +kernel
theorem dX12_claimOf_6 : decode cX12_claimOf 6 = .ok (.aload_n 0, 1) := by decide +kernel
theorem dX12_claimOf_7 : decode cX12_claimOf 7 = .ok (.iload_n 1, 1) := by decide +kernel
theorem dX12_claimOf_8 : decode cX12_claimOf 8 = .ok (.invokevirtual 159, 3) := by decide +kernel
theorem dX12_claimOf_11 : decode cX12_claimOf 11 = .ok (.isub, 1) := by decide +kernel
theorem dX12_claimOf_12 : decode cX12_claimOf 12 = .ok (.goto 8, 3) := by decide +kernel
theorem dX12_claimOf_15 : decode cX12_claimOf 15 = .ok (.aload_n 0, 1) := by decide +kernel
theorem dX12_claimOf_16 : decode cX12_claimOf 16 = .ok (.iload_n 1, 1) := by decide +kernel
theorem dX12_claimOf_17 : decode cX12_claimOf 17 = .ok (.invokevirtual 159, 3) := by decide +kernel
theorem dX12_claimOf_20 : decode cX12_claimOf 20 = .ok (.istore_n 3, 1) := by decide +kernel
theorem dX12_claimOf_21 : decode cX12_claimOf 21 = .ok (.aload_n 0, 1) := by decide +kernel
theorem dX12_claimOf_22 : decode cX12_claimOf 22 = .ok (.iload_n 1, 1) := by decide +kernel
theorem dX12_claimOf_23 : decode cX12_claimOf 23 = .ok (.iload_n 2, 1) := by decide +kernel
theorem dX12_claimOf_24 : decode cX12_claimOf 24 = .ok (.invokevirtual 174, 3) := by decide +kernel
theorem dX12_claimOf_27 : decode cX12_claimOf 27 = .ok (.aload_n 0, 1) := by decide +kernel
theorem dX12_claimOf_28 : decode cX12_claimOf 28 = .ok (.iload_n 1, 1) := by decide +kernel
theorem dX12_claimOf_29 : decode cX12_claimOf 29 = .ok (.iload_n 2, 1) := by decide +kernel
theorem dX12_claimOf_30 : decode cX12_claimOf 30 = .ok (.invokevirtual 177, 3) := by decide +kernel
theorem dX12_claimOf_33 : decode cX12_claimOf 33 = .ok (.aload_n 0, 1) := by decide +kernel
theorem dX12_claimOf_34 : decode cX12_claimOf 34 = .ok (.getfield 9, 3) := by decide +kernel
theorem dX12_claimOf_37 : decode cX12_claimOf 37 = .ok (.bipush 12, 2) := by decide +kernel
theorem dX12_claimOf_39 : decode cX12_claimOf 39 = .ok (.iaload, 1) := by decide +kernel
theorem dX12_claimOf_40 : decode cX12_claimOf 40 = .ok (.imul, 1) := by decide +kernel
theorem dX12_claimOf_41 : decode cX12_claimOf 41 = .ok (.iadd, 1) := by decide +kernel
theorem dX12_claimOf_42 : decode cX12_claimOf 42 = .ok (.iload_n 3, 1) := by decide +kernel
theorem dX12_claimOf_43 : decode cX12_claimOf 43 = .ok (.imul, 1) := by decide +kernel
theorem dX12_claimOf_44 : decode cX12_claimOf 44 = .ok (.bipush 100, 2) := by decide +kernel
theorem dX12_claimOf_46 : decode cX12_claimOf 46 = .ok (.idiv, 1) := by decide +kernel
theorem dX12_claimOf_47 : decode cX12_claimOf 47 = .ok (.ireturn, 1) := by decide +kernel
theorem dX12_worth_0 : decode cX12_worth 0 = .ok (.aload_n 0, 1) := by decide +kernel
theorem dX12_worth_1 : decode cX12_worth 1 = .ok (.iload_n 1, 1) := by decide +kernel
theorem dX12_worth_2 : decode cX12_worth 2 = .ok (.iconst 2, 1) := by decide +kernel
theorem dX12_worth_3 : decode cX12_worth 3 = .ok (.invokevirtual 93, 3) := by decide +kernel
theorem dX12_worth_6 : decode cX12_worth 6 = .ok (.ifCond .eq 19, 3) := by decide +kernel
theorem dX12_worth_9 : decode cX12_worth 9 = .ok (.iload_n 2, 1) := by decide +kernel
theorem dX12_worth_10 : decode cX12_worth 10 = .ok (.invokestatic 105, 3) := by decide +kernel
theorem dX12_worth_13 : decode cX12_worth 13 = .ok (.ifCond .eq 12, 3) := by decide +kernel
theorem dX12_worth_16 : decode cX12_worth 16 = .ok (.iload_n 3, 1) := by decide +kernel
theorem dX12_worth_17 : decode cX12_worth 17 = .ok (.iconst 0, 1) := by decide +kernel
theorem dX12_worth_18 : decode cX12_worth 18 = .ok (.iconst 5, 1) := by decide +kernel
theorem dX12_worth_19 : decode cX12_worth 19 = .ok (.invokestatic 78, 3) := by decide +kernel
theorem dX12_worth_22 : decode cX12_worth 22 = .ok (.ifCond .ne 10, 3) := by decide +kernel
theorem dX12_worth_25 : decode cX12_worth 25 = .ok (.aload_n 0, 1) := by decide +kernel
theorem dX12_worth_26 : decode cX12_worth 26 = .ok (.ldc 83, 2) := by decide +kernel
theorem dX12_worth_28 : decode cX12_worth 28 = .ok (.invokevirtual 84, 3) := by decide +kernel
theorem dX12_worth_31 : decode cX12_worth 31 = .ok (.ireturn, 1) := by decide +kernel
theorem dX12_worth_32 : decode cX12_worth 32 = .ok (.iload_n 3, 1) := by decide +kernel
theorem dX12_worth_33 : decode cX12_worth 33 = .ok (.tableswitch 92 0 4 #[35, 42, 57, 64, 71], 35) := by decide +kernel
theorem dX12_worth_68 : decode cX12_worth 68 = .ok (.aload_n 0, 1) := by decide +kernel
theorem dX12_worth_69 : decode cX12_worth 69 = .ok (.iload_n 1, 1) := by decide +kernel
theorem dX12_worth_70 : decode cX12_worth 70 = .ok (.iload_n 2, 1) := by decide +kernel
theorem dX12_worth_71 : decode cX12_worth 71 = .ok (.invokevirtual 168, 3) := by decide +kernel
theorem dX12_worth_74 : decode cX12_worth 74 = .ok (.ireturn, 1) := by decide +kernel
theorem dX12_worth_75 : decode cX12_worth 75 = .ok (.aload_n 0, 1) := by decide +kernel
theorem dX12_worth_76 : decode cX12_worth 76 = .ok (.iload_n 1, 1) := by decide +kernel
theorem dX12_worth_77 : decode cX12_worth 77 = .ok (.iload_n 2, 1) := by decide +kernel
theorem dX12_worth_78 : decode cX12_worth 78 = .ok (.invokevirtual 171, 3) := by decide +kernel
theorem dX12_worth_81 : decode cX12_worth 81 = .ok (.ifCond .eq 7, 3) := by decide +kernel
theorem dX12_worth_84 : decode cX12_worth 84 = .ok (.iconst 1, 1) := by decide +kernel
theorem dX12_worth_85 : decode cX12_worth 85 = .ok (.goto 4, 3) := by decide +kernel
theorem dX12_worth_88 : decode cX12_worth 88 = .ok (.iconst 0, 1) := by decide +kernel
theorem dX12_worth_89 : decode cX12_worth 89 = .ok (.ireturn, 1) := by decide +kernel
theorem dX12_worth_90 : decode cX12_worth 90 = .ok (.aload_n 0, 1) := by decide +kernel
theorem dX12_worth_91 : decode cX12_worth 91 = .ok (.iload_n 1, 1) := by decide +kernel
theorem dX12_worth_92 : decode cX12_worth 92 = .ok (.iload_n 2, 1) := by decide +kernel
theorem dX12_worth_93 : decode cX12_worth 93 = .ok (.invokevirtual 174, 3) := by decide +kernel
theorem dX12_worth_96 : decode cX12_worth 96 = .ok (.ireturn, 1) := by decide +kernel
theorem dX12_worth_97 : decode cX12_worth 97 = .ok (.aload_n 0, 1) := by decide +kernel
theorem dX12_worth_98 : decode cX12_worth 98 = .ok (.iload_n 1, 1) := by decide +kernel
theorem dX12_worth_99 : decode cX12_worth 99 = .ok (.iload_n 2, 1) := by decide +kernel
theorem dX12_worth_100 : decode cX12_worth 100 = .ok (.invokevirtual 177, 3) := by decide +kernel
theorem dX12_worth_103 : decode cX12_worth 103 = .ok (.ireturn, 1) := by decide +kernel
theorem dX12_worth_104 : decode cX12_worth 104 = .ok (.aload_n 0, 1) := by decide +kernel
theorem dX12_worth_105 : decode cX12_worth 105 = .ok (.iload_n 1, 1) := by decide +kernel
theorem dX12_worth_106 : decode cX12_worth 106 = .ok (.iload_n 2, 1) := by decide +kernel
theorem dX12_worth_107 : decode cX12_worth 107 = .ok (.invokevirtual 171, 3) := by decide +kernel
theorem dX12_worth_110 : decode cX12_worth 110 = .ok (.ifCond .eq 7, 3) := by decide +kernel
theorem dX12_worth_113 : decode cX12_worth 113 = .ok (.iconst 0, 1) := by decide +kernel
theorem dX12_worth_114 : decode cX12_worth 114 = .ok (.goto 10, 3) := by decide +kernel
theorem dX12_worth_117 : decode cX12_worth 117 = .ok (.aload_n 0, 1) := by decide +kernel
theorem dX12_worth_118 : decode cX12_worth 118 = .ok (.iload_n 1, 1) := by decide +kernel
theorem dX12_worth_119 : decode cX12_worth 119 = .ok (.iload_n 2, 1) := by decide +kernel
theorem dX12_worth_120 : decode cX12_worth 120 = .ok (.iconst 2, 1) := by decide +kernel
theorem dX12_worth_121 : decode cX12_worth 121 = .ok (.invokevirtual 162, 3) := by decide +kernel
theorem dX12_worth_124 : decode cX12_worth 124 = .ok (.ireturn, 1) := by decide +kernel
theorem dX12_worth_125 : decode cX12_worth 125 = .ok (.aload_n 0, 1) := by decide +kernel
theorem dX12_worth_126 : decode cX12_worth 126 = .ok (.iload_n 1, 1) := by decide +kernel
theorem dX12_worth_127 : decode cX12_worth 127 = .ok (.iload_n 2, 1) := by decide +kernel
theorem dX12_worth_128 : decode cX12_worth 128 = .ok (.invokevirtual 180, 3) := by decide +kernel
theorem dX12_worth_131 : decode cX12_worth 131 = .ok (.ireturn, 1) := by decide +kernel
theorem dX12_back_0 : decode cX12_back 0 = .ok (.aload_n 0, 1) := by decide +kernel
theorem dX12_back_1 : decode cX12_back 1 = .ok (.iload_n 1, 1) := by decide +kernel
theorem dX12_back_2 : decode cX12_back 2 = .ok (.iconst 2, 1) := by decide +kernel
theorem dX12_back_3 : decode cX12_back 3 = .ok (.invokevirtual 93, 3) := by decide +kernel
theorem dX12_back_6 : decode cX12_back 6 = .ok (.ifCond .eq 20, 3) := by decide +kernel
theorem dX12_back_9 : decode cX12_back 9 = .ok (.iload_n 2, 1) := by decide +kernel
theorem dX12_back_10 : decode cX12_back 10 = .ok (.invokestatic 105, 3) := by decide +kernel
theorem dX12_back_13 : decode cX12_back 13 = .ok (.ifCond .eq 13, 3) := by decide +kernel
theorem dX12_back_16 : decode cX12_back 16 = .ok (.iload_n 3, 1) := by decide +kernel
theorem dX12_back_17 : decode cX12_back 17 = .ok (.iconst 0, 1) := by decide +kernel
theorem dX12_back_18 : decode cX12_back 18 = .ok (.ldc 183, 2) := by decide +kernel
theorem dX12_back_20 : decode cX12_back 20 = .ok (.invokestatic 78, 3) := by decide +kernel
theorem dX12_back_23 : decode cX12_back 23 = .ok (.ifCond .ne 10, 3) := by decide +kernel
theorem dX12_back_26 : decode cX12_back 26 = .ok (.aload_n 0, 1) := by decide +kernel
theorem dX12_back_27 : decode cX12_back 27 = .ok (.ldc 83, 2) := by decide +kernel
theorem dX12_back_29 : decode cX12_back 29 = .ok (.invokevirtual 84, 3) := by decide +kernel
theorem dX12_back_32 : decode cX12_back 32 = .ok (.ireturn, 1) := by decide +kernel
theorem dX12_back_33 : decode cX12_back 33 = .ok (.aload_n 0, 1) := by decide +kernel
theorem dX12_back_34 : decode cX12_back 34 = .ok (.iconst 1, 1) := by decide +kernel
theorem dX12_back_35 : decode cX12_back 35 = .ok (.aload_n 0, 1) := by decide +kernel
theorem dX12_back_36 : decode cX12_back 36 = .ok (.iload_n 1, 1) := by decide +kernel
theorem dX12_back_37 : decode cX12_back 37 = .ok (.iconst 2, 1) := by decide +kernel
theorem dX12_back_38 : decode cX12_back 38 = .ok (.invokevirtual 113, 3) := by decide +kernel
theorem dX12_back_41 : decode cX12_back 41 = .ok (.invokevirtual 142, 3) := by decide +kernel
theorem dX12_back_44 : decode cX12_back 44 = .ok (.istore 4, 2) := by decide +kernel
theorem dX12_back_46 : decode cX12_back 46 = .ok (.aload_n 0, 1) := by decide +kernel
theorem dX12_back_47 : decode cX12_back 47 = .ok (.aload_n 0, 1) := by decide +kernel
theorem dX12_back_48 : decode cX12_back 48 = .ok (.iload_n 1, 1) := by decide +kernel
theorem dX12_back_49 : decode cX12_back 49 = .ok (.iload_n 2, 1) := by decide +kernel
theorem dX12_back_50 : decode cX12_back 50 = .ok (.invokevirtual 116, 3) := by decide +kernel
theorem dX12_back_53 : decode cX12_back 53 = .ok (.iconst 3, 1) := by decide +kernel
theorem dX12_back_54 : decode cX12_back 54 = .ok (.invokevirtual 89, 3) := by decide +kernel
theorem dX12_back_57 : decode cX12_back 57 = .ok (.istore 5, 2) := by decide +kernel
theorem dX12_back_59 : decode cX12_back 59 = .ok (.iload 4, 2) := by decide +kernel
theorem dX12_back_61 : decode cX12_back 61 = .ok (.ifCond .ge 12, 3) := by decide +kernel
theorem dX12_back_64 : decode cX12_back 64 = .ok (.iload_n 3, 1) := by decide +kernel
theorem dX12_back_65 : decode cX12_back 65 = .ok (.iload 5, 2) := by decide +kernel
theorem dX12_back_67 : decode cX12_back 67 = .ok (.invokestatic 131, 3) := by decide +kernel
theorem dX12_back_70 : decode cX12_back 70 = .ok (.goto 19, 3) := by decide +kernel
theorem dX12_back_73 : decode cX12_back 73 = .ok (.aload_n 0, 1) := by decide +kernel
theorem dX12_back_74 : decode cX12_back 74 = .ok (.iload 4, 2) := by decide +kernel
theorem dX12_back_76 : decode cX12_back 76 = .ok (.iload_n 3, 1) := by decide +kernel
theorem dX12_back_77 : decode cX12_back 77 = .ok (.iload 5, 2) := by decide +kernel
theorem dX12_back_79 : decode cX12_back 79 = .ok (.aload_n 0, 1) := by decide +kernel
theorem dX12_back_80 : decode cX12_back 80 = .ok (.iload_n 1, 1) := by decide +kernel
theorem dX12_back_81 : decode cX12_back 81 = .ok (.iload_n 2, 1) := by decide +kernel
theorem dX12_back_82 : decode cX12_back 82 = .ok (.invokevirtual 174, 3) := by decide +kernel
theorem dX12_back_85 : decode cX12_back 85 = .ok (.iconst 0, 1) := by decide +kernel
theorem dX12_back_86 : decode cX12_back 86 = .ok (.invokevirtual 152, 3) := by decide +kernel
theorem dX12_back_89 : decode cX12_back 89 = .ok (.iload_n 3, 1) := by decide +kernel
theorem dX12_back_90 : decode cX12_back 90 = .ok (.invokestatic 156, 3) := by decide +kernel
theorem dX12_back_93 : decode cX12_back 93 = .ok (.ireturn, 1) := by decide +kernel
theorem dX12_feed_0 : decode cX12_feed 0 = .ok (.iload_n 3, 1) := by decide +kernel
theorem dX12_feed_1 : decode cX12_feed 1 = .ok (.iconst 1, 1) := by decide +kernel
theorem dX12_feed_2 : decode cX12_feed 2 = .ok (.bipush 8, 2) := by decide +kernel
theorem dX12_feed_4 : decode cX12_feed 4 = .ok (.invokestatic 78, 3) := by decide +kernel
theorem dX12_feed_7 : decode cX12_feed 7 = .ok (.ifCond .ne 10, 3) := by decide +kernel
theorem dX12_feed_10 : decode cX12_feed 10 = .ok (.aload_n 0, 1) := by decide +kernel
theorem dX12_feed_11 : decode cX12_feed 11 = .ok (.ldc 83, 2) := by decide +kernel
theorem dX12_feed_13 : decode cX12_feed 13 = .ok (.invokevirtual 84, 3) := by decide +kernel
theorem dX12_feed_16 : decode cX12_feed 16 = .ok (.ireturn, 1) := by decide +kernel
theorem dX12_feed_17 : decode cX12_feed 17 = .ok (.aload_n 0, 1) := by decide +kernel
theorem dX12_feed_18 : decode cX12_feed 18 = .ok (.getfield 9, 3) := by decide +kernel
theorem dX12_feed_21 : decode cX12_feed 21 = .ok (.iconst 5, 1) := by decide +kernel
theorem dX12_feed_22 : decode cX12_feed 22 = .ok (.iaload, 1) := by decide +kernel
theorem dX12_feed_23 : decode cX12_feed 23 = .ok (.iload_n 3, 1) := by decide +kernel
theorem dX12_feed_24 : decode cX12_feed 24 = .ok (.iadd, 1) := by decide +kernel
theorem dX12_feed_25 : decode cX12_feed 25 = .ok (.bipush 60, 2) := by decide +kernel
theorem dX12_feed_27 : decode cX12_feed 27 = .ok (.if_icmp .le 10, 3) := by decide +kernel
theorem dX12_feed_30 : decode cX12_feed 30 = .ok (.aload_n 0, 1) := by decide +kernel
theorem dX12_feed_31 : decode cX12_feed 31 = .ok (.ldc 88, 2) := by decide +kernel
theorem dX12_feed_33 : decode cX12_feed 33 = .ok (.invokevirtual 84, 3) := by decide +kernel
theorem dX12_feed_36 : decode cX12_feed 36 = .ok (.ireturn, 1) := by decide +kernel
theorem dX12_feed_37 : decode cX12_feed 37 = .ok (.iconst 0, 1) := by decide +kernel
theorem dX12_feed_38 : decode cX12_feed 38 = .ok (.istore 4, 2) := by decide +kernel
theorem dX12_feed_40 : decode cX12_feed 40 = .ok (.iload 4, 2) := by decide +kernel
theorem dX12_feed_42 : decode cX12_feed 42 = .ok (.iload_n 3, 1) := by decide +kernel
theorem dX12_feed_43 : decode cX12_feed 43 = .ok (.if_icmp .ge 46, 3) := by decide +kernel
theorem dX12_feed_46 : decode cX12_feed 46 = .ok (.aload_n 0, 1) := by decide +kernel
theorem dX12_feed_47 : decode cX12_feed 47 = .ok (.getfield 9, 3) := by decide +kernel
theorem dX12_feed_50 : decode cX12_feed 50 = .ok (.sipush 1328, 3) := by decide +kernel
theorem dX12_feed_53 : decode cX12_feed 53 = .ok (.aload_n 0, 1) := by decide +kernel
theorem dX12_feed_54 : decode cX12_feed 54 = .ok (.getfield 9, 3) := by decide +kernel
theorem dX12_feed_57 : decode cX12_feed 57 = .ok (.iconst 5, 1) := by decide +kernel
theorem dX12_feed_58 : decode cX12_feed 58 = .ok (.iaload, 1) := by decide +kernel
theorem dX12_feed_59 : decode cX12_feed 59 = .ok (.iadd, 1) := by decide +kernel
theorem dX12_feed_60 : decode cX12_feed 60 = .ok (.lload_n 1, 1) := by decide +kernel
theorem dX12_feed_61 : decode cX12_feed 61 = .ok (.bipush 8, 2) := by decide +kernel
theorem dX12_feed_63 : decode cX12_feed 63 = .ok (.iload 4, 2) := by decide +kernel
theorem dX12_feed_65 : decode cX12_feed 65 = .ok (.imul, 1) := by decide +kernel
theorem dX12_feed_66 : decode cX12_feed 66 = .ok (.lshr, 1) := by decide +kernel
theorem dX12_feed_67 : decode cX12_feed 67 = .ok (.ldc2_w 184, 3) := by decide +kernel
theorem dX12_feed_70 : decode cX12_feed 70 = .ok (.land, 1) := by decide +kernel
theorem dX12_feed_71 : decode cX12_feed 71 = .ok (.l2i, 1) := by decide +kernel
theorem dX12_feed_72 : decode cX12_feed 72 = .ok (.iastore, 1) := by decide +kernel
theorem dX12_feed_73 : decode cX12_feed 73 = .ok (.aload_n 0, 1) := by decide +kernel
theorem dX12_feed_74 : decode cX12_feed 74 = .ok (.getfield 9, 3) := by decide +kernel
theorem dX12_feed_77 : decode cX12_feed 77 = .ok (.iconst 5, 1) := by decide +kernel
theorem dX12_feed_78 : decode cX12_feed 78 = .ok (.dup2, 1) := by decide +kernel
theorem dX12_feed_79 : decode cX12_feed 79 = .ok (.iaload, 1) := by decide +kernel
theorem dX12_feed_80 : decode cX12_feed 80 = .ok (.iconst 1, 1) := by decide +kernel
theorem dX12_feed_81 : decode cX12_feed 81 = .ok (.iadd, 1) := by decide +kernel
theorem dX12_feed_82 : decode cX12_feed 82 = .ok (.iastore, 1) := by decide +kernel
theorem dX12_feed_83 : decode cX12_feed 83 = .ok (.iinc 4 1, 3) := by decide +kernel
theorem dX12_feed_86 : decode cX12_feed 86 = .ok (.goto (-46), 3) := by decide +kernel
theorem dX12_feed_89 : decode cX12_feed 89 = .ok (.aload_n 0, 1) := by decide +kernel
theorem dX12_feed_90 : decode cX12_feed 90 = .ok (.getfield 9, 3) := by decide +kernel
theorem dX12_feed_93 : decode cX12_feed 93 = .ok (.iconst 5, 1) := by decide +kernel
theorem dX12_feed_94 : decode cX12_feed 94 = .ok (.iaload, 1) := by decide +kernel
theorem dX12_feed_95 : decode cX12_feed 95 = .ok (.ireturn, 1) := by decide +kernel
theorem dX12_isByte_0 : decode cX12_isByte 0 = .ok (.iload_n 1, 1) := by decide +kernel
theorem dX12_isByte_1 : decode cX12_isByte 1 = .ok (.aload_n 0, 1) := by decide +kernel
theorem dX12_isByte_2 : decode cX12_isByte 2 = .ok (.getfield 9, 3) := by decide +kernel
theorem dX12_isByte_5 : decode cX12_isByte 5 = .ok (.iconst 5, 1) := by decide +kernel
theorem dX12_isByte_6 : decode cX12_isByte 6 = .ok (.iaload, 1) := by decide +kernel
theorem dX12_isByte_7 : decode cX12_isByte 7 = .ok (.if_icmp .ge 25, 3) := by decide +kernel
theorem dX12_isByte_10 : decode cX12_isByte 10 = .ok (.aload_n 0, 1) := by decide +kernel
theorem dX12_isByte_11 : decode cX12_isByte 11 = .ok (.getfield 9, 3) := by decide +kernel
theorem dX12_isByte_14 : decode cX12_isByte 14 = .ok (.sipush 1328, 3) := by decide +kernel
theorem dX12_isByte_17 : decode cX12_isByte 17 = .ok (.iload_n 1, 1) := by decide +kernel
theorem dX12_isByte_18 : decode cX12_isByte 18 = .ok (.iadd, 1) := by decide +kernel
theorem dX12_isByte_19 : decode cX12_isByte 19 = .ok (.iaload, 1) := by decide +kernel
theorem dX12_isByte_20 : decode cX12_isByte 20 = .ok (.iload_n 2, 1) := by decide +kernel
theorem dX12_isByte_21 : decode cX12_isByte 21 = .ok (.iload_n 3, 1) := by decide +kernel
theorem dX12_isByte_22 : decode cX12_isByte 22 = .ok (.invokestatic 78, 3) := by decide +kernel
theorem dX12_isByte_25 : decode cX12_isByte 25 = .ok (.ifCond .eq 7, 3) := by decide +kernel
theorem dX12_isByte_28 : decode cX12_isByte 28 = .ok (.iconst 1, 1) := by decide +kernel
theorem dX12_isByte_29 : decode cX12_isByte 29 = .ok (.goto 4, 3) := by decide +kernel
theorem dX12_isByte_32 : decode cX12_isByte 32 = .ok (.iconst 0, 1) := by decide +kernel
theorem dX12_isByte_33 : decode cX12_isByte 33 = .ok (.ireturn, 1) := by decide +kernel
theorem dX12_goOn_0 : decode cX12_goOn 0 = .ok (.aload_n 0, 1) := by decide +kernel
theorem dX12_goOn_1 : decode cX12_goOn 1 = .ok (.aload_n 0, 1) := by decide +kernel
theorem dX12_goOn_2 : decode cX12_goOn 2 = .ok (.getfield 186, 3) := by decide +kernel
theorem dX12_goOn_5 : decode cX12_goOn 5 = .ok (.putfield 190, 3) := by decide +kernel
theorem dX12_goOn_8 : decode cX12_goOn 8 = .ok (.aload_n 0, 1) := by decide +kernel
theorem dX12_goOn_9 : decode cX12_goOn 9 = .ok (.aload_n 0, 1) := by decide +kernel
theorem dX12_goOn_10 : decode cX12_goOn 10 = .ok (.getfield 190, 3) := by decide +kernel
theorem dX12_goOn_13 : decode cX12_goOn 13 = .ok (.bipush 32, 2) := by decide +kernel
