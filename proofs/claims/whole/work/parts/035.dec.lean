theorem dX12_panel_2 : decode cX12_panel 2 = .ok (.iconst 2, 1) := by decide +kernel
theorem dX12_panel_3 : decode cX12_panel 3 = .ok (.invokevirtual 93, 3) := by decide +kernel
theorem dX12_panel_6 : decode cX12_panel 6 = .ok (.ifCond .ne 10, 3) := by decide +kernel
theorem dX12_panel_9 : decode cX12_panel 9 = .ok (.aload_n 0, 1) := by decide +kernel
theorem dX12_panel_10 : decode cX12_panel 10 = .ok (.ldc 83, 2) := by decide +kernel
theorem dX12_panel_12 : decode cX12_panel 12 = .ok (.invokevirtual 84, 3) := by decide +kernel
theorem dX12_panel_15 : decode cX12_panel 15 = .ok (.ireturn, 1) := by decide +kernel
theorem dX12_panel_16 : decode cX12_panel 16 = .ok (.iconst 1, 1) := by decide +kernel
theorem dX12_panel_17 : decode cX12_panel 17 = .ok (.aload_n 0, 1) := by decide +kernel
theorem dX12_panel_18 : decode cX12_panel 18 = .ok (.aload_n 0, 1) := by decide +kernel
theorem dX12_panel_19 : decode cX12_panel 19 = .ok (.iload_n 1, 1) := by decide +kernel
theorem dX12_panel_20 : decode cX12_panel 20 = .ok (.iconst 0, 1) := by decide +kernel
theorem dX12_panel_21 : decode cX12_panel 21 = .ok (.invokevirtual 116, 3) := by decide +kernel
theorem dX12_panel_24 : decode cX12_panel 24 = .ok (.iconst 0, 1) := by decide +kernel
theorem dX12_panel_25 : decode cX12_panel 25 = .ok (.invokevirtual 89, 3) := by decide +kernel
theorem dX12_panel_28 : decode cX12_panel 28 = .ok (.ishl, 1) := by decide +kernel
theorem dX12_panel_29 : decode cX12_panel 29 = .ok (.iconst 1, 1) := by decide +kernel
theorem dX12_panel_30 : decode cX12_panel 30 = .ok (.aload_n 0, 1) := by decide +kernel
theorem dX12_panel_31 : decode cX12_panel 31 = .ok (.aload_n 0, 1) := by decide +kernel
theorem dX12_panel_32 : decode cX12_panel 32 = .ok (.iload_n 1, 1) := by decide +kernel
theorem dX12_panel_33 : decode cX12_panel 33 = .ok (.iconst 1, 1) := by decide +kernel
theorem dX12_panel_34 : decode cX12_panel 34 = .ok (.invokevirtual 116, 3) := by decide +kernel
theorem dX12_panel_37 : decode cX12_panel 37 = .ok (.iconst 0, 1) := by decide +kernel
theorem dX12_panel_38 : decode cX12_panel 38 = .ok (.invokevirtual 89, 3) := by decide +kernel
theorem dX12_panel_41 : decode cX12_panel 41 = .ok (.ishl, 1) := by decide +kernel
theorem dX12_panel_42 : decode cX12_panel 42 = .ok (.ior, 1) := by decide +kernel
theorem dX12_panel_43 : decode cX12_panel 43 = .ok (.istore_n 2, 1) := by decide +kernel
theorem dX12_panel_44 : decode cX12_panel 44 = .ok (.iconst 0, 1) := by decide +kernel
theorem dX12_panel_45 : decode cX12_panel 45 = .ok (.istore_n 3, 1) := by decide +kernel
theorem dX12_panel_46 : decode cX12_panel 46 = .ok (.iconst 0, 1) := by decide +kernel
theorem dX12_panel_47 : decode cX12_panel 47 = .ok (.istore 4, 2) := by decide +kernel
theorem dX12_panel_49 : decode cX12_panel 49 = .ok (.iload 4, 2) := by decide +kernel
theorem dX12_panel_51 : decode cX12_panel 51 = .ok (.iconst 3, 1) := by decide +kernel
theorem dX12_panel_52 : decode cX12_panel 52 = .ok (.if_icmp .ge 77, 3) := by decide +kernel
theorem dX12_panel_55 : decode cX12_panel 55 = .ok (.aload_n 0, 1) := by decide +kernel
theorem dX12_panel_56 : decode cX12_panel 56 = .ok (.bipush 11, 2) := by decide +kernel
theorem dX12_panel_58 : decode cX12_panel 58 = .ok (.iload_n 2, 1) := by decide +kernel
theorem dX12_panel_59 : decode cX12_panel 59 = .ok (.iload_n 3, 1) := by decide +kernel
theorem dX12_panel_60 : decode cX12_panel 60 = .ok (.ior, 1) := by decide +kernel
theorem dX12_panel_61 : decode cX12_panel 61 = .ok (.invokestatic 149, 3) := by decide +kernel
theorem dX12_panel_64 : decode cX12_panel 64 = .ok (.isub, 1) := by decide +kernel
theorem dX12_panel_65 : decode cX12_panel 65 = .ok (.invokevirtual 324, 3) := by decide +kernel
theorem dX12_panel_68 : decode cX12_panel 68 = .ok (.istore 5, 2) := by decide +kernel
theorem dX12_panel_70 : decode cX12_panel 70 = .ok (.iconst 0, 1) := by decide +kernel
theorem dX12_panel_71 : decode cX12_panel 71 = .ok (.istore 6, 2) := by decide +kernel
theorem dX12_panel_73 : decode cX12_panel 73 = .ok (.iload_n 2, 1) := by decide +kernel
theorem dX12_panel_74 : decode cX12_panel 74 = .ok (.iload_n 3, 1) := by decide +kernel
theorem dX12_panel_75 : decode cX12_panel 75 = .ok (.ior, 1) := by decide +kernel
theorem dX12_panel_76 : decode cX12_panel 76 = .ok (.iload 6, 2) := by decide +kernel
theorem dX12_panel_78 : decode cX12_panel 78 = .ok (.invokestatic 128, 3) := by decide +kernel
theorem dX12_panel_81 : decode cX12_panel 81 = .ok (.ifCond .ne 8, 3) := by decide +kernel
theorem dX12_panel_84 : decode cX12_panel 84 = .ok (.iload 5, 2) := by decide +kernel
theorem dX12_panel_86 : decode cX12_panel 86 = .ok (.ifCond .le 30, 3) := by decide +kernel
theorem dX12_panel_89 : decode cX12_panel 89 = .ok (.iload 5, 2) := by decide +kernel
theorem dX12_panel_91 : decode cX12_panel 91 = .ok (.iload_n 2, 1) := by decide +kernel
theorem dX12_panel_92 : decode cX12_panel 92 = .ok (.iload_n 3, 1) := by decide +kernel
theorem dX12_panel_93 : decode cX12_panel 93 = .ok (.ior, 1) := by decide +kernel
theorem dX12_panel_94 : decode cX12_panel 94 = .ok (.iload 6, 2) := by decide +kernel
theorem dX12_panel_96 : decode cX12_panel 96 = .ok (.invokestatic 128, 3) := by decide +kernel
theorem dX12_panel_99 : decode cX12_panel 99 = .ok (.ifCond .eq 7, 3) := by decide +kernel
theorem dX12_panel_102 : decode cX12_panel 102 = .ok (.iconst 0, 1) := by decide +kernel
theorem dX12_panel_103 : decode cX12_panel 103 = .ok (.goto 4, 3) := by decide +kernel
theorem dX12_panel_106 : decode cX12_panel 106 = .ok (.iconst 1, 1) := by decide +kernel
theorem dX12_panel_107 : decode cX12_panel 107 = .ok (.isub, 1) := by decide +kernel
theorem dX12_panel_108 : decode cX12_panel 108 = .ok (.istore 5, 2) := by decide +kernel
theorem dX12_panel_110 : decode cX12_panel 110 = .ok (.iinc 6 1, 3) := by decide +kernel
theorem dX12_panel_113 : decode cX12_panel 113 = .ok (.goto (-40), 3) := by decide +kernel
theorem dX12_panel_116 : decode cX12_panel 116 = .ok (.iload_n 3, 1) := by decide +kernel
theorem dX12_panel_117 : decode cX12_panel 117 = .ok (.iconst 1, 1) := by decide +kernel
theorem dX12_panel_118 : decode cX12_panel 118 = .ok (.iload 6, 2) := by decide +kernel
theorem dX12_panel_120 : decode cX12_panel 120 = .ok (.ishl, 1) := by decide +kernel
theorem dX12_panel_121 : decode cX12_panel 121 = .ok (.ior, 1) := by decide +kernel
theorem dX12_panel_122 : decode cX12_panel 122 = .ok (.istore_n 3, 1) := by decide +kernel
theorem dX12_panel_123 : decode cX12_panel 123 = .ok (.iinc 4 1, 3) := by decide +kernel
theorem dX12_panel_126 : decode cX12_panel 126 = .ok (.goto (-77), 3) := by decide +kernel
theorem dX12_panel_129 : decode cX12_panel 129 = .ok (.iload_n 3, 1) := by decide +kernel
theorem dX12_panel_130 : decode cX12_panel 130 = .ok (.ireturn, 1) := by decide +kernel
theorem dX12_unlike_0 : decode cX12_unlike 0 = .ok (.aload_n 0, 1) := by decide +kernel
theorem dX12_unlike_1 : decode cX12_unlike 1 = .ok (.iload_n 1, 1) := by decide +kernel
theorem dX12_unlike_2 : decode cX12_unlike 2 = .ok (.iconst 3, 1) := by decide +kernel
theorem dX12_unlike_3 : decode cX12_unlike 3 = .ok (.invokevirtual 113, 3) := by decide +kernel
theorem dX12_unlike_6 : decode cX12_unlike 6 = .ok (.aload_n 0, 1) := by decide +kernel
theorem dX12_unlike_7 : decode cX12_unlike 7 = .ok (.iload_n 2, 1) := by decide +kernel
theorem dX12_unlike_8 : decode cX12_unlike 8 = .ok (.iconst 3, 1) := by decide +kernel
theorem dX12_unlike_9 : decode cX12_unlike 9 = .ok (.invokevirtual 113, 3) := by decide +kernel
theorem dX12_unlike_12 : decode cX12_unlike 12 = .ok (.isub, 1) := by decide +kernel
theorem dX12_unlike_13 : decode cX12_unlike 13 = .ok (.invokestatic 327, 3) := by decide +kernel
theorem dX12_unlike_16 : decode cX12_unlike 16 = .ok (.istore_n 3, 1) := by decide +kernel
theorem dX12_unlike_17 : decode cX12_unlike 17 = .ok (.iconst 0, 1) := by decide +kernel
theorem dX12_unlike_18 : decode cX12_unlike 18 = .ok (.istore 4, 2) := by decide +kernel
theorem dX12_unlike_20 : decode cX12_unlike 20 = .ok (.iload 4, 2) := by decide +kernel
theorem dX12_unlike_22 : decode cX12_unlike 22 = .ok (.iconst 2, 1) := by decide +kernel
theorem dX12_unlike_23 : decode cX12_unlike 23 = .ok (.if_icmp .ge 33, 3) := by decide +kernel
theorem dX12_unlike_26 : decode cX12_unlike 26 = .ok (.iload_n 3, 1) := by decide +kernel
theorem dX12_unlike_27 : decode cX12_unlike 27 = .ok (.bipush 10, 2) := by decide +kernel
theorem dX12_unlike_29 : decode cX12_unlike 29 = .ok (.aload_n 0, 1) := by decide +kernel
theorem dX12_unlike_30 : decode cX12_unlike 30 = .ok (.iload_n 1, 1) := by decide +kernel
theorem dX12_unlike_31 : decode cX12_unlike 31 = .ok (.iload 4, 2) := by decide +kernel
theorem dX12_unlike_33 : decode cX12_unlike 33 = .ok (.invokevirtual 119, 3) := by decide +kernel
theorem dX12_unlike_36 : decode cX12_unlike 36 = .ok (.aload_n 0, 1) := by decide +kernel
theorem dX12_unlike_37 : decode cX12_unlike 37 = .ok (.iload_n 2, 1) := by decide +kernel
theorem dX12_unlike_38 : decode cX12_unlike 38 = .ok (.iload 4, 2) := by decide +kernel
theorem dX12_unlike_40 : decode cX12_unlike 40 = .ok (.invokevirtual 119, 3) := by decide +kernel
theorem dX12_unlike_43 : decode cX12_unlike 43 = .ok (.ixor, 1) := by decide +kernel
theorem dX12_unlike_44 : decode cX12_unlike 44 = .ok (.invokestatic 149, 3) := by decide +kernel
theorem dX12_unlike_47 : decode cX12_unlike 47 = .ok (.imul, 1) := by decide +kernel
theorem dX12_unlike_48 : decode cX12_unlike 48 = .ok (.iadd, 1) := by decide +kernel
theorem dX12_unlike_49 : decode cX12_unlike 49 = .ok (.istore_n 3, 1) := by decide +kernel
theorem dX12_unlike_50 : decode cX12_unlike 50 = .ok (.iinc 4 1, 3) := by decide +kernel
theorem dX12_unlike_53 : decode cX12_unlike 53 = .ok (.goto (-33), 3) := by decide +kernel
theorem dX12_unlike_56 : decode cX12_unlike 56 = .ok (.iload_n 3, 1) := by decide +kernel
theorem dX12_unlike_57 : decode cX12_unlike 57 = .ok (.ireturn, 1) := by decide +kernel
theorem dX12_like_0 : decode cX12_like 0 = .ok (.aload_n 0, 1) := by decide +kernel
theorem dX12_like_1 : decode cX12_like 1 = .ok (.iload_n 1, 1) := by decide +kernel
theorem dX12_like_2 : decode cX12_like 2 = .ok (.iconst 2, 1) := by decide +kernel
theorem dX12_like_3 : decode cX12_like 3 = .ok (.invokevirtual 93, 3) := by decide +kernel
theorem dX12_like_6 : decode cX12_like 6 = .ok (.ifCond .eq 16, 3) := by decide +kernel
theorem dX12_like_9 : decode cX12_like 9 = .ok (.iload_n 2, 1) := by decide +kernel
theorem dX12_like_10 : decode cX12_like 10 = .ok (.ifCond .lt 12, 3) := by decide +kernel
theorem dX12_like_13 : decode cX12_like 13 = .ok (.iload_n 3, 1) := by decide +kernel
theorem dX12_like_14 : decode cX12_like 14 = .ok (.iconst 0, 1) := by decide +kernel
theorem dX12_like_15 : decode cX12_like 15 = .ok (.iconst 1, 1) := by decide +kernel
theorem dX12_like_16 : decode cX12_like 16 = .ok (.invokestatic 78, 3) := by decide +kernel
theorem dX12_like_19 : decode cX12_like 19 = .ok (.ifCond .ne 10, 3) := by decide +kernel
theorem dX12_like_22 : decode cX12_like 22 = .ok (.aload_n 0, 1) := by decide +kernel
theorem dX12_like_23 : decode cX12_like 23 = .ok (.ldc 83, 2) := by decide +kernel
theorem dX12_like_25 : decode cX12_like 25 = .ok (.invokevirtual 84, 3) := by decide +kernel
theorem dX12_like_28 : decode cX12_like 28 = .ok (.ireturn, 1) := by decide +kernel
theorem dX12_like_29 : decode cX12_like 29 = .ok (.iload_n 2, 1) := by decide +kernel
theorem dX12_like_30 : decode cX12_like 30 = .ok (.iload_n 1, 1) := by decide +kernel
theorem dX12_like_31 : decode cX12_like 31 = .ok (.if_icmp .lt 11, 3) := by decide +kernel
theorem dX12_like_34 : decode cX12_like 34 = .ok (.aload_n 0, 1) := by decide +kernel
theorem dX12_like_35 : decode cX12_like 35 = .ok (.ldc_w 287, 3) := by decide +kernel
theorem dX12_like_38 : decode cX12_like 38 = .ok (.invokevirtual 84, 3) := by decide +kernel
theorem dX12_like_41 : decode cX12_like 41 = .ok (.ireturn, 1) := by decide +kernel
theorem dX12_like_42 : decode cX12_like 42 = .ok (.iconst 0, 1) := by decide +kernel
theorem dX12_like_43 : decode cX12_like 43 = .ok (.istore 4, 2) := by decide +kernel
theorem dX12_like_45 : decode cX12_like 45 = .ok (.iload 4, 2) := by decide +kernel
theorem dX12_like_47 : decode cX12_like 47 = .ok (.iload_n 1, 1) := by decide +kernel
theorem dX12_like_48 : decode cX12_like 48 = .ok (.if_icmp .ge 73, 3) := by decide +kernel
theorem dX12_like_51 : decode cX12_like 51 = .ok (.iload 4, 2) := by decide +kernel
theorem dX12_like_53 : decode cX12_like 53 = .ok (.istore 5, 2) := by decide +kernel
theorem dX12_like_55 : decode cX12_like 55 = .ok (.iload 5, 2) := by decide +kernel
theorem dX12_like_57 : decode cX12_like 57 = .ok (.ifCond .le 49, 3) := by decide +kernel
theorem dX12_like_60 : decode cX12_like 60 = .ok (.aload_n 0, 1) := by decide +kernel
theorem dX12_like_61 : decode cX12_like 61 = .ok (.aload_n 0, 1) := by decide +kernel
theorem dX12_like_62 : decode cX12_like 62 = .ok (.getfield 50, 3) := by decide +kernel
theorem dX12_like_65 : decode cX12_like 65 = .ok (.iload 5, 2) := by decide +kernel
theorem dX12_like_67 : decode cX12_like 67 = .ok (.iconst 1, 1) := by decide +kernel
theorem dX12_like_68 : decode cX12_like 68 = .ok (.isub, 1) := by decide +kernel
theorem dX12_like_69 : decode cX12_like 69 = .ok (.iaload, 1) := by decide +kernel
theorem dX12_like_70 : decode cX12_like 70 = .ok (.iload_n 1, 1) := by decide +kernel
theorem dX12_like_71 : decode cX12_like 71 = .ok (.invokevirtual 330, 3) := by decide +kernel
theorem dX12_like_74 : decode cX12_like 74 = .ok (.aload_n 0, 1) := by decide +kernel
theorem dX12_like_75 : decode cX12_like 75 = .ok (.iload 4, 2) := by decide +kernel
theorem dX12_like_77 : decode cX12_like 77 = .ok (.iload_n 1, 1) := by decide +kernel
theorem dX12_like_78 : decode cX12_like 78 = .ok (.invokevirtual 330, 3) := by decide +kernel
theorem dX12_like_81 : decode cX12_like 81 = .ok (.if_icmp .le 25, 3) := by decide +kernel
theorem dX12_like_84 : decode cX12_like 84 = .ok (.aload_n 0, 1) := by decide +kernel
theorem dX12_like_85 : decode cX12_like 85 = .ok (.getfield 50, 3) := by decide +kernel
theorem dX12_like_88 : decode cX12_like 88 = .ok (.iload 5, 2) := by decide +kernel
theorem dX12_like_90 : decode cX12_like 90 = .ok (.aload_n 0, 1) := by decide +kernel
theorem dX12_like_91 : decode cX12_like 91 = .ok (.getfield 50, 3) := by decide +kernel
theorem dX12_like_94 : decode cX12_like 94 = .ok (.iload 5, 2) := by decide +kernel
theorem dX12_like_96 : decode cX12_like 96 = .ok (.iconst 1, 1) := by decide +kernel
theorem dX12_like_97 : decode cX12_like 97 = .ok (.isub, 1) := by decide +kernel
theorem dX12_like_98 : decode cX12_like 98 = .ok (.iaload, 1) := by decide +kernel
theorem dX12_like_99 : decode cX12_like 99 = .ok (.iastore, 1) := by decide +kernel
theorem dX12_like_100 : decode cX12_like 100 = .ok (.iinc 5 (-1), 3) := by decide +kernel
theorem dX12_like_103 : decode cX12_like 103 = .ok (.goto (-48), 3) := by decide +kernel
theorem dX12_like_106 : decode cX12_like 106 = .ok (.aload_n 0, 1) := by decide +kernel
theorem dX12_like_107 : decode cX12_like 107 = .ok (.getfield 50, 3) := by decide +kernel
theorem dX12_like_110 : decode cX12_like 110 = .ok (.iload 5, 2) := by decide +kernel
theorem dX12_like_112 : decode cX12_like 112 = .ok (.iload 4, 2) := by decide +kernel
theorem dX12_like_114 : decode cX12_like 114 = .ok (.iastore, 1) := by decide +kernel
theorem dX12_like_115 : decode cX12_like 115 = .ok (.iinc 4 1, 3) := by decide +kernel
theorem dX12_like_118 : decode cX12_like 118 = .ok (.goto (-73), 3) := by decide +kernel
theorem dX12_like_121 : decode cX12_like 121 = .ok (.iload_n 3, 1) := by decide +kernel
theorem dX12_like_122 : decode cX12_like 122 = .ok (.ifCond .ne 12, 3) := by decide +kernel
theorem dX12_like_125 : decode cX12_like 125 = .ok (.aload_n 0, 1) := by decide +kernel
theorem dX12_like_126 : decode cX12_like 126 = .ok (.getfield 50, 3) := by decide +kernel
theorem dX12_like_129 : decode cX12_like 129 = .ok (.iload_n 2, 1) := by decide +kernel
theorem dX12_like_130 : decode cX12_like 130 = .ok (.iaload, 1) := by decide +kernel
theorem dX12_like_131 : decode cX12_like 131 = .ok (.goto 14, 3) := by decide +kernel
theorem dX12_like_134 : decode cX12_like 134 = .ok (.aload_n 0, 1) := by decide +kernel
theorem dX12_like_135 : decode cX12_like 135 = .ok (.aload_n 0, 1) := by decide +kernel
theorem dX12_like_136 : decode cX12_like 136 = .ok (.getfield 50, 3) := by decide +kernel
theorem dX12_like_139 : decode cX12_like 139 = .ok (.iload_n 2, 1) := by decide +kernel
theorem dX12_like_140 : decode cX12_like 140 = .ok (.iaload, 1) := by decide +kernel
theorem dX12_like_141 : decode cX12_like 141 = .ok (.iload_n 1, 1) := by decide +kernel
theorem dX12_like_142 : decode cX12_like 142 = .ok (.invokevirtual 330, 3) := by decide +kernel
theorem dX12_like_145 : decode cX12_like 145 = .ok (.ireturn, 1) := by decide +kernel
theorem dX12_areTied_0 : decode cX12_areTied 0 = .ok (.iconst 0, 1) := by decide +kernel
theorem dX12_areTied_1 : decode cX12_areTied 1 = .ok (.istore_n 3, 1) := by decide +kernel
theorem dX12_areTied_2 : decode cX12_areTied 2 = .ok (.iconst 0, 1) := by decide +kernel
theorem dX12_areTied_3 : decode cX12_areTied 3 = .ok (.istore 4, 2) := by decide +kernel
theorem dX12_areTied_5 : decode cX12_areTied 5 = .ok (.iload 4, 2) := by decide +kernel
theorem dX12_areTied_7 : decode cX12_areTied 7 = .ok (.iconst 4, 1) := by decide +kernel
theorem dX12_areTied_8 : decode cX12_areTied 8 = .ok (.if_icmp .ge 118, 3) := by decide +kernel
theorem dX12_areTied_11 : decode cX12_areTied 11 = .ok (.aload_n 0, 1) := by decide +kernel
theorem dX12_areTied_12 : decode cX12_areTied 12 = .ok (.iload_n 1, 1) := by decide +kernel
theorem dX12_areTied_13 : decode cX12_areTied 13 = .ok (.iload 4, 2) := by decide +kernel
theorem dX12_areTied_15 : decode cX12_areTied 15 = .ok (.iconst 2, 1) := by decide +kernel
theorem dX12_areTied_16 : decode cX12_areTied 16 = .ok (.idiv, 1) := by decide +kernel
theorem dX12_areTied_17 : decode cX12_areTied 17 = .ok (.invokevirtual 116, 3) := by decide +kernel
theorem dX12_areTied_20 : decode cX12_areTied 20 = .ok (.istore 5, 2) := by decide +kernel
theorem dX12_areTied_22 : decode cX12_areTied 22 = .ok (.aload_n 0, 1) := by decide +kernel
theorem dX12_areTied_23 : decode cX12_areTied 23 = .ok (.iload_n 2, 1) := by decide +kernel
theorem dX12_areTied_24 : decode cX12_areTied 24 = .ok (.iload 4, 2) := by decide +kernel
theorem dX12_areTied_26 : decode cX12_areTied 26 = .ok (.iconst 2, 1) := by decide +kernel
theorem dX12_areTied_27 : decode cX12_areTied 27 = .ok (.irem, 1) := by decide +kernel
theorem dX12_areTied_28 : decode cX12_areTied 28 = .ok (.invokevirtual 116, 3) := by decide +kernel
theorem dX12_areTied_31 : decode cX12_areTied 31 = .ok (.istore 6, 2) := by decide +kernel
theorem dX12_areTied_33 : decode cX12_areTied 33 = .ok (.iconst 0, 1) := by decide +kernel
theorem dX12_areTied_34 : decode cX12_areTied 34 = .ok (.istore 7, 2) := by decide +kernel
theorem dX12_areTied_36 : decode cX12_areTied 36 = .ok (.iconst 0, 1) := by decide +kernel
theorem dX12_areTied_37 : decode cX12_areTied 37 = .ok (.istore 8, 2) := by decide +kernel
theorem dX12_areTied_39 : decode cX12_areTied 39 = .ok (.iload 8, 2) := by decide +kernel
theorem dX12_areTied_41 : decode cX12_areTied 41 = .ok (.iconst 3, 1) := by decide +kernel
theorem dX12_areTied_42 : decode cX12_areTied 42 = .ok (.if_icmp .ge 55, 3) := by decide +kernel
theorem dX12_areTied_45 : decode cX12_areTied 45 = .ok (.iload 7, 2) := by decide +kernel
theorem dX12_areTied_47 : decode cX12_areTied 47 = .ok (.aload_n 0, 1) := by decide +kernel
theorem dX12_areTied_48 : decode cX12_areTied 48 = .ok (.iload 5, 2) := by decide +kernel
theorem dX12_areTied_50 : decode cX12_areTied 50 = .ok (.iconst 5, 1) := by decide +kernel
theorem dX12_areTied_51 : decode cX12_areTied 51 = .ok (.iload 8, 2) := by decide +kernel
theorem dX12_areTied_53 : decode cX12_areTied 53 = .ok (.iadd, 1) := by decide +kernel
theorem dX12_areTied_54 : decode cX12_areTied 54 = .ok (.invokevirtual 89, 3) := by decide +kernel
theorem dX12_areTied_57 : decode cX12_areTied 57 = .ok (.ifCond .lt 30, 3) := by decide +kernel
theorem dX12_areTied_60 : decode cX12_areTied 60 = .ok (.aload_n 0, 1) := by decide +kernel
theorem dX12_areTied_61 : decode cX12_areTied 61 = .ok (.iload 5, 2) := by decide +kernel
theorem dX12_areTied_63 : decode cX12_areTied 63 = .ok (.iconst 5, 1) := by decide +kernel
theorem dX12_areTied_64 : decode cX12_areTied 64 = .ok (.iload 8, 2) := by decide +kernel
theorem dX12_areTied_66 : decode cX12_areTied 66 = .ok (.iadd, 1) := by decide +kernel
theorem dX12_areTied_67 : decode cX12_areTied 67 = .ok (.invokevirtual 89, 3) := by decide +kernel
theorem dX12_areTied_70 : decode cX12_areTied 70 = .ok (.aload_n 0, 1) := by decide +kernel
theorem dX12_areTied_71 : decode cX12_areTied 71 = .ok (.iload 6, 2) := by decide +kernel
theorem dX12_areTied_73 : decode cX12_areTied 73 = .ok (.iconst 5, 1) := by decide +kernel
theorem dX12_areTied_74 : decode cX12_areTied 74 = .ok (.iload 8, 2) := by decide +kernel
theorem dX12_areTied_76 : decode cX12_areTied 76 = .ok (.iadd, 1) := by decide +kernel
theorem dX12_areTied_77 : decode cX12_areTied 77 = .ok (.invokevirtual 89, 3) := by decide +kernel
theorem dX12_areTied_80 : decode cX12_areTied 80 = .ok (.if_icmp .ne 7, 3) := by decide +kernel
theorem dX12_areTied_83 : decode cX12_areTied 83 = .ok (.iconst 1, 1) := by decide +kernel
theorem dX12_areTied_84 : decode cX12_areTied 84 = .ok (.goto 4, 3) := by decide +kernel
theorem dX12_areTied_87 : decode cX12_areTied 87 = .ok (.iconst 0, 1) := by decide +kernel
theorem dX12_areTied_88 : decode cX12_areTied 88 = .ok (.iadd, 1) := by decide +kernel
theorem dX12_areTied_89 : decode cX12_areTied 89 = .ok (.istore 7, 2) := by decide +kernel
theorem dX12_areTied_91 : decode cX12_areTied 91 = .ok (.iinc 8 1, 3) := by decide +kernel
theorem dX12_areTied_94 : decode cX12_areTied 94 = .ok (.goto (-55), 3) := by decide +kernel
theorem dX12_areTied_97 : decode cX12_areTied 97 = .ok (.iload_n 3, 1) := by decide +kernel
theorem dX12_areTied_98 : decode cX12_areTied 98 = .ok (.ifCond .ne 16, 3) := by decide +kernel
theorem dX12_areTied_101 : decode cX12_areTied 101 = .ok (.iload 5, 2) := by decide +kernel
theorem dX12_areTied_103 : decode cX12_areTied 103 = .ok (.iload 6, 2) := by decide +kernel
theorem dX12_areTied_105 : decode cX12_areTied 105 = .ok (.if_icmp .eq 9, 3) := by decide +kernel
theorem dX12_areTied_108 : decode cX12_areTied 108 = .ok (.iload 7, 2) := by decide +kernel
theorem dX12_areTied_110 : decode cX12_areTied 110 = .ok (.iconst 1, 1) := by decide +kernel
theorem dX12_areTied_111 : decode cX12_areTied 111 = .ok (.if_icmp .le 7, 3) := by decide +kernel
theorem dX12_areTied_114 : decode cX12_areTied 114 = .ok (.iconst 1, 1) := by decide +kernel
theorem dX12_areTied_115 : decode cX12_areTied 115 = .ok (.goto 4, 3) := by decide +kernel
theorem dX12_areTied_118 : decode cX12_areTied 118 = .ok (.iconst 0, 1) := by decide +kernel
theorem dX12_areTied_119 : decode cX12_areTied 119 = .ok (.istore_n 3, 1) := by decide +kernel
theorem dX12_areTied_120 : decode cX12_areTied 120 = .ok (.iinc 4 1, 3) := by decide +kernel
theorem dX12_areTied_123 : decode cX12_areTied 123 = .ok (.goto (-118), 3) := by decide +kernel
theorem dX12_areTied_126 : decode cX12_areTied 126 = .ok (.iload_n 3, 1) := by decide +kernel
theorem dX12_areTied_127 : decode cX12_areTied 127 = .ok (.ireturn, 1) := by decide +kernel
theorem dX12_findTies_0 : decode cX12_findTies 0 = .ok (.iconst 0, 1) := by decide +kernel
theorem dX12_findTies_1 : decode cX12_findTies 1 = .ok (.istore_n 1, 1) := by decide +kernel
theorem dX12_findTies_2 : decode cX12_findTies 2 = .ok (.iload_n 1, 1) := by decide +kernel
theorem dX12_findTies_3 : decode cX12_findTies 3 = .ok (.aload_n 0, 1) := by decide +kernel
theorem dX12_findTies_4 : decode cX12_findTies 4 = .ok (.getfield 9, 3) := by decide +kernel
theorem dX12_findTies_7 : decode cX12_findTies 7 = .ok (.iconst 2, 1) := by decide +kernel
theorem dX12_findTies_8 : decode cX12_findTies 8 = .ok (.iaload, 1) := by decide +kernel
theorem dX12_findTies_9 : decode cX12_findTies 9 = .ok (.if_icmp .ge 64, 3) := by decide +kernel
theorem dX12_findTies_12 : decode cX12_findTies 12 = .ok (.aload_n 0, 1) := by decide +kernel
theorem dX12_findTies_13 : decode cX12_findTies 13 = .ok (.getfield 53, 3) := by decide +kernel
theorem dX12_findTies_16 : decode cX12_findTies 16 = .ok (.iload_n 1, 1) := by decide +kernel
theorem dX12_findTies_17 : decode cX12_findTies 17 = .ok (.iconst 0, 1) := by decide +kernel
theorem dX12_findTies_18 : decode cX12_findTies 18 = .ok (.iastore, 1) := by decide +kernel
theorem dX12_findTies_19 : decode cX12_findTies 19 = .ok (.iconst 0, 1) := by decide +kernel
theorem dX12_findTies_20 : decode cX12_findTies 20 = .ok (.istore_n 2, 1) := by decide +kernel
theorem dX12_findTies_21 : decode cX12_findTies 21 = .ok (.iload_n 2, 1) := by decide +kernel
theorem dX12_findTies_22 : decode cX12_findTies 22 = .ok (.aload_n 0, 1) := by decide +kernel
theorem dX12_findTies_23 : decode cX12_findTies 23 = .ok (.getfield 9, 3) := by decide +kernel
theorem dX12_findTies_26 : decode cX12_findTies 26 = .ok (.iconst 2, 1) := by decide +kernel
theorem dX12_findTies_27 : decode cX12_findTies 27 = .ok (.iaload, 1) := by decide +kernel
theorem dX12_findTies_28 : decode cX12_findTies 28 = .ok (.if_icmp .ge 39, 3) := by decide +kernel
theorem dX12_findTies_31 : decode cX12_findTies 31 = .ok (.aload_n 0, 1) := by decide +kernel
theorem dX12_findTies_32 : decode cX12_findTies 32 = .ok (.getfield 53, 3) := by decide +kernel
theorem dX12_findTies_35 : decode cX12_findTies 35 = .ok (.iload_n 1, 1) := by decide +kernel
theorem dX12_findTies_36 : decode cX12_findTies 36 = .ok (.dup2, 1) := by decide +kernel
theorem dX12_findTies_37 : decode cX12_findTies 37 = .ok (.iaload, 1) := by decide +kernel
theorem dX12_findTies_38 : decode cX12_findTies 38 = .ok (.iload_n 1, 1) := by decide +kernel
theorem dX12_findTies_39 : decode cX12_findTies 39 = .ok (.iload_n 2, 1) := by decide +kernel
theorem dX12_findTies_40 : decode cX12_findTies 40 = .ok (.if_icmp .eq 18, 3) := by decide +kernel
theorem dX12_findTies_43 : decode cX12_findTies 43 = .ok (.aload_n 0, 1) := by decide +kernel
theorem dX12_findTies_44 : decode cX12_findTies 44 = .ok (.iload_n 1, 1) := by decide +kernel
theorem dX12_findTies_45 : decode cX12_findTies 45 = .ok (.iload_n 2, 1) := by decide +kernel
theorem dX12_findTies_46 : decode cX12_findTies 46 = .ok (.invokevirtual 333, 3) := by decide +kernel
theorem dX12_findTies_49 : decode cX12_findTies 49 = .ok (.ifCond .eq 9, 3) := by decide +kernel
theorem dX12_findTies_52 : decode cX12_findTies 52 = .ok (.iconst 1, 1) := by decide +kernel
theorem dX12_findTies_53 : decode cX12_findTies 53 = .ok (.iload_n 2, 1) := by decide +kernel
theorem dX12_findTies_54 : decode cX12_findTies 54 = .ok (.ishl, 1) := by decide +kernel
theorem dX12_findTies_55 : decode cX12_findTies 55 = .ok (.goto 4, 3) := by decide +kernel
theorem dX12_findTies_58 : decode cX12_findTies 58 = .ok (.iconst 0, 1) := by decide +kernel
theorem dX12_findTies_59 : decode cX12_findTies 59 = .ok (.ior, 1) := by decide +kernel
theorem dX12_findTies_60 : decode cX12_findTies 60 = .ok (.iastore, 1) := by decide +kernel
theorem dX12_findTies_61 : decode cX12_findTies 61 = .ok (.iinc 2 1, 3) := by decide +kernel
theorem dX12_findTies_64 : decode cX12_findTies 64 = .ok (.goto (-43), 3) := by decide +kernel
theorem dX12_findTies_67 : decode cX12_findTies 67 = .ok (.iinc 1 1, 3) := by decide +kernel
theorem dX12_findTies_70 : decode cX12_findTies 70 = .ok (.goto (-68), 3) := by decide +kernel
theorem dX12_findTies_73 : decode cX12_findTies 73 = .ok (.return_, 1) := by decide +kernel
theorem dX12_ringOf_0 : decode cX12_ringOf 0 = .ok (.iconst 1, 1) := by decide +kernel
theorem dX12_ringOf_1 : decode cX12_ringOf 1 = .ok (.iload_n 1, 1) := by decide +kernel
theorem dX12_ringOf_2 : decode cX12_ringOf 2 = .ok (.ishl, 1) := by decide +kernel
theorem dX12_ringOf_3 : decode cX12_ringOf 3 = .ok (.istore_n 2, 1) := by decide +kernel
theorem dX12_ringOf_4 : decode cX12_ringOf 4 = .ok (.iconst 0, 1) := by decide +kernel
theorem dX12_ringOf_5 : decode cX12_ringOf 5 = .ok (.istore_n 3, 1) := by decide +kernel
theorem dX12_ringOf_6 : decode cX12_ringOf 6 = .ok (.iload_n 2, 1) := by decide +kernel
theorem dX12_ringOf_7 : decode cX12_ringOf 7 = .ok (.iload_n 3, 1) := by decide +kernel
theorem dX12_ringOf_8 : decode cX12_ringOf 8 = .ok (.if_icmp .eq 51, 3) := by decide +kernel
theorem dX12_ringOf_11 : decode cX12_ringOf 11 = .ok (.iload_n 2, 1) := by decide +kernel
theorem dX12_ringOf_12 : decode cX12_ringOf 12 = .ok (.istore_n 3, 1) := by decide +kernel
theorem dX12_ringOf_13 : decode cX12_ringOf 13 = .ok (.iconst 0, 1) := by decide +kernel
theorem dX12_ringOf_14 : decode cX12_ringOf 14 = .ok (.istore 4, 2) := by decide +kernel
theorem dX12_ringOf_16 : decode cX12_ringOf 16 = .ok (.iload 4, 2) := by decide +kernel
theorem dX12_ringOf_18 : decode cX12_ringOf 18 = .ok (.aload_n 0, 1) := by decide +kernel
theorem dX12_ringOf_19 : decode cX12_ringOf 19 = .ok (.getfield 9, 3) := by decide +kernel
theorem dX12_ringOf_22 : decode cX12_ringOf 22 = .ok (.iconst 2, 1) := by decide +kernel
theorem dX12_ringOf_23 : decode cX12_ringOf 23 = .ok (.iaload, 1) := by decide +kernel
theorem dX12_ringOf_24 : decode cX12_ringOf 24 = .ok (.if_icmp .ge 32, 3) := by decide +kernel
theorem dX12_ringOf_27 : decode cX12_ringOf 27 = .ok (.iload_n 2, 1) := by decide +kernel
theorem dX12_ringOf_28 : decode cX12_ringOf 28 = .ok (.iload_n 2, 1) := by decide +kernel
theorem dX12_ringOf_29 : decode cX12_ringOf 29 = .ok (.iload 4, 2) := by decide +kernel
theorem dX12_ringOf_31 : decode cX12_ringOf 31 = .ok (.invokestatic 128, 3) := by decide +kernel
theorem dX12_ringOf_34 : decode cX12_ringOf 34 = .ok (.ifCond .eq 13, 3) := by decide +kernel
theorem dX12_ringOf_37 : decode cX12_ringOf 37 = .ok (.aload_n 0, 1) := by decide +kernel
theorem dX12_ringOf_38 : decode cX12_ringOf 38 = .ok (.getfield 53, 3) := by decide +kernel
theorem dX12_ringOf_41 : decode cX12_ringOf 41 = .ok (.iload 4, 2) := by decide +kernel
theorem dX12_ringOf_43 : decode cX12_ringOf 43 = .ok (.iaload, 1) := by decide +kernel
theorem dX12_ringOf_44 : decode cX12_ringOf 44 = .ok (.goto 4, 3) := by decide +kernel
theorem dX12_ringOf_47 : decode cX12_ringOf 47 = .ok (.iconst 0, 1) := by decide +kernel
theorem dX12_ringOf_48 : decode cX12_ringOf 48 = .ok (.ior, 1) := by decide +kernel
theorem dX12_ringOf_49 : decode cX12_ringOf 49 = .ok (.istore_n 2, 1) := by decide +kernel
theorem dX12_ringOf_50 : decode cX12_ringOf 50 = .ok (.iinc 4 1, 3) := by decide +kernel
theorem dX12_ringOf_53 : decode cX12_ringOf 53 = .ok (.goto (-37), 3) := by decide +kernel
theorem dX12_ringOf_56 : decode cX12_ringOf 56 = .ok (.goto (-50), 3) := by decide +kernel
theorem dX12_ringOf_59 : decode cX12_ringOf 59 = .ok (.iload_n 2, 1) := by decide +kernel
theorem dX12_ringOf_60 : decode cX12_ringOf 60 = .ok (.ireturn, 1) := by decide +kernel
theorem dX12_ring_0 : decode cX12_ring 0 = .ok (.aload_n 0, 1) := by decide +kernel
theorem dX12_ring_1 : decode cX12_ring 1 = .ok (.iload_n 1, 1) := by decide +kernel
theorem dX12_ring_2 : decode cX12_ring 2 = .ok (.iconst 2, 1) := by decide +kernel
theorem dX12_ring_3 : decode cX12_ring 3 = .ok (.invokevirtual 93, 3) := by decide +kernel
theorem dX12_ring_6 : decode cX12_ring 6 = .ok (.ifCond .ne 10, 3) := by decide +kernel
theorem dX12_ring_9 : decode cX12_ring 9 = .ok (.aload_n 0, 1) := by decide +kernel
theorem dX12_ring_10 : decode cX12_ring 10 = .ok (.ldc 83, 2) := by decide +kernel
theorem dX12_ring_12 : decode cX12_ring 12 = .ok (.invokevirtual 84, 3) := by decide +kernel
theorem dX12_ring_15 : decode cX12_ring 15 = .ok (.ireturn, 1) := by decide +kernel
theorem dX12_ring_16 : decode cX12_ring 16 = .ok (.aload_n 0, 1) := by decide +kernel
theorem dX12_ring_17 : decode cX12_ring 17 = .ok (.invokevirtual 336, 3) := by decide +kernel
theorem dX12_ring_20 : decode cX12_ring 20 = .ok (.aload_n 0, 1) := by decide +kernel
theorem dX12_ring_21 : decode cX12_ring 21 = .ok (.iload_n 1, 1) := by decide +kernel
theorem dX12_ring_22 : decode cX12_ring 22 = .ok (.invokevirtual 339, 3) := by decide +kernel
theorem dX12_ring_25 : decode cX12_ring 25 = .ok (.ireturn, 1) := by decide +kernel
theorem dX12_rings_0 : decode cX12_rings 0 = .ok (.iload_n 1, 1) := by decide +kernel
theorem dX12_rings_1 : decode cX12_rings 1 = .ok (.iconst 1, 1) := by decide +kernel
theorem dX12_rings_2 : decode cX12_rings 2 = .ok (.bipush 20, 2) := by decide +kernel
theorem dX12_rings_4 : decode cX12_rings 4 = .ok (.invokestatic 78, 3) := by decide +kernel
theorem dX12_rings_7 : decode cX12_rings 7 = .ok (.ifCond .ne 10, 3) := by decide +kernel
theorem dX12_rings_10 : decode cX12_rings 10 = .ok (.aload_n 0, 1) := by decide +kernel
theorem dX12_rings_11 : decode cX12_rings 11 = .ok (.ldc 83, 2) := by decide +kernel
theorem dX12_rings_13 : decode cX12_rings 13 = .ok (.invokevirtual 84, 3) := by decide +kernel
theorem dX12_rings_16 : decode cX12_rings 16 = .ok (.ireturn, 1) := by decide +kernel
theorem dX12_rings_17 : decode cX12_rings 17 = .ok (.aload_n 0, 1) := by decide +kernel
theorem dX12_rings_18 : decode cX12_rings 18 = .ok (.invokevirtual 336, 3) := by decide +kernel
theorem dX12_rings_21 : decode cX12_rings 21 = .ok (.iconst 0, 1) := by decide +kernel
theorem dX12_rings_22 : decode cX12_rings 22 = .ok (.istore_n 2, 1) := by decide +kernel
theorem dX12_rings_23 : decode cX12_rings 23 = .ok (.iconst 0, 1) := by decide +kernel
theorem dX12_rings_24 : decode cX12_rings 24 = .ok (.istore_n 3, 1) := by decide +kernel
theorem dX12_rings_25 : decode cX12_rings 25 = .ok (.iconst 0, 1) := by decide +kernel
theorem dX12_rings_26 : decode cX12_rings 26 = .ok (.istore 4, 2) := by decide +kernel
theorem dX12_rings_28 : decode cX12_rings 28 = .ok (.iload 4, 2) := by decide +kernel
theorem dX12_rings_30 : decode cX12_rings 30 = .ok (.aload_n 0, 1) := by decide +kernel
theorem dX12_rings_31 : decode cX12_rings 31 = .ok (.getfield 9, 3) := by decide +kernel
theorem dX12_rings_34 : decode cX12_rings 34 = .ok (.iconst 2, 1) := by decide +kernel
theorem dX12_rings_35 : decode cX12_rings 35 = .ok (.iaload, 1) := by decide +kernel
theorem dX12_rings_36 : decode cX12_rings 36 = .ok (.if_icmp .ge 48, 3) := by decide +kernel
theorem dX12_rings_39 : decode cX12_rings 39 = .ok (.iload_n 2, 1) := by decide +kernel
theorem dX12_rings_40 : decode cX12_rings 40 = .ok (.iload_n 3, 1) := by decide +kernel
theorem dX12_rings_41 : decode cX12_rings 41 = .ok (.iload 4, 2) := by decide +kernel
theorem dX12_rings_43 : decode cX12_rings 43 = .ok (.invokestatic 128, 3) := by decide +kernel
theorem dX12_rings_46 : decode cX12_rings 46 = .ok (.ifCond .ne 20, 3) := by decide +kernel
theorem dX12_rings_49 : decode cX12_rings 49 = .ok (.aload_n 0, 1) := by decide +kernel
theorem dX12_rings_50 : decode cX12_rings 50 = .ok (.iload 4, 2) := by decide +kernel
theorem dX12_rings_52 : decode cX12_rings 52 = .ok (.invokevirtual 339, 3) := by decide +kernel
theorem dX12_rings_55 : decode cX12_rings 55 = .ok (.invokestatic 149, 3) := by decide +kernel
theorem dX12_rings_58 : decode cX12_rings 58 = .ok (.iload_n 1, 1) := by decide +kernel
theorem dX12_rings_59 : decode cX12_rings 59 = .ok (.if_icmp .lt 7, 3) := by decide +kernel
theorem dX12_rings_62 : decode cX12_rings 62 = .ok (.iconst 1, 1) := by decide +kernel
theorem dX12_rings_63 : decode cX12_rings 63 = .ok (.goto 4, 3) := by decide +kernel
theorem dX12_rings_66 : decode cX12_rings 66 = .ok (.iconst 0, 1) := by decide +kernel
theorem dX12_rings_67 : decode cX12_rings 67 = .ok (.iadd, 1) := by decide +kernel
theorem dX12_rings_68 : decode cX12_rings 68 = .ok (.istore_n 2, 1) := by decide +kernel
theorem dX12_rings_69 : decode cX12_rings 69 = .ok (.iload_n 3, 1) := by decide +kernel
theorem dX12_rings_70 : decode cX12_rings 70 = .ok (.aload_n 0, 1) := by decide +kernel
theorem dX12_rings_71 : decode cX12_rings 71 = .ok (.iload 4, 2) := by decide +kernel
theorem dX12_rings_73 : decode cX12_rings 73 = .ok (.invokevirtual 339, 3) := by decide +kernel
theorem dX12_rings_76 : decode cX12_rings 76 = .ok (.ior, 1) := by decide +kernel
theorem dX12_rings_77 : decode cX12_rings 77 = .ok (.istore_n 3, 1) := by decide +kernel
theorem dX12_rings_78 : decode cX12_rings 78 = .ok (.iinc 4 1, 3) := by decide +kernel
theorem dX12_rings_81 : decode cX12_rings 81 = .ok (.goto (-53), 3) := by decide +kernel
theorem dX12_rings_84 : decode cX12_rings 84 = .ok (.iload_n 2, 1) := by decide +kernel
theorem dX12_rings_85 : decode cX12_rings 85 = .ok (.ireturn, 1) := by decide +kernel
theorem dX12_grows_0 : decode cX12_grows 0 = .ok (.iload_n 1, 1) := by decide +kernel
theorem dX12_grows_1 : decode cX12_grows 1 = .ok (.invokestatic 149, 3) := by decide +kernel
theorem dX12_grows_4 : decode cX12_grows 4 = .ok (.iload_n 2, 1) := by decide +kernel
theorem dX12_grows_5 : decode cX12_grows 5 = .ok (.invokestatic 149, 3) := by decide +kernel
theorem dX12_grows_8 : decode cX12_grows 8 = .ok (.iadd, 1) := by decide +kernel
theorem dX12_grows_9 : decode cX12_grows 9 = .ok (.istore_n 3, 1) := by decide +kernel
theorem dX12_grows_10 : decode cX12_grows 10 = .ok (.iload_n 3, 1) := by decide +kernel
theorem dX12_grows_11 : decode cX12_grows 11 = .ok (.aload_n 0, 1) := by decide +kernel
theorem dX12_grows_12 : decode cX12_grows 12 = .ok (.getfield 342, 3) := by decide +kernel
theorem dX12_grows_15 : decode cX12_grows 15 = .ok (.invokestatic 149, 3) := by decide +kernel
theorem dX12_grows_18 : decode cX12_grows 18 = .ok (.if_icmp .ge 4, 3) := by decide +kernel
theorem dX12_grows_21 : decode cX12_grows 21 = .ok (.return_, 1) := by decide +kernel
theorem dX12_grows_22 : decode cX12_grows 22 = .ok (.iload_n 2, 1) := by decide +kernel
theorem dX12_grows_23 : decode cX12_grows 23 = .ok (.ifCond .ne 35, 3) := by decide +kernel
theorem dX12_grows_26 : decode cX12_grows 26 = .ok (.aload_n 0, 1) := by decide +kernel
theorem dX12_grows_27 : decode cX12_grows 27 = .ok (.iload_n 3, 1) := by decide +kernel
theorem dX12_grows_28 : decode cX12_grows 28 = .ok (.aload_n 0, 1) := by decide +kernel
theorem dX12_grows_29 : decode cX12_grows 29 = .ok (.getfield 342, 3) := by decide +kernel
theorem dX12_grows_32 : decode cX12_grows 32 = .ok (.invokestatic 149, 3) := by decide +kernel
theorem dX12_grows_35 : decode cX12_grows 35 = .ok (.if_icmp .gt 11, 3) := by decide +kernel
theorem dX12_grows_38 : decode cX12_grows 38 = .ok (.iload_n 1, 1) := by decide +kernel
theorem dX12_grows_39 : decode cX12_grows 39 = .ok (.aload_n 0, 1) := by decide +kernel
theorem dX12_grows_40 : decode cX12_grows 40 = .ok (.getfield 342, 3) := by decide +kernel
theorem dX12_grows_43 : decode cX12_grows 43 = .ok (.if_icmp .ge 7, 3) := by decide +kernel
theorem dX12_grows_46 : decode cX12_grows 46 = .ok (.iload_n 1, 1) := by decide +kernel
theorem dX12_grows_47 : decode cX12_grows 47 = .ok (.goto 7, 3) := by decide +kernel
theorem dX12_grows_50 : decode cX12_grows 50 = .ok (.aload_n 0, 1) := by decide +kernel
theorem dX12_grows_51 : decode cX12_grows 51 = .ok (.getfield 342, 3) := by decide +kernel
theorem dX12_grows_54 : decode cX12_grows 54 = .ok (.putfield 342, 3) := by decide +kernel
theorem dX12_grows_57 : decode cX12_grows 57 = .ok (.return_, 1) := by decide +kernel
theorem dX12_grows_58 : decode cX12_grows 58 = .ok (.iconst 0, 1) := by decide +kernel
theorem dX12_grows_59 : decode cX12_grows 59 = .ok (.istore 4, 2) := by decide +kernel
theorem dX12_grows_61 : decode cX12_grows 61 = .ok (.iload_n 2, 1) := by decide +kernel
theorem dX12_grows_62 : decode cX12_grows 62 = .ok (.iload 4, 2) := by decide +kernel
theorem dX12_grows_64 : decode cX12_grows 64 = .ok (.ishr, 1) := by decide +kernel
theorem dX12_grows_65 : decode cX12_grows 65 = .ok (.iconst 1, 1) := by decide +kernel
theorem dX12_grows_66 : decode cX12_grows 66 = .ok (.if_icmp .le 9, 3) := by decide +kernel
theorem dX12_grows_69 : decode cX12_grows 69 = .ok (.iinc 4 1, 3) := by decide +kernel
theorem dX12_grows_72 : decode cX12_grows 72 = .ok (.goto (-11), 3) := by decide +kernel
theorem dX12_grows_75 : decode cX12_grows 75 = .ok (.aload_n 0, 1) := by decide +kernel
theorem dX12_grows_76 : decode cX12_grows 76 = .ok (.iload_n 1, 1) := by decide +kernel
theorem dX12_grows_77 : decode cX12_grows 77 = .ok (.iload_n 2, 1) := by decide +kernel
theorem dX12_grows_78 : decode cX12_grows 78 = .ok (.iconst 1, 1) := by decide +kernel
theorem dX12_grows_79 : decode cX12_grows 79 = .ok (.iload 4, 2) := by decide +kernel
theorem dX12_grows_81 : decode cX12_grows 81 = .ok (.ishl, 1) := by decide +kernel
theorem dX12_grows_82 : decode cX12_grows 82 = .ok (.iconst (-1), 1) := by decide +kernel
theorem dX12_grows_83 : decode cX12_grows 83 = .ok (.ixor, 1) := by decide +kernel
theorem dX12_grows_84 : decode cX12_grows 84 = .ok (.iand, 1) := by decide +kernel
theorem dX12_grows_85 : decode cX12_grows 85 = .ok (.invokevirtual 345, 3) := by decide +kernel
theorem dX12_grows_88 : decode cX12_grows 88 = .ok (.aload_n 0, 1) := by decide +kernel
theorem dX12_grows_89 : decode cX12_grows 89 = .ok (.iload_n 1, 1) := by decide +kernel
theorem dX12_grows_90 : decode cX12_grows 90 = .ok (.iconst 1, 1) := by decide +kernel
theorem dX12_grows_91 : decode cX12_grows 91 = .ok (.iload 4, 2) := by decide +kernel
theorem dX12_grows_93 : decode cX12_grows 93 = .ok (.ishl, 1) := by decide +kernel
theorem dX12_grows_94 : decode cX12_grows 94 = .ok (.ior, 1) := by decide +kernel
theorem dX12_grows_95 : decode cX12_grows 95 = .ok (.iload_n 2, 1) := by decide +kernel
theorem dX12_grows_96 : decode cX12_grows 96 = .ok (.aload_n 0, 1) := by decide +kernel
theorem dX12_grows_97 : decode cX12_grows 97 = .ok (.getfield 53, 3) := by decide +kernel
theorem dX12_grows_100 : decode cX12_grows 100 = .ok (.iload 4, 2) := by decide +kernel
theorem dX12_grows_102 : decode cX12_grows 102 = .ok (.iaload, 1) := by decide +kernel
theorem dX12_grows_103 : decode cX12_grows 103 = .ok (.iand, 1) := by decide +kernel
theorem dX12_grows_104 : decode cX12_grows 104 = .ok (.invokevirtual 345, 3) := by decide +kernel
theorem dX12_grows_107 : decode cX12_grows 107 = .ok (.return_, 1) := by decide +kernel
theorem dX12_core_0 : decode cX12_core 0 = .ok (.aload_n 0, 1) := by decide +kernel
theorem dX12_core_1 : decode cX12_core 1 = .ok (.invokevirtual 336, 3) := by decide +kernel
theorem dX12_core_4 : decode cX12_core 4 = .ok (.aload_n 0, 1) := by decide +kernel
theorem dX12_core_5 : decode cX12_core 5 = .ok (.iconst 0, 1) := by decide +kernel
theorem dX12_core_6 : decode cX12_core 6 = .ok (.putfield 342, 3) := by decide +kernel
theorem dX12_core_9 : decode cX12_core 9 = .ok (.aload_n 0, 1) := by decide +kernel
theorem dX12_core_10 : decode cX12_core 10 = .ok (.iconst 0, 1) := by decide +kernel
theorem dX12_core_11 : decode cX12_core 11 = .ok (.iconst 1, 1) := by decide +kernel
theorem dX12_core_12 : decode cX12_core 12 = .ok (.aload_n 0, 1) := by decide +kernel
theorem dX12_core_13 : decode cX12_core 13 = .ok (.getfield 9, 3) := by decide +kernel
theorem dX12_core_16 : decode cX12_core 16 = .ok (.iconst 2, 1) := by decide +kernel
theorem dX12_core_17 : decode cX12_core 17 = .ok (.iaload, 1) := by decide +kernel
theorem dX12_core_18 : decode cX12_core 18 = .ok (.ishl, 1) := by decide +kernel
theorem dX12_core_19 : decode cX12_core 19 = .ok (.iconst 1, 1) := by decide +kernel
theorem dX12_core_20 : decode cX12_core 20 = .ok (.isub, 1) := by decide +kernel
theorem dX12_core_21 : decode cX12_core 21 = .ok (.invokevirtual 345, 3) := by decide +kernel
theorem dX12_core_24 : decode cX12_core 24 = .ok (.aload_n 0, 1) := by decide +kernel
theorem dX12_core_25 : decode cX12_core 25 = .ok (.getfield 342, 3) := by decide +kernel
theorem dX12_core_28 : decode cX12_core 28 = .ok (.ireturn, 1) := by decide +kernel
theorem dX12_tryOrders_0 : decode cX12_tryOrders 0 = .ok (.iload 4, 2) := by decide +kernel
theorem dX12_tryOrders_2 : decode cX12_tryOrders 2 = .ok (.iload_n 3, 1) := by decide +kernel
theorem dX12_tryOrders_3 : decode cX12_tryOrders 3 = .ok (.if_icmp .ne 50, 3) := by decide +kernel
theorem dX12_tryOrders_6 : decode cX12_tryOrders 6 = .ok (.iconst 0, 1) := by decide +kernel
theorem dX12_tryOrders_7 : decode cX12_tryOrders 7 = .ok (.istore 6, 2) := by decide +kernel
theorem dX12_tryOrders_9 : decode cX12_tryOrders 9 = .ok (.iload 6, 2) := by decide +kernel
theorem dX12_tryOrders_11 : decode cX12_tryOrders 11 = .ok (.iload_n 3, 1) := by decide +kernel
theorem dX12_tryOrders_12 : decode cX12_tryOrders 12 = .ok (.if_icmp .ge 30, 3) := by decide +kernel
theorem dX12_tryOrders_15 : decode cX12_tryOrders 15 = .ok (.aload_n 0, 1) := by decide +kernel
theorem dX12_tryOrders_16 : decode cX12_tryOrders 16 = .ok (.getfield 349, 3) := by decide +kernel
theorem dX12_tryOrders_19 : decode cX12_tryOrders 19 = .ok (.ifCond .ne 23, 3) := by decide +kernel
theorem dX12_tryOrders_22 : decode cX12_tryOrders 22 = .ok (.aload_n 0, 1) := by decide +kernel
theorem dX12_tryOrders_23 : decode cX12_tryOrders 23 = .ok (.getfield 59, 3) := by decide +kernel
theorem dX12_tryOrders_26 : decode cX12_tryOrders 26 = .ok (.iload 6, 2) := by decide +kernel
theorem dX12_tryOrders_28 : decode cX12_tryOrders 28 = .ok (.aload_n 0, 1) := by decide +kernel
theorem dX12_tryOrders_29 : decode cX12_tryOrders 29 = .ok (.getfield 56, 3) := by decide +kernel
theorem dX12_tryOrders_32 : decode cX12_tryOrders 32 = .ok (.iload 6, 2) := by decide +kernel
theorem dX12_tryOrders_34 : decode cX12_tryOrders 34 = .ok (.iaload, 1) := by decide +kernel
theorem dX12_tryOrders_35 : decode cX12_tryOrders 35 = .ok (.iastore, 1) := by decide +kernel
theorem dX12_tryOrders_36 : decode cX12_tryOrders 36 = .ok (.iinc 6 1, 3) := by decide +kernel
theorem dX12_tryOrders_39 : decode cX12_tryOrders 39 = .ok (.goto (-30), 3) := by decide +kernel
theorem dX12_tryOrders_42 : decode cX12_tryOrders 42 = .ok (.aload_n 0, 1) := by decide +kernel
theorem dX12_tryOrders_43 : decode cX12_tryOrders 43 = .ok (.dup, 1) := by decide +kernel
theorem dX12_tryOrders_44 : decode cX12_tryOrders 44 = .ok (.getfield 349, 3) := by decide +kernel
theorem dX12_tryOrders_47 : decode cX12_tryOrders 47 = .ok (.iconst 1, 1) := by decide +kernel
theorem dX12_tryOrders_48 : decode cX12_tryOrders 48 = .ok (.iadd, 1) := by decide +kernel
theorem dX12_tryOrders_49 : decode cX12_tryOrders 49 = .ok (.putfield 349, 3) := by decide +kernel
theorem dX12_tryOrders_52 : decode cX12_tryOrders 52 = .ok (.return_, 1) := by decide +kernel
theorem dX12_tryOrders_53 : decode cX12_tryOrders 53 = .ok (.iconst 0, 1) := by decide +kernel
theorem dX12_tryOrders_54 : decode cX12_tryOrders 54 = .ok (.istore 6, 2) := by decide +kernel
theorem dX12_tryOrders_56 : decode cX12_tryOrders 56 = .ok (.iload 6, 2) := by decide +kernel
theorem dX12_tryOrders_58 : decode cX12_tryOrders 58 = .ok (.iload_n 3, 1) := by decide +kernel
theorem dX12_tryOrders_59 : decode cX12_tryOrders 59 = .ok (.if_icmp .ge 108, 3) := by decide +kernel
theorem dX12_tryOrders_62 : decode cX12_tryOrders 62 = .ok (.iload 4, 2) := by decide +kernel
theorem dX12_tryOrders_64 : decode cX12_tryOrders 64 = .ok (.ifCond .ne 7, 3) := by decide +kernel
theorem dX12_tryOrders_67 : decode cX12_tryOrders 67 = .ok (.lconst 0, 1) := by decide +kernel
theorem dX12_tryOrders_68 : decode cX12_tryOrders 68 = .ok (.goto 43, 3) := by decide +kernel
theorem dX12_tryOrders_71 : decode cX12_tryOrders 71 = .ok (.aload_n 0, 1) := by decide +kernel
theorem dX12_tryOrders_72 : decode cX12_tryOrders 72 = .ok (.getfield 71, 3) := by decide +kernel
theorem dX12_tryOrders_75 : decode cX12_tryOrders 75 = .ok (.bipush 24, 2) := by decide +kernel
theorem dX12_tryOrders_77 : decode cX12_tryOrders 77 = .ok (.iload_n 1, 1) := by decide +kernel
theorem dX12_tryOrders_78 : decode cX12_tryOrders 78 = .ok (.imul, 1) := by decide +kernel
theorem dX12_tryOrders_79 : decode cX12_tryOrders 79 = .ok (.iconst 2, 1) := by decide +kernel
theorem dX12_tryOrders_80 : decode cX12_tryOrders 80 = .ok (.aload_n 0, 1) := by decide +kernel
theorem dX12_tryOrders_81 : decode cX12_tryOrders 81 = .ok (.getfield 56, 3) := by decide +kernel
theorem dX12_tryOrders_84 : decode cX12_tryOrders 84 = .ok (.iload 4, 2) := by decide +kernel
theorem dX12_tryOrders_86 : decode cX12_tryOrders 86 = .ok (.iconst 1, 1) := by decide +kernel
theorem dX12_tryOrders_87 : decode cX12_tryOrders 87 = .ok (.isub, 1) := by decide +kernel
theorem dX12_tryOrders_88 : decode cX12_tryOrders 88 = .ok (.iaload, 1) := by decide +kernel
theorem dX12_tryOrders_89 : decode cX12_tryOrders 89 = .ok (.imul, 1) := by decide +kernel
theorem dX12_tryOrders_90 : decode cX12_tryOrders 90 = .ok (.iadd, 1) := by decide +kernel
theorem dX12_tryOrders_91 : decode cX12_tryOrders 91 = .ok (.iaload, 1) := by decide +kernel
theorem dX12_tryOrders_92 : decode cX12_tryOrders 92 = .ok (.i2l, 1) := by decide +kernel
theorem dX12_tryOrders_93 : decode cX12_tryOrders 93 = .ok (.aload_n 0, 1) := by decide +kernel
theorem dX12_tryOrders_94 : decode cX12_tryOrders 94 = .ok (.getfield 71, 3) := by decide +kernel
theorem dX12_tryOrders_97 : decode cX12_tryOrders 97 = .ok (.bipush 24, 2) := by decide +kernel
theorem dX12_tryOrders_99 : decode cX12_tryOrders 99 = .ok (.iload_n 1, 1) := by decide +kernel
theorem dX12_tryOrders_100 : decode cX12_tryOrders 100 = .ok (.imul, 1) := by decide +kernel
theorem dX12_tryOrders_101 : decode cX12_tryOrders 101 = .ok (.iconst 2, 1) := by decide +kernel
theorem dX12_tryOrders_102 : decode cX12_tryOrders 102 = .ok (.iload 6, 2) := by decide +kernel
theorem dX12_tryOrders_104 : decode cX12_tryOrders 104 = .ok (.imul, 1) := by decide +kernel
theorem dX12_tryOrders_105 : decode cX12_tryOrders 105 = .ok (.iadd, 1) := by decide +kernel
theorem dX12_tryOrders_106 : decode cX12_tryOrders 106 = .ok (.iconst 1, 1) := by decide +kernel
theorem dX12_tryOrders_107 : decode cX12_tryOrders 107 = .ok (.iadd, 1) := by decide +kernel
theorem dX12_tryOrders_108 : decode cX12_tryOrders 108 = .ok (.iaload, 1) := by decide +kernel
theorem dX12_tryOrders_109 : decode cX12_tryOrders 109 = .ok (.i2l, 1) := by decide +kernel
theorem dX12_tryOrders_110 : decode cX12_tryOrders 110 = .ok (.lsub, 1) := by decide +kernel
theorem dX12_tryOrders_111 : decode cX12_tryOrders 111 = .ok (.lstore 7, 2) := by decide +kernel
theorem dX12_tryOrders_113 : decode cX12_tryOrders 113 = .ok (.iload 5, 2) := by decide +kernel
theorem dX12_tryOrders_115 : decode cX12_tryOrders 115 = .ok (.iload 6, 2) := by decide +kernel
theorem dX12_tryOrders_117 : decode cX12_tryOrders 117 = .ok (.invokestatic 128, 3) := by decide +kernel
theorem dX12_tryOrders_120 : decode cX12_tryOrders 120 = .ok (.ifCond .ne 41, 3) := by decide +kernel
theorem dX12_tryOrders_123 : decode cX12_tryOrders 123 = .ok (.lload 7, 2) := by decide +kernel
theorem dX12_tryOrders_125 : decode cX12_tryOrders 125 = .ok (.invokestatic 352, 3) := by decide +kernel
theorem dX12_tryOrders_128 : decode cX12_tryOrders 128 = .ok (.iload_n 2, 1) := by decide +kernel
theorem dX12_tryOrders_129 : decode cX12_tryOrders 129 = .ok (.i2l, 1) := by decide +kernel
theorem dX12_tryOrders_130 : decode cX12_tryOrders 130 = .ok (.lcmp, 1) := by decide +kernel
theorem dX12_tryOrders_131 : decode cX12_tryOrders 131 = .ok (.ifCond .gt 30, 3) := by decide +kernel
theorem dX12_tryOrders_134 : decode cX12_tryOrders 134 = .ok (.aload_n 0, 1) := by decide +kernel
theorem dX12_tryOrders_135 : decode cX12_tryOrders 135 = .ok (.getfield 56, 3) := by decide +kernel
theorem dX12_tryOrders_138 : decode cX12_tryOrders 138 = .ok (.iload 4, 2) := by decide +kernel
theorem dX12_tryOrders_140 : decode cX12_tryOrders 140 = .ok (.iload 6, 2) := by decide +kernel
theorem dX12_tryOrders_142 : decode cX12_tryOrders 142 = .ok (.iastore, 1) := by decide +kernel
theorem dX12_tryOrders_143 : decode cX12_tryOrders 143 = .ok (.aload_n 0, 1) := by decide +kernel
theorem dX12_tryOrders_144 : decode cX12_tryOrders 144 = .ok (.iload_n 1, 1) := by decide +kernel
theorem dX12_tryOrders_145 : decode cX12_tryOrders 145 = .ok (.iload_n 2, 1) := by decide +kernel
theorem dX12_tryOrders_146 : decode cX12_tryOrders 146 = .ok (.iload_n 3, 1) := by decide +kernel
theorem dX12_tryOrders_147 : decode cX12_tryOrders 147 = .ok (.iload 4, 2) := by decide +kernel
theorem dX12_tryOrders_149 : decode cX12_tryOrders 149 = .ok (.iconst 1, 1) := by decide +kernel
theorem dX12_tryOrders_150 : decode cX12_tryOrders 150 = .ok (.iadd, 1) := by decide +kernel
theorem dX12_tryOrders_151 : decode cX12_tryOrders 151 = .ok (.iload 5, 2) := by decide +kernel
theorem dX12_tryOrders_153 : decode cX12_tryOrders 153 = .ok (.iconst 1, 1) := by decide +kernel
theorem dX12_tryOrders_154 : decode cX12_tryOrders 154 = .ok (.iload 6, 2) := by decide +kernel
theorem dX12_tryOrders_156 : decode cX12_tryOrders 156 = .ok (.ishl, 1) := by decide +kernel
theorem dX12_tryOrders_157 : decode cX12_tryOrders 157 = .ok (.ior, 1) := by decide +kernel
theorem dX12_tryOrders_158 : decode cX12_tryOrders 158 = .ok (.invokevirtual 355, 3) := by decide +kernel
theorem dX12_tryOrders_161 : decode cX12_tryOrders 161 = .ok (.iinc 6 1, 3) := by decide +kernel
theorem dX12_tryOrders_164 : decode cX12_tryOrders 164 = .ok (.goto (-108), 3) := by decide +kernel
theorem dX12_tryOrders_167 : decode cX12_tryOrders 167 = .ok (.return_, 1) := by decide +kernel
theorem dX12_chain_0 : decode cX12_chain 0 = .ok (.iload_n 1, 1) := by decide +kernel
theorem dX12_chain_1 : decode cX12_chain 1 = .ok (.invokestatic 359, 3) := by decide +kernel
theorem dX12_chain_4 : decode cX12_chain 4 = .ok (.ifCond .eq 18, 3) := by decide +kernel
theorem dX12_chain_7 : decode cX12_chain 7 = .ok (.iload_n 2, 1) := by decide +kernel
theorem dX12_chain_8 : decode cX12_chain 8 = .ok (.iconst 0, 1) := by decide +kernel
theorem dX12_chain_9 : decode cX12_chain 9 = .ok (.sipush 999, 3) := by decide +kernel
theorem dX12_chain_12 : decode cX12_chain 12 = .ok (.invokestatic 78, 3) := by decide +kernel
theorem dX12_chain_15 : decode cX12_chain 15 = .ok (.ifCond .eq 7, 3) := by decide +kernel
theorem dX12_chain_18 : decode cX12_chain 18 = .ok (.iload_n 3, 1) := by decide +kernel
theorem dX12_chain_19 : decode cX12_chain 19 = .ok (.ifCond .ge 10, 3) := by decide +kernel
theorem dX12_chain_22 : decode cX12_chain 22 = .ok (.aload_n 0, 1) := by decide +kernel
theorem dX12_chain_23 : decode cX12_chain 23 = .ok (.ldc 83, 2) := by decide +kernel
theorem dX12_chain_25 : decode cX12_chain 25 = .ok (.invokevirtual 84, 3) := by decide +kernel
theorem dX12_chain_28 : decode cX12_chain 28 = .ok (.ireturn, 1) := by decide +kernel
theorem dX12_chain_29 : decode cX12_chain 29 = .ok (.aload_n 0, 1) := by decide +kernel
theorem dX12_chain_30 : decode cX12_chain 30 = .ok (.getfield 65, 3) := by decide +kernel
theorem dX12_chain_33 : decode cX12_chain 33 = .ok (.iload_n 1, 1) := by decide +kernel
theorem dX12_chain_34 : decode cX12_chain 34 = .ok (.iaload, 1) := by decide +kernel
theorem dX12_chain_35 : decode cX12_chain 35 = .ok (.ifCond .ne 11, 3) := by decide +kernel
theorem dX12_chain_38 : decode cX12_chain 38 = .ok (.aload_n 0, 1) := by decide +kernel
theorem dX12_chain_39 : decode cX12_chain 39 = .ok (.ldc_w 287, 3) := by decide +kernel
theorem dX12_chain_42 : decode cX12_chain 42 = .ok (.invokevirtual 84, 3) := by decide +kernel
theorem dX12_chain_45 : decode cX12_chain 45 = .ok (.ireturn, 1) := by decide +kernel
theorem dX12_chain_46 : decode cX12_chain 46 = .ok (.aload_n 0, 1) := by decide +kernel
theorem dX12_chain_47 : decode cX12_chain 47 = .ok (.getfield 68, 3) := by decide +kernel
theorem dX12_chain_50 : decode cX12_chain 50 = .ok (.iload_n 1, 1) := by decide +kernel
theorem dX12_chain_51 : decode cX12_chain 51 = .ok (.iaload, 1) := by decide +kernel
theorem dX12_chain_52 : decode cX12_chain 52 = .ok (.iconst 2, 1) := by decide +kernel
theorem dX12_chain_53 : decode cX12_chain 53 = .ok (.idiv, 1) := by decide +kernel
theorem dX12_chain_54 : decode cX12_chain 54 = .ok (.istore 4, 2) := by decide +kernel
theorem dX12_chain_56 : decode cX12_chain 56 = .ok (.aload_n 0, 1) := by decide +kernel
theorem dX12_chain_57 : decode cX12_chain 57 = .ok (.getfield 68, 3) := by decide +kernel
theorem dX12_chain_60 : decode cX12_chain 60 = .ok (.iload_n 1, 1) := by decide +kernel
theorem dX12_chain_61 : decode cX12_chain 61 = .ok (.iaload, 1) := by decide +kernel
theorem dX12_chain_62 : decode cX12_chain 62 = .ok (.iconst 2, 1) := by decide +kernel
theorem dX12_chain_63 : decode cX12_chain 63 = .ok (.irem, 1) := by decide +kernel
theorem dX12_chain_64 : decode cX12_chain 64 = .ok (.iconst 1, 1) := by decide +kernel
theorem dX12_chain_65 : decode cX12_chain 65 = .ok (.if_icmp .eq 14, 3) := by decide +kernel
theorem dX12_chain_68 : decode cX12_chain 68 = .ok (.iload 4, 2) := by decide +kernel
theorem dX12_chain_70 : decode cX12_chain 70 = .ok (.iconst 1, 1) := by decide +kernel
theorem dX12_chain_71 : decode cX12_chain 71 = .ok (.bipush 6, 2) := by decide +kernel
theorem dX12_chain_73 : decode cX12_chain 73 = .ok (.invokestatic 78, 3) := by decide +kernel
theorem dX12_chain_76 : decode cX12_chain 76 = .ok (.ifCond .ne 10, 3) := by decide +kernel
theorem dX12_chain_79 : decode cX12_chain 79 = .ok (.aload_n 0, 1) := by decide +kernel
theorem dX12_chain_80 : decode cX12_chain 80 = .ok (.ldc 104, 2) := by decide +kernel
theorem dX12_chain_82 : decode cX12_chain 82 = .ok (.invokevirtual 84, 3) := by decide +kernel
theorem dX12_chain_85 : decode cX12_chain 85 = .ok (.ireturn, 1) := by decide +kernel
theorem dX12_chain_86 : decode cX12_chain 86 = .ok (.aload_n 0, 1) := by decide +kernel
theorem dX12_chain_87 : decode cX12_chain 87 = .ok (.iconst 0, 1) := by decide +kernel
theorem dX12_chain_88 : decode cX12_chain 88 = .ok (.putfield 349, 3) := by decide +kernel
theorem dX12_chain_91 : decode cX12_chain 91 = .ok (.aload_n 0, 1) := by decide +kernel
theorem dX12_chain_92 : decode cX12_chain 92 = .ok (.iload_n 1, 1) := by decide +kernel
theorem dX12_chain_93 : decode cX12_chain 93 = .ok (.iload_n 2, 1) := by decide +kernel
theorem dX12_chain_94 : decode cX12_chain 94 = .ok (.iload 4, 2) := by decide +kernel
theorem dX12_chain_96 : decode cX12_chain 96 = .ok (.iconst 0, 1) := by decide +kernel
theorem dX12_chain_97 : decode cX12_chain 97 = .ok (.iconst 0, 1) := by decide +kernel
theorem dX12_chain_98 : decode cX12_chain 98 = .ok (.invokevirtual 355, 3) := by decide +kernel
theorem dX12_chain_101 : decode cX12_chain 101 = .ok (.iload_n 3, 1) := by decide +kernel
theorem dX12_chain_102 : decode cX12_chain 102 = .ok (.ifCond .le 24, 3) := by decide +kernel
theorem dX12_chain_105 : decode cX12_chain 105 = .ok (.aload_n 0, 1) := by decide +kernel
theorem dX12_chain_106 : decode cX12_chain 106 = .ok (.getfield 349, 3) := by decide +kernel
theorem dX12_chain_109 : decode cX12_chain 109 = .ok (.ifCond .eq 9, 3) := by decide +kernel
theorem dX12_chain_112 : decode cX12_chain 112 = .ok (.iload_n 3, 1) := by decide +kernel
theorem dX12_chain_113 : decode cX12_chain 113 = .ok (.iload 4, 2) := by decide +kernel
theorem dX12_chain_115 : decode cX12_chain 115 = .ok (.if_icmp .le 11, 3) := by decide +kernel
theorem dX12_chain_118 : decode cX12_chain 118 = .ok (.aload_n 0, 1) := by decide +kernel
theorem dX12_chain_119 : decode cX12_chain 119 = .ok (.ldc_w 287, 3) := by decide +kernel
theorem dX12_chain_122 : decode cX12_chain 122 = .ok (.invokevirtual 84, 3) := by decide +kernel
theorem dX12_chain_125 : decode cX12_chain 125 = .ok (.ireturn, 1) := by decide +kernel
theorem dX12_chain_126 : decode cX12_chain 126 = .ok (.iload_n 3, 1) := by decide +kernel
theorem dX12_chain_127 : decode cX12_chain 127 = .ok (.ifCond .ne 10, 3) := by decide +kernel
theorem dX12_chain_130 : decode cX12_chain 130 = .ok (.aload_n 0, 1) := by decide +kernel
theorem dX12_chain_131 : decode cX12_chain 131 = .ok (.getfield 349, 3) := by decide +kernel
theorem dX12_chain_134 : decode cX12_chain 134 = .ok (.goto 11, 3) := by decide +kernel
theorem dX12_chain_137 : decode cX12_chain 137 = .ok (.aload_n 0, 1) := by decide +kernel
theorem dX12_chain_138 : decode cX12_chain 138 = .ok (.getfield 59, 3) := by decide +kernel
theorem dX12_chain_141 : decode cX12_chain 141 = .ok (.iload_n 3, 1) := by decide +kernel
theorem dX12_chain_142 : decode cX12_chain 142 = .ok (.iconst 1, 1) := by decide +kernel
theorem dX12_chain_143 : decode cX12_chain 143 = .ok (.isub, 1) := by decide +kernel
theorem dX12_chain_144 : decode cX12_chain 144 = .ok (.iaload, 1) := by decide +kernel
theorem dX12_chain_145 : decode cX12_chain 145 = .ok (.ireturn, 1) := by decide +kernel
theorem dX12_began_0 : decode cX12_began 0 = .ok (.aload_n 0, 1) := by decide +kernel
theorem dX12_began_1 : decode cX12_began 1 = .ok (.getfield 362, 3) := by decide +kernel
theorem dX12_began_4 : decode cX12_began 4 = .ok (.bipush 30, 2) := by decide +kernel
theorem dX12_began_6 : decode cX12_began 6 = .ok (.if_icmp .ge 23, 3) := by decide +kernel
theorem dX12_began_9 : decode cX12_began 9 = .ok (.aload_n 0, 1) := by decide +kernel
theorem dX12_began_10 : decode cX12_began 10 = .ok (.getfield 62, 3) := by decide +kernel
theorem dX12_began_13 : decode cX12_began 13 = .ok (.aload_n 0, 1) := by decide +kernel
theorem dX12_began_14 : decode cX12_began 14 = .ok (.getfield 362, 3) := by decide +kernel
theorem dX12_began_17 : decode cX12_began 17 = .ok (.iload_n 1, 1) := by decide +kernel
theorem dX12_began_18 : decode cX12_began 18 = .ok (.iastore, 1) := by decide +kernel
theorem dX12_began_19 : decode cX12_began 19 = .ok (.aload_n 0, 1) := by decide +kernel
theorem dX12_began_20 : decode cX12_began 20 = .ok (.dup, 1) := by decide +kernel
theorem dX12_began_21 : decode cX12_began 21 = .ok (.getfield 362, 3) := by decide +kernel
theorem dX12_began_24 : decode cX12_began 24 = .ok (.iconst 1, 1) := by decide +kernel
theorem dX12_began_25 : decode cX12_began 25 = .ok (.iadd, 1) := by decide +kernel
theorem dX12_began_26 : decode cX12_began 26 = .ok (.putfield 362, 3) := by decide +kernel
theorem dX12_began_29 : decode cX12_began 29 = .ok (.return_, 1) := by decide +kernel
theorem dX12_hasOwn_0 : decode cX12_hasOwn 0 = .ok (.iload_n 0, 1) := by decide +kernel
theorem dX12_hasOwn_1 : decode cX12_hasOwn 1 = .ok (.tableswitch 63 0 4 #[35, 37, 63, 63, 53], 35) := by decide +kernel
theorem dX12_hasOwn_36 : decode cX12_hasOwn 36 = .ok (.iconst 1, 1) := by decide +kernel
theorem dX12_hasOwn_37 : decode cX12_hasOwn 37 = .ok (.ireturn, 1) := by decide +kernel
theorem dX12_hasOwn_38 : decode cX12_hasOwn 38 = .ok (.iload_n 1, 1) := by decide +kernel
theorem dX12_hasOwn_39 : decode cX12_hasOwn 39 = .ok (.iconst 1, 1) := by decide +kernel
theorem dX12_hasOwn_40 : decode cX12_hasOwn 40 = .ok (.if_icmp .eq 8, 3) := by decide +kernel
theorem dX12_hasOwn_43 : decode cX12_hasOwn 43 = .ok (.iload_n 1, 1) := by decide +kernel
theorem dX12_hasOwn_44 : decode cX12_hasOwn 44 = .ok (.iconst 3, 1) := by decide +kernel
theorem dX12_hasOwn_45 : decode cX12_hasOwn 45 = .ok (.if_icmp .ne 7, 3) := by decide +kernel
theorem dX12_hasOwn_48 : decode cX12_hasOwn 48 = .ok (.iconst 1, 1) := by decide +kernel
theorem dX12_hasOwn_49 : decode cX12_hasOwn 49 = .ok (.goto 4, 3) := by decide +kernel
theorem dX12_hasOwn_52 : decode cX12_hasOwn 52 = .ok (.iconst 0, 1) := by decide +kernel
theorem dX12_hasOwn_53 : decode cX12_hasOwn 53 = .ok (.ireturn, 1) := by decide +kernel
theorem dX12_hasOwn_54 : decode cX12_hasOwn 54 = .ok (.iload_n 1, 1) := by decide +kernel
theorem dX12_hasOwn_55 : decode cX12_hasOwn 55 = .ok (.ifCond .le 7, 3) := by decide +kernel
theorem dX12_hasOwn_58 : decode cX12_hasOwn 58 = .ok (.iconst 1, 1) := by decide +kernel
theorem dX12_hasOwn_59 : decode cX12_hasOwn 59 = .ok (.goto 4, 3) := by decide +kernel
theorem dX12_hasOwn_62 : decode cX12_hasOwn 62 = .ok (.iconst 0, 1) := by decide +kernel
theorem dX12_hasOwn_63 : decode cX12_hasOwn 63 = .ok (.ireturn, 1) := by decide +kernel
theorem dX12_hasOwn_64 : decode cX12_hasOwn 64 = .ok (.iload_n 1, 1) := by decide +kernel
theorem dX12_hasOwn_65 : decode cX12_hasOwn 65 = .ok (.ifCond .eq 8, 3) := by decide +kernel
theorem dX12_hasOwn_68 : decode cX12_hasOwn 68 = .ok (.iload_n 1, 1) := by decide +kernel
theorem dX12_hasOwn_69 : decode cX12_hasOwn 69 = .ok (.iconst 2, 1) := by decide +kernel
theorem dX12_hasOwn_70 : decode cX12_hasOwn 70 = .ok (.if_icmp .ne 7, 3) := by decide +kernel
theorem dX12_hasOwn_73 : decode cX12_hasOwn 73 = .ok (.iconst 1, 1) := by decide +kernel
theorem dX12_hasOwn_74 : decode cX12_hasOwn 74 = .ok (.goto 4, 3) := by decide +kernel
theorem dX12_hasOwn_77 : decode cX12_hasOwn 77 = .ok (.iconst 0, 1) := by decide +kernel
theorem dX12_hasOwn_78 : decode cX12_hasOwn 78 = .ok (.ireturn, 1) := by decide +kernel
theorem dX12_voiced_0 : decode cX12_voiced 0 = .ok (.aload_n 0, 1) := by decide +kernel
theorem dX12_voiced_1 : decode cX12_voiced 1 = .ok (.aload_n 0, 1) := by decide +kernel
theorem dX12_voiced_2 : decode cX12_voiced 2 = .ok (.getfield 365, 3) := by decide +kernel
theorem dX12_voiced_5 : decode cX12_voiced 5 = .ok (.iload_n 1, 1) := by decide +kernel
theorem dX12_voiced_6 : decode cX12_voiced 6 = .ok (.iload_n 2, 1) := by decide +kernel
theorem dX12_voiced_7 : decode cX12_voiced 7 = .ok (.invokevirtual 368, 3) := by decide +kernel
theorem dX12_voiced_10 : decode cX12_voiced 10 = .ok (.ireturn, 1) := by decide +kernel
theorem dX12_bodyFrom_0 : decode cX12_bodyFrom 0 = .ok (.iload_n 1, 1) := by decide +kernel
theorem dX12_bodyFrom_1 : decode cX12_bodyFrom 1 = .ok (.istore 4, 2) := by decide +kernel
theorem dX12_bodyFrom_3 : decode cX12_bodyFrom 3 = .ok (.iload 4, 2) := by decide +kernel
theorem dX12_bodyFrom_5 : decode cX12_bodyFrom 5 = .ok (.iload_n 2, 1) := by decide +kernel
theorem dX12_bodyFrom_6 : decode cX12_bodyFrom 6 = .ok (.invokestatic 371, 3) := by decide +kernel
theorem dX12_bodyFrom_9 : decode cX12_bodyFrom 9 = .ok (.ifCond .ne 13, 3) := by decide +kernel
theorem dX12_bodyFrom_12 : decode cX12_bodyFrom 12 = .ok (.iload 4, 2) := by decide +kernel
theorem dX12_bodyFrom_14 : decode cX12_bodyFrom 14 = .ok (.invokestatic 304, 3) := by decide +kernel
theorem dX12_bodyFrom_17 : decode cX12_bodyFrom 17 = .ok (.istore 4, 2) := by decide +kernel
theorem dX12_bodyFrom_19 : decode cX12_bodyFrom 19 = .ok (.goto (-16), 3) := by decide +kernel
theorem dX12_bodyFrom_22 : decode cX12_bodyFrom 22 = .ok (.aload_n 0, 1) := by decide +kernel
theorem dX12_bodyFrom_23 : decode cX12_bodyFrom 23 = .ok (.getfield 374, 3) := by decide +kernel
theorem dX12_bodyFrom_26 : decode cX12_bodyFrom 26 = .ok (.ifCond .eq 7, 3) := by decide +kernel
theorem dX12_bodyFrom_29 : decode cX12_bodyFrom 29 = .ok (.iconst 0, 1) := by decide +kernel
theorem dX12_bodyFrom_30 : decode cX12_bodyFrom 30 = .ok (.goto 11, 3) := by decide +kernel
theorem dX12_bodyFrom_33 : decode cX12_bodyFrom 33 = .ok (.aload_n 0, 1) := by decide +kernel
theorem dX12_bodyFrom_34 : decode cX12_bodyFrom 34 = .ok (.iload 4, 2) := by decide +kernel
theorem dX12_bodyFrom_36 : decode cX12_bodyFrom 36 = .ok (.iload_n 2, 1) := by decide +kernel
theorem dX12_bodyFrom_37 : decode cX12_bodyFrom 37 = .ok (.iload_n 3, 1) := by decide +kernel
theorem dX12_bodyFrom_38 : decode cX12_bodyFrom 38 = .ok (.invokevirtual 377, 3) := by decide +kernel
theorem dX12_bodyFrom_41 : decode cX12_bodyFrom 41 = .ok (.ireturn, 1) := by decide +kernel
theorem dX12_body_0 : decode cX12_body 0 = .ok (.aload_n 0, 1) := by decide +kernel
theorem dX12_body_1 : decode cX12_body 1 = .ok (.aload_n 0, 1) := by decide +kernel
theorem dX12_body_2 : decode cX12_body 2 = .ok (.getfield 380, 3) := by decide +kernel
theorem dX12_body_5 : decode cX12_body 5 = .ok (.iconst 3, 1) := by decide +kernel
theorem dX12_body_6 : decode cX12_body 6 = .ok (.invokevirtual 292, 3) := by decide +kernel
theorem dX12_body_9 : decode cX12_body 9 = .ok (.istore 4, 2) := by decide +kernel
theorem dX12_body_11 : decode cX12_body 11 = .ok (.iconst 4, 1) := by decide +kernel
theorem dX12_body_12 : decode cX12_body 12 = .ok (.iload_n 1, 1) := by decide +kernel
theorem dX12_body_13 : decode cX12_body 13 = .ok (.imul, 1) := by decide +kernel
theorem dX12_body_14 : decode cX12_body 14 = .ok (.iload_n 2, 1) := by decide +kernel
theorem dX12_body_15 : decode cX12_body 15 = .ok (.iadd, 1) := by decide +kernel
theorem dX12_body_16 : decode cX12_body 16 = .ok (.tableswitch 330 0 18 #[92, 103, 118, 136, 330, 181, 330, 197, 222, 330, 238, 330, 255, 330, 270, 330, 330, 289, 305], 92) := by decide +kernel
theorem dX12_body_108 : decode cX12_body 108 = .ok (.aload_n 0, 1) := by decide +kernel
theorem dX12_body_109 : decode cX12_body 109 = .ok (.bipush 10, 2) := by decide +kernel
theorem dX12_body_111 : decode cX12_body 111 = .ok (.invokevirtual 383, 3) := by decide +kernel
theorem dX12_body_114 : decode cX12_body 114 = .ok (.iload_n 3, 1) := by decide +kernel
theorem dX12_body_115 : decode cX12_body 115 = .ok (.iload 4, 2) := by decide +kernel
theorem dX12_body_117 : decode cX12_body 117 = .ok (.iadd, 1) := by decide +kernel
theorem dX12_body_118 : decode cX12_body 118 = .ok (.ireturn, 1) := by decide +kernel
theorem dX12_body_119 : decode cX12_body 119 = .ok (.aload_n 0, 1) := by decide +kernel
theorem dX12_body_120 : decode cX12_body 120 = .ok (.bipush 11, 2) := by decide +kernel
theorem dX12_body_122 : decode cX12_body 122 = .ok (.invokevirtual 383, 3) := by decide +kernel
theorem dX12_body_125 : decode cX12_body 125 = .ok (.aload_n 0, 1) := by decide +kernel
theorem dX12_body_126 : decode cX12_body 126 = .ok (.iconst 0, 1) := by decide +kernel
theorem dX12_body_127 : decode cX12_body 127 = .ok (.iload_n 3, 1) := by decide +kernel
theorem dX12_body_128 : decode cX12_body 128 = .ok (.invokevirtual 386, 3) := by decide +kernel
theorem dX12_body_131 : decode cX12_body 131 = .ok (.iconst 2, 1) := by decide +kernel
theorem dX12_body_132 : decode cX12_body 132 = .ok (.imul, 1) := by decide +kernel
theorem dX12_body_133 : decode cX12_body 133 = .ok (.ireturn, 1) := by decide +kernel
theorem dX12_body_134 : decode cX12_body 134 = .ok (.aload_n 0, 1) := by decide +kernel
theorem dX12_body_135 : decode cX12_body 135 = .ok (.bipush 12, 2) := by decide +kernel
theorem dX12_body_137 : decode cX12_body 137 = .ok (.invokevirtual 383, 3) := by decide +kernel
theorem dX12_body_140 : decode cX12_body 140 = .ok (.aload_n 0, 1) := by decide +kernel
theorem dX12_body_141 : decode cX12_body 141 = .ok (.iconst 1, 1) := by decide +kernel
theorem dX12_body_142 : decode cX12_body 142 = .ok (.iload_n 3, 1) := by decide +kernel
theorem dX12_body_143 : decode cX12_body 143 = .ok (.invokevirtual 386, 3) := by decide +kernel
theorem dX12_body_146 : decode cX12_body 146 = .ok (.aload_n 0, 1) := by decide +kernel
theorem dX12_body_147 : decode cX12_body 147 = .ok (.getfield 380, 3) := by decide +kernel
theorem dX12_body_150 : decode cX12_body 150 = .ok (.isub, 1) := by decide +kernel
theorem dX12_body_151 : decode cX12_body 151 = .ok (.ireturn, 1) := by decide +kernel
theorem dX12_body_152 : decode cX12_body 152 = .ok (.aload_n 0, 1) := by decide +kernel
theorem dX12_body_153 : decode cX12_body 153 = .ok (.bipush 13, 2) := by decide +kernel
theorem dX12_body_155 : decode cX12_body 155 = .ok (.invokevirtual 383, 3) := by decide +kernel
theorem dX12_body_158 : decode cX12_body 158 = .ok (.aload_n 0, 1) := by decide +kernel
theorem dX12_body_159 : decode cX12_body 159 = .ok (.iload 4, 2) := by decide +kernel
theorem dX12_body_161 : decode cX12_body 161 = .ok (.aload_n 0, 1) := by decide +kernel
theorem dX12_body_162 : decode cX12_body 162 = .ok (.getfield 380, 3) := by decide +kernel
theorem dX12_body_165 : decode cX12_body 165 = .ok (.if_icmp .ne 7, 3) := by decide +kernel
theorem dX12_body_168 : decode cX12_body 168 = .ok (.iconst 1, 1) := by decide +kernel
theorem dX12_body_169 : decode cX12_body 169 = .ok (.goto 4, 3) := by decide +kernel
theorem dX12_body_172 : decode cX12_body 172 = .ok (.iconst 0, 1) := by decide +kernel
theorem dX12_body_173 : decode cX12_body 173 = .ok (.putfield 374, 3) := by decide +kernel
theorem dX12_body_176 : decode cX12_body 176 = .ok (.aload_n 0, 1) := by decide +kernel
theorem dX12_body_177 : decode cX12_body 177 = .ok (.getfield 374, 3) := by decide +kernel
theorem dX12_body_180 : decode cX12_body 180 = .ok (.ifCond .eq 7, 3) := by decide +kernel
theorem dX12_body_183 : decode cX12_body 183 = .ok (.iconst 0, 1) := by decide +kernel
theorem dX12_body_184 : decode cX12_body 184 = .ok (.goto 12, 3) := by decide +kernel
theorem dX12_body_187 : decode cX12_body 187 = .ok (.iload_n 3, 1) := by decide +kernel
theorem dX12_body_188 : decode cX12_body 188 = .ok (.iload 4, 2) := by decide +kernel
theorem dX12_body_190 : decode cX12_body 190 = .ok (.aload_n 0, 1) := by decide +kernel
theorem dX12_body_191 : decode cX12_body 191 = .ok (.getfield 380, 3) := by decide +kernel
theorem dX12_body_194 : decode cX12_body 194 = .ok (.isub, 1) := by decide +kernel
theorem dX12_body_195 : decode cX12_body 195 = .ok (.idiv, 1) := by decide +kernel
theorem dX12_body_196 : decode cX12_body 196 = .ok (.ireturn, 1) := by decide +kernel
theorem dX12_body_197 : decode cX12_body 197 = .ok (.aload_n 0, 1) := by decide +kernel
theorem dX12_body_198 : decode cX12_body 198 = .ok (.bipush 20, 2) := by decide +kernel
theorem dX12_body_200 : decode cX12_body 200 = .ok (.invokevirtual 383, 3) := by decide +kernel
theorem dX12_body_203 : decode cX12_body 203 = .ok (.aload_n 0, 1) := by decide +kernel
theorem dX12_body_204 : decode cX12_body 204 = .ok (.iconst 0, 1) := by decide +kernel
theorem dX12_body_205 : decode cX12_body 205 = .ok (.iconst 1, 1) := by decide +kernel
theorem dX12_body_206 : decode cX12_body 206 = .ok (.iload_n 3, 1) := by decide +kernel
theorem dX12_body_207 : decode cX12_body 207 = .ok (.invokevirtual 368, 3) := by decide +kernel
theorem dX12_body_210 : decode cX12_body 210 = .ok (.iconst 1, 1) := by decide +kernel
theorem dX12_body_211 : decode cX12_body 211 = .ok (.iadd, 1) := by decide +kernel
theorem dX12_body_212 : decode cX12_body 212 = .ok (.ireturn, 1) := by decide +kernel
theorem dX12_body_213 : decode cX12_body 213 = .ok (.aload_n 0, 1) := by decide +kernel
theorem dX12_body_214 : decode cX12_body 214 = .ok (.bipush 21, 2) := by decide +kernel
theorem dX12_body_216 : decode cX12_body 216 = .ok (.invokevirtual 383, 3) := by decide +kernel
theorem dX12_body_219 : decode cX12_body 219 = .ok (.aload_n 0, 1) := by decide +kernel
theorem dX12_body_220 : decode cX12_body 220 = .ok (.iconst 0, 1) := by decide +kernel
theorem dX12_body_221 : decode cX12_body 221 = .ok (.iconst 3, 1) := by decide +kernel
theorem dX12_body_222 : decode cX12_body 222 = .ok (.iload_n 3, 1) := by decide +kernel
theorem dX12_body_223 : decode cX12_body 223 = .ok (.invokevirtual 368, 3) := by decide +kernel
theorem dX12_body_226 : decode cX12_body 226 = .ok (.istore 5, 2) := by decide +kernel
theorem dX12_body_228 : decode cX12_body 228 = .ok (.iload 5, 2) := by decide +kernel
theorem dX12_body_230 : decode cX12_body 230 = .ok (.aload_n 0, 1) := by decide +kernel
theorem dX12_body_231 : decode cX12_body 231 = .ok (.iconst 2, 1) := by decide +kernel
theorem dX12_body_232 : decode cX12_body 232 = .ok (.iconst 1, 1) := by decide +kernel
theorem dX12_body_233 : decode cX12_body 233 = .ok (.invokevirtual 386, 3) := by decide +kernel
theorem dX12_body_236 : decode cX12_body 236 = .ok (.iadd, 1) := by decide +kernel
theorem dX12_body_237 : decode cX12_body 237 = .ok (.ireturn, 1) := by decide +kernel
theorem dX12_body_238 : decode cX12_body 238 = .ok (.aload_n 0, 1) := by decide +kernel
theorem dX12_body_239 : decode cX12_body 239 = .ok (.bipush 30, 2) := by decide +kernel
theorem dX12_body_241 : decode cX12_body 241 = .ok (.invokevirtual 383, 3) := by decide +kernel
theorem dX12_body_244 : decode cX12_body 244 = .ok (.aload_n 0, 1) := by decide +kernel
theorem dX12_body_245 : decode cX12_body 245 = .ok (.iconst 1, 1) := by decide +kernel
theorem dX12_body_246 : decode cX12_body 246 = .ok (.iconst 0, 1) := by decide +kernel
theorem dX12_body_247 : decode cX12_body 247 = .ok (.iload_n 3, 1) := by decide +kernel
theorem dX12_body_248 : decode cX12_body 248 = .ok (.invokevirtual 368, 3) := by decide +kernel
theorem dX12_body_251 : decode cX12_body 251 = .ok (.iconst 3, 1) := by decide +kernel
theorem dX12_body_252 : decode cX12_body 252 = .ok (.imul, 1) := by decide +kernel
theorem dX12_body_253 : decode cX12_body 253 = .ok (.ireturn, 1) := by decide +kernel
theorem dX12_body_254 : decode cX12_body 254 = .ok (.aload_n 0, 1) := by decide +kernel
theorem dX12_body_255 : decode cX12_body 255 = .ok (.bipush 31, 2) := by decide +kernel
theorem dX12_body_257 : decode cX12_body 257 = .ok (.invokevirtual 383, 3) := by decide +kernel
theorem dX12_body_260 : decode cX12_body 260 = .ok (.aload_n 0, 1) := by decide +kernel
theorem dX12_body_261 : decode cX12_body 261 = .ok (.iconst 1, 1) := by decide +kernel
theorem dX12_body_262 : decode cX12_body 262 = .ok (.iconst 2, 1) := by decide +kernel
theorem dX12_body_263 : decode cX12_body 263 = .ok (.iload_n 3, 1) := by decide +kernel
theorem dX12_body_264 : decode cX12_body 264 = .ok (.invokevirtual 368, 3) := by decide +kernel
theorem dX12_body_267 : decode cX12_body 267 = .ok (.iload 4, 2) := by decide +kernel
theorem dX12_body_269 : decode cX12_body 269 = .ok (.ixor, 1) := by decide +kernel
theorem dX12_body_270 : decode cX12_body 270 = .ok (.ireturn, 1) := by decide +kernel
theorem dX12_body_271 : decode cX12_body 271 = .ok (.aload_n 0, 1) := by decide +kernel
theorem dX12_body_272 : decode cX12_body 272 = .ok (.bipush 40, 2) := by decide +kernel
theorem dX12_body_274 : decode cX12_body 274 = .ok (.invokevirtual 383, 3) := by decide +kernel
theorem dX12_body_277 : decode cX12_body 277 = .ok (.aload_n 0, 1) := by decide +kernel
theorem dX12_body_278 : decode cX12_body 278 = .ok (.iconst 0, 1) := by decide +kernel
theorem dX12_body_279 : decode cX12_body 279 = .ok (.iconst 0, 1) := by decide +kernel
theorem dX12_body_280 : decode cX12_body 280 = .ok (.iload_n 3, 1) := by decide +kernel
theorem dX12_body_281 : decode cX12_body 281 = .ok (.invokevirtual 368, 3) := by decide +kernel
theorem dX12_body_284 : decode cX12_body 284 = .ok (.ineg, 1) := by decide +kernel
theorem dX12_body_285 : decode cX12_body 285 = .ok (.ireturn, 1) := by decide +kernel
theorem dX12_body_286 : decode cX12_body 286 = .ok (.aload_n 0, 1) := by decide +kernel
theorem dX12_body_287 : decode cX12_body 287 = .ok (.bipush 41, 2) := by decide +kernel
theorem dX12_body_289 : decode cX12_body 289 = .ok (.invokevirtual 383, 3) := by decide +kernel
theorem dX12_body_292 : decode cX12_body 292 = .ok (.aload_n 0, 1) := by decide +kernel
theorem dX12_body_293 : decode cX12_body 293 = .ok (.iconst 0, 1) := by decide +kernel
theorem dX12_body_294 : decode cX12_body 294 = .ok (.iconst 2, 1) := by decide +kernel
theorem dX12_body_295 : decode cX12_body 295 = .ok (.iload_n 3, 1) := by decide +kernel
theorem dX12_body_296 : decode cX12_body 296 = .ok (.aload_n 0, 1) := by decide +kernel
theorem dX12_body_297 : decode cX12_body 297 = .ok (.getfield 380, 3) := by decide +kernel
theorem dX12_body_300 : decode cX12_body 300 = .ok (.iadd, 1) := by decide +kernel
theorem dX12_body_301 : decode cX12_body 301 = .ok (.invokevirtual 368, 3) := by decide +kernel
theorem dX12_body_304 : decode cX12_body 304 = .ok (.ireturn, 1) := by decide +kernel
theorem dX12_body_305 : decode cX12_body 305 = .ok (.aload_n 0, 1) := by decide +kernel
theorem dX12_body_306 : decode cX12_body 306 = .ok (.bipush 50, 2) := by decide +kernel
theorem dX12_body_308 : decode cX12_body 308 = .ok (.invokevirtual 383, 3) := by decide +kernel
theorem dX12_body_311 : decode cX12_body 311 = .ok (.aload_n 0, 1) := by decide +kernel
theorem dX12_body_312 : decode cX12_body 312 = .ok (.iconst 3, 1) := by decide +kernel
theorem dX12_body_313 : decode cX12_body 313 = .ok (.iconst 1, 1) := by decide +kernel
theorem dX12_body_314 : decode cX12_body 314 = .ok (.iload_n 3, 1) := by decide +kernel
theorem dX12_body_315 : decode cX12_body 315 = .ok (.invokevirtual 368, 3) := by decide +kernel
theorem dX12_body_318 : decode cX12_body 318 = .ok (.iconst 2, 1) := by decide +kernel
theorem dX12_body_319 : decode cX12_body 319 = .ok (.idiv, 1) := by decide +kernel
theorem dX12_body_320 : decode cX12_body 320 = .ok (.ireturn, 1) := by decide +kernel
theorem dX12_body_321 : decode cX12_body 321 = .ok (.aload_n 0, 1) := by decide +kernel
theorem dX12_body_322 : decode cX12_body 322 = .ok (.bipush 51, 2) := by decide +kernel
theorem dX12_body_324 : decode cX12_body 324 = .ok (.invokevirtual 383, 3) := by decide +kernel
theorem dX12_body_327 : decode cX12_body 327 = .ok (.aload_n 0, 1) := by decide +kernel
theorem dX12_body_328 : decode cX12_body 328 = .ok (.iconst 3, 1) := by decide +kernel
theorem dX12_body_329 : decode cX12_body 329 = .ok (.iconst 2, 1) := by decide +kernel
theorem dX12_body_330 : decode cX12_body 330 = .ok (.iload_n 3, 1) := by decide +kernel
theorem dX12_body_331 : decode cX12_body 331 = .ok (.invokevirtual 368, 3) := by decide +kernel
theorem dX12_body_334 : decode cX12_body 334 = .ok (.istore 5, 2) := by decide +kernel
theorem dX12_body_336 : decode cX12_body 336 = .ok (.iload 5, 2) := by decide +kernel
theorem dX12_body_338 : decode cX12_body 338 = .ok (.aload_n 0, 1) := by decide +kernel
theorem dX12_body_339 : decode cX12_body 339 = .ok (.iconst 0, 1) := by decide +kernel
theorem dX12_body_340 : decode cX12_body 340 = .ok (.iconst 2, 1) := by decide +kernel
theorem dX12_body_341 : decode cX12_body 341 = .ok (.invokevirtual 386, 3) := by decide +kernel
theorem dX12_body_344 : decode cX12_body 344 = .ok (.isub, 1) := by decide +kernel
theorem dX12_body_345 : decode cX12_body 345 = .ok (.ireturn, 1) := by decide +kernel
theorem dX12_body_346 : decode cX12_body 346 = .ok (.aload_n 0, 1) := by decide +kernel
theorem dX12_body_347 : decode cX12_body 347 = .ok (.bipush 52, 2) := by decide +kernel
theorem dX12_body_349 : decode cX12_body 349 = .ok (.invokevirtual 383, 3) := by decide +kernel
theorem dX12_body_352 : decode cX12_body 352 = .ok (.aload_n 0, 1) := by decide +kernel
theorem dX12_body_353 : decode cX12_body 353 = .ok (.iconst 0, 1) := by decide +kernel
theorem dX12_body_354 : decode cX12_body 354 = .ok (.iload_n 3, 1) := by decide +kernel
theorem dX12_body_355 : decode cX12_body 355 = .ok (.invokevirtual 386, 3) := by decide +kernel
theorem dX12_body_358 : decode cX12_body 358 = .ok (.istore 5, 2) := by decide +kernel
theorem dX12_body_360 : decode cX12_body 360 = .ok (.iload 5, 2) := by decide +kernel
theorem dX12_body_362 : decode cX12_body 362 = .ok (.aload_n 0, 1) := by decide +kernel
theorem dX12_body_363 : decode cX12_body 363 = .ok (.iconst 3, 1) := by decide +kernel
theorem dX12_body_364 : decode cX12_body 364 = .ok (.iconst 3, 1) := by decide +kernel
theorem dX12_body_365 : decode cX12_body 365 = .ok (.iload_n 3, 1) := by decide +kernel
theorem dX12_body_366 : decode cX12_body 366 = .ok (.invokevirtual 368, 3) := by decide +kernel
theorem dX12_body_369 : decode cX12_body 369 = .ok (.isub, 1) := by decide +kernel
theorem dX12_body_370 : decode cX12_body 370 = .ok (.ireturn, 1) := by decide +kernel
theorem dX12_voice_0 : decode cX12_voice 0 = .ok (.aload_n 0, 1) := by decide +kernel
theorem dX12_voice_1 : decode cX12_voice 1 = .ok (.iload_n 1, 1) := by decide +kernel
theorem dX12_voice_2 : decode cX12_voice 2 = .ok (.iconst 4, 1) := by decide +kernel
theorem dX12_voice_3 : decode cX12_voice 3 = .ok (.invokevirtual 93, 3) := by decide +kernel
theorem dX12_voice_6 : decode cX12_voice 6 = .ok (.ifCond .eq 12, 3) := by decide +kernel
theorem dX12_voice_9 : decode cX12_voice 9 = .ok (.iload_n 2, 1) := by decide +kernel
theorem dX12_voice_10 : decode cX12_voice 10 = .ok (.iconst 0, 1) := by decide +kernel
theorem dX12_voice_11 : decode cX12_voice 11 = .ok (.iconst 3, 1) := by decide +kernel
theorem dX12_voice_12 : decode cX12_voice 12 = .ok (.invokestatic 78, 3) := by decide +kernel
theorem dX12_voice_15 : decode cX12_voice 15 = .ok (.ifCond .ne 10, 3) := by decide +kernel
theorem dX12_voice_18 : decode cX12_voice 18 = .ok (.aload_n 0, 1) := by decide +kernel
theorem dX12_voice_19 : decode cX12_voice 19 = .ok (.ldc 83, 2) := by decide +kernel
theorem dX12_voice_21 : decode cX12_voice 21 = .ok (.invokevirtual 84, 3) := by decide +kernel
theorem dX12_voice_24 : decode cX12_voice 24 = .ok (.ireturn, 1) := by decide +kernel
theorem dX12_voice_25 : decode cX12_voice 25 = .ok (.aload_n 0, 1) := by decide +kernel
theorem dX12_voice_26 : decode cX12_voice 26 = .ok (.iconst 0, 1) := by decide +kernel
theorem dX12_voice_27 : decode cX12_voice 27 = .ok (.putfield 362, 3) := by decide +kernel
theorem dX12_voice_30 : decode cX12_voice 30 = .ok (.aload_n 0, 1) := by decide +kernel
theorem dX12_voice_31 : decode cX12_voice 31 = .ok (.iload_n 1, 1) := by decide +kernel
theorem dX12_voice_32 : decode cX12_voice 32 = .ok (.putfield 380, 3) := by decide +kernel
theorem dX12_voice_35 : decode cX12_voice 35 = .ok (.aload_n 0, 1) := by decide +kernel
theorem dX12_voice_36 : decode cX12_voice 36 = .ok (.aload_n 0, 1) := by decide +kernel
theorem dX12_voice_37 : decode cX12_voice 37 = .ok (.iload_n 1, 1) := by decide +kernel
theorem dX12_voice_38 : decode cX12_voice 38 = .ok (.invokevirtual 301, 3) := by decide +kernel
theorem dX12_voice_41 : decode cX12_voice 41 = .ok (.putfield 365, 3) := by decide +kernel
theorem dX12_voice_44 : decode cX12_voice 44 = .ok (.aload_n 0, 1) := by decide +kernel
theorem dX12_voice_45 : decode cX12_voice 45 = .ok (.iconst 0, 1) := by decide +kernel
theorem dX12_voice_46 : decode cX12_voice 46 = .ok (.putfield 374, 3) := by decide +kernel
theorem dX12_voice_49 : decode cX12_voice 49 = .ok (.aload_n 0, 1) := by decide +kernel
theorem dX12_voice_50 : decode cX12_voice 50 = .ok (.iload_n 2, 1) := by decide +kernel
theorem dX12_voice_51 : decode cX12_voice 51 = .ok (.iload_n 3, 1) := by decide +kernel
theorem dX12_voice_52 : decode cX12_voice 52 = .ok (.invokevirtual 386, 3) := by decide +kernel
theorem dX12_voice_55 : decode cX12_voice 55 = .ok (.istore 4, 2) := by decide +kernel
theorem dX12_voice_57 : decode cX12_voice 57 = .ok (.aload_n 0, 1) := by decide +kernel
theorem dX12_voice_58 : decode cX12_voice 58 = .ok (.getfield 374, 3) := by decide +kernel
theorem dX12_voice_61 : decode cX12_voice 61 = .ok (.ifCond .eq 13, 3) := by decide +kernel
theorem dX12_voice_64 : decode cX12_voice 64 = .ok (.aload_n 0, 1) := by decide +kernel
theorem dX12_voice_65 : decode cX12_voice 65 = .ok (.ldc_w 389, 3) := by decide +kernel
theorem dX12_voice_68 : decode cX12_voice 68 = .ok (.invokevirtual 84, 3) := by decide +kernel
theorem dX12_voice_71 : decode cX12_voice 71 = .ok (.goto 5, 3) := by decide +kernel
theorem dX12_voice_74 : decode cX12_voice 74 = .ok (.iload 4, 2) := by decide +kernel
theorem dX12_voice_76 : decode cX12_voice 76 = .ok (.ireturn, 1) := by decide +kernel
theorem dX12_trace_0 : decode cX12_trace 0 = .ok (.iload_n 1, 1) := by decide +kernel
theorem dX12_trace_1 : decode cX12_trace 1 = .ok (.iconst 0, 1) := by decide +kernel
theorem dX12_trace_2 : decode cX12_trace 2 = .ok (.aload_n 0, 1) := by decide +kernel
theorem dX12_trace_3 : decode cX12_trace 3 = .ok (.getfield 362, 3) := by decide +kernel
theorem dX12_trace_6 : decode cX12_trace 6 = .ok (.iconst 1, 1) := by decide +kernel
theorem dX12_trace_7 : decode cX12_trace 7 = .ok (.isub, 1) := by decide +kernel
theorem dX12_trace_8 : decode cX12_trace 8 = .ok (.invokestatic 78, 3) := by decide +kernel
theorem dX12_trace_11 : decode cX12_trace 11 = .ok (.ifCond .eq 12, 3) := by decide +kernel
theorem dX12_trace_14 : decode cX12_trace 14 = .ok (.aload_n 0, 1) := by decide +kernel
theorem dX12_trace_15 : decode cX12_trace 15 = .ok (.getfield 62, 3) := by decide +kernel
theorem dX12_trace_18 : decode cX12_trace 18 = .ok (.iload_n 1, 1) := by decide +kernel
theorem dX12_trace_19 : decode cX12_trace 19 = .ok (.iaload, 1) := by decide +kernel
theorem dX12_trace_20 : decode cX12_trace 20 = .ok (.goto 10, 3) := by decide +kernel
theorem dX12_trace_23 : decode cX12_trace 23 = .ok (.aload_n 0, 1) := by decide +kernel
theorem dX12_trace_24 : decode cX12_trace 24 = .ok (.ldc_w 287, 3) := by decide +kernel
theorem dX12_trace_27 : decode cX12_trace 27 = .ok (.invokevirtual 84, 3) := by decide +kernel
theorem dX12_trace_30 : decode cX12_trace 30 = .ok (.ireturn, 1) := by decide +kernel
theorem dX12_isSheet_0 : decode cX12_isSheet 0 = .ok (.iload_n 0, 1) := by decide +kernel
theorem dX12_isSheet_1 : decode cX12_isSheet 1 = .ok (.iconst 0, 1) := by decide +kernel
theorem dX12_isSheet_2 : decode cX12_isSheet 2 = .ok (.iconst 3, 1) := by decide +kernel
theorem dX12_isSheet_3 : decode cX12_isSheet 3 = .ok (.invokestatic 78, 3) := by decide +kernel
theorem dX12_isSheet_6 : decode cX12_isSheet 6 = .ok (.ireturn, 1) := by decide +kernel
theorem dX12_sheet_0 : decode cX12_sheet 0 = .ok (.iload_n 1, 1) := by decide +kernel
theorem dX12_sheet_1 : decode cX12_sheet 1 = .ok (.invokestatic 359, 3) := by decide +kernel
theorem dX12_sheet_4 : decode cX12_sheet 4 = .ok (.ifCond .eq 25, 3) := by decide +kernel
theorem dX12_sheet_7 : decode cX12_sheet 7 = .ok (.iload_n 2, 1) := by decide +kernel
theorem dX12_sheet_8 : decode cX12_sheet 8 = .ok (.ifCond .eq 28, 3) := by decide +kernel
theorem dX12_sheet_11 : decode cX12_sheet 11 = .ok (.iload_n 2, 1) := by decide +kernel
theorem dX12_sheet_12 : decode cX12_sheet 12 = .ok (.bipush 8, 2) := by decide +kernel
theorem dX12_sheet_14 : decode cX12_sheet 14 = .ok (.if_icmp .eq 22, 3) := by decide +kernel
theorem dX12_sheet_17 : decode cX12_sheet 17 = .ok (.iload_n 2, 1) := by decide +kernel
theorem dX12_sheet_18 : decode cX12_sheet 18 = .ok (.bipush 16, 2) := by decide +kernel
theorem dX12_sheet_20 : decode cX12_sheet 20 = .ok (.if_icmp .eq 16, 3) := by decide +kernel
theorem dX12_sheet_23 : decode cX12_sheet 23 = .ok (.iload_n 2, 1) := by decide +kernel
theorem dX12_sheet_24 : decode cX12_sheet 24 = .ok (.bipush 32, 2) := by decide +kernel
theorem dX12_sheet_26 : decode cX12_sheet 26 = .ok (.if_icmp .eq 10, 3) := by decide +kernel
theorem dX12_sheet_29 : decode cX12_sheet 29 = .ok (.aload_n 0, 1) := by decide +kernel
theorem dX12_sheet_30 : decode cX12_sheet 30 = .ok (.ldc 83, 2) := by decide +kernel
theorem dX12_sheet_32 : decode cX12_sheet 32 = .ok (.invokevirtual 84, 3) := by decide +kernel
theorem dX12_sheet_35 : decode cX12_sheet 35 = .ok (.ireturn, 1) := by decide +kernel
theorem dX12_sheet_36 : decode cX12_sheet 36 = .ok (.iload_n 2, 1) := by decide +kernel
theorem dX12_sheet_37 : decode cX12_sheet 37 = .ok (.ifCond .eq 15, 3) := by decide +kernel
theorem dX12_sheet_40 : decode cX12_sheet 40 = .ok (.iload_n 3, 1) := by decide +kernel
theorem dX12_sheet_41 : decode cX12_sheet 41 = .ok (.ifCond .ge 11, 3) := by decide +kernel
theorem dX12_sheet_44 : decode cX12_sheet 44 = .ok (.aload_n 0, 1) := by decide +kernel
theorem dX12_sheet_45 : decode cX12_sheet 45 = .ok (.ldc_w 390, 3) := by decide +kernel
theorem dX12_sheet_48 : decode cX12_sheet 48 = .ok (.invokevirtual 84, 3) := by decide +kernel
theorem dX12_sheet_51 : decode cX12_sheet 51 = .ok (.ireturn, 1) := by decide +kernel
theorem dX12_sheet_52 : decode cX12_sheet 52 = .ok (.iload_n 2, 1) := by decide +kernel
theorem dX12_sheet_53 : decode cX12_sheet 53 = .ok (.ifCond .eq 16, 3) := by decide +kernel
theorem dX12_sheet_56 : decode cX12_sheet 56 = .ok (.iload_n 3, 1) := by decide +kernel
theorem dX12_sheet_57 : decode cX12_sheet 57 = .ok (.bipush 24, 2) := by decide +kernel
theorem dX12_sheet_59 : decode cX12_sheet 59 = .ok (.if_icmp .le 10, 3) := by decide +kernel
theorem dX12_sheet_62 : decode cX12_sheet 62 = .ok (.aload_n 0, 1) := by decide +kernel
theorem dX12_sheet_63 : decode cX12_sheet 63 = .ok (.ldc 83, 2) := by decide +kernel
theorem dX12_sheet_65 : decode cX12_sheet 65 = .ok (.invokevirtual 84, 3) := by decide +kernel
theorem dX12_sheet_68 : decode cX12_sheet 68 = .ok (.ireturn, 1) := by decide +kernel
theorem dX12_sheet_69 : decode cX12_sheet 69 = .ok (.aload_n 0, 1) := by decide +kernel
theorem dX12_sheet_70 : decode cX12_sheet 70 = .ok (.getfield 65, 3) := by decide +kernel
theorem dX12_sheet_73 : decode cX12_sheet 73 = .ok (.iload_n 1, 1) := by decide +kernel
theorem dX12_sheet_74 : decode cX12_sheet 74 = .ok (.iload_n 2, 1) := by decide +kernel
theorem dX12_sheet_75 : decode cX12_sheet 75 = .ok (.iastore, 1) := by decide +kernel
theorem dX12_sheet_76 : decode cX12_sheet 76 = .ok (.aload_n 0, 1) := by decide +kernel
theorem dX12_sheet_77 : decode cX12_sheet 77 = .ok (.getfield 68, 3) := by decide +kernel
theorem dX12_sheet_80 : decode cX12_sheet 80 = .ok (.iload_n 1, 1) := by decide +kernel
theorem dX12_sheet_81 : decode cX12_sheet 81 = .ok (.iload_n 2, 1) := by decide +kernel
theorem dX12_sheet_82 : decode cX12_sheet 82 = .ok (.ifCond .ne 7, 3) := by decide +kernel
theorem dX12_sheet_85 : decode cX12_sheet 85 = .ok (.iconst 0, 1) := by decide +kernel
theorem dX12_sheet_86 : decode cX12_sheet 86 = .ok (.goto 4, 3) := by decide +kernel
theorem dX12_sheet_89 : decode cX12_sheet 89 = .ok (.iload_n 3, 1) := by decide +kernel
theorem dX12_sheet_90 : decode cX12_sheet 90 = .ok (.iastore, 1) := by decide +kernel
theorem dX12_sheet_91 : decode cX12_sheet 91 = .ok (.iconst 0, 1) := by decide +kernel
theorem dX12_sheet_92 : decode cX12_sheet 92 = .ok (.istore 4, 2) := by decide +kernel
theorem dX12_sheet_94 : decode cX12_sheet 94 = .ok (.iload 4, 2) := by decide +kernel
theorem dX12_sheet_96 : decode cX12_sheet 96 = .ok (.bipush 24, 2) := by decide +kernel
theorem dX12_sheet_98 : decode cX12_sheet 98 = .ok (.if_icmp .ge 22, 3) := by decide +kernel
theorem dX12_sheet_101 : decode cX12_sheet 101 = .ok (.aload_n 0, 1) := by decide +kernel
theorem dX12_sheet_102 : decode cX12_sheet 102 = .ok (.getfield 71, 3) := by decide +kernel
theorem dX12_sheet_105 : decode cX12_sheet 105 = .ok (.bipush 24, 2) := by decide +kernel
theorem dX12_sheet_107 : decode cX12_sheet 107 = .ok (.iload_n 1, 1) := by decide +kernel
theorem dX12_sheet_108 : decode cX12_sheet 108 = .ok (.imul, 1) := by decide +kernel
theorem dX12_sheet_109 : decode cX12_sheet 109 = .ok (.iload 4, 2) := by decide +kernel
theorem dX12_sheet_111 : decode cX12_sheet 111 = .ok (.iadd, 1) := by decide +kernel
theorem dX12_sheet_112 : decode cX12_sheet 112 = .ok (.iconst 0, 1) := by decide +kernel
theorem dX12_sheet_113 : decode cX12_sheet 113 = .ok (.iastore, 1) := by decide +kernel
theorem dX12_sheet_114 : decode cX12_sheet 114 = .ok (.iinc 4 1, 3) := by decide +kernel
theorem dX12_sheet_117 : decode cX12_sheet 117 = .ok (.goto (-23), 3) := by decide +kernel
theorem dX12_sheet_120 : decode cX12_sheet 120 = .ok (.iconst 1, 1) := by decide +kernel
theorem dX12_sheet_121 : decode cX12_sheet 121 = .ok (.ireturn, 1) := by decide +kernel
theorem dX12_put_0 : decode cX12_put 0 = .ok (.iload_n 1, 1) := by decide +kernel
theorem dX12_put_1 : decode cX12_put 1 = .ok (.invokestatic 359, 3) := by decide +kernel
theorem dX12_put_4 : decode cX12_put 4 = .ok (.ifCond .ne 10, 3) := by decide +kernel
theorem dX12_put_7 : decode cX12_put 7 = .ok (.aload_n 0, 1) := by decide +kernel
theorem dX12_put_8 : decode cX12_put 8 = .ok (.ldc 83, 2) := by decide +kernel
theorem dX12_put_10 : decode cX12_put 10 = .ok (.invokevirtual 84, 3) := by decide +kernel
theorem dX12_put_13 : decode cX12_put 13 = .ok (.ireturn, 1) := by decide +kernel
theorem dX12_put_14 : decode cX12_put 14 = .ok (.aload_n 0, 1) := by decide +kernel
theorem dX12_put_15 : decode cX12_put 15 = .ok (.getfield 65, 3) := by decide +kernel
theorem dX12_put_18 : decode cX12_put 18 = .ok (.iload_n 1, 1) := by decide +kernel
theorem dX12_put_19 : decode cX12_put 19 = .ok (.iaload, 1) := by decide +kernel
theorem dX12_put_20 : decode cX12_put 20 = .ok (.ifCond .ne 11, 3) := by decide +kernel
theorem dX12_put_23 : decode cX12_put 23 = .ok (.aload_n 0, 1) := by decide +kernel
theorem dX12_put_24 : decode cX12_put 24 = .ok (.ldc_w 287, 3) := by decide +kernel
theorem dX12_put_27 : decode cX12_put 27 = .ok (.invokevirtual 84, 3) := by decide +kernel
theorem dX12_put_30 : decode cX12_put 30 = .ok (.ireturn, 1) := by decide +kernel
theorem dX12_put_31 : decode cX12_put 31 = .ok (.iload_n 2, 1) := by decide +kernel
theorem dX12_put_32 : decode cX12_put 32 = .ok (.iconst 0, 1) := by decide +kernel
theorem dX12_put_33 : decode cX12_put 33 = .ok (.aload_n 0, 1) := by decide +kernel
theorem dX12_put_34 : decode cX12_put 34 = .ok (.getfield 68, 3) := by decide +kernel
theorem dX12_put_37 : decode cX12_put 37 = .ok (.iload_n 1, 1) := by decide +kernel
theorem dX12_put_38 : decode cX12_put 38 = .ok (.iaload, 1) := by decide +kernel
theorem dX12_put_39 : decode cX12_put 39 = .ok (.iconst 1, 1) := by decide +kernel
theorem dX12_put_40 : decode cX12_put 40 = .ok (.isub, 1) := by decide +kernel
theorem dX12_put_41 : decode cX12_put 41 = .ok (.invokestatic 78, 3) := by decide +kernel
theorem dX12_put_44 : decode cX12_put 44 = .ok (.ifCond .ne 10, 3) := by decide +kernel
theorem dX12_put_47 : decode cX12_put 47 = .ok (.aload_n 0, 1) := by decide +kernel
theorem dX12_put_48 : decode cX12_put 48 = .ok (.ldc 83, 2) := by decide +kernel
theorem dX12_put_50 : decode cX12_put 50 = .ok (.invokevirtual 84, 3) := by decide +kernel
theorem dX12_put_53 : decode cX12_put 53 = .ok (.ireturn, 1) := by decide +kernel
theorem dX12_put_54 : decode cX12_put 54 = .ok (.aload_n 0, 1) := by decide +kernel
theorem dX12_put_55 : decode cX12_put 55 = .ok (.getfield 71, 3) := by decide +kernel
theorem dX12_put_58 : decode cX12_put 58 = .ok (.bipush 24, 2) := by decide +kernel
theorem dX12_put_60 : decode cX12_put 60 = .ok (.iload_n 1, 1) := by decide +kernel
theorem dX12_put_61 : decode cX12_put 61 = .ok (.imul, 1) := by decide +kernel
theorem dX12_put_62 : decode cX12_put 62 = .ok (.iload_n 2, 1) := by decide +kernel
theorem dX12_put_63 : decode cX12_put 63 = .ok (.iadd, 1) := by decide +kernel
theorem dX12_put_64 : decode cX12_put 64 = .ok (.aload_n 0, 1) := by decide +kernel
theorem dX12_put_65 : decode cX12_put 65 = .ok (.getfield 65, 3) := by decide +kernel
theorem dX12_put_68 : decode cX12_put 68 = .ok (.iload_n 1, 1) := by decide +kernel
theorem dX12_put_69 : decode cX12_put 69 = .ok (.iaload, 1) := by decide +kernel
theorem dX12_put_70 : decode cX12_put 70 = .ok (.bipush 8, 2) := by decide +kernel
theorem dX12_put_72 : decode cX12_put 72 = .ok (.if_icmp .ne 8, 3) := by decide +kernel
theorem dX12_put_75 : decode cX12_put 75 = .ok (.iload_n 3, 1) := by decide +kernel
theorem dX12_put_76 : decode cX12_put 76 = .ok (.i2b, 1) := by decide +kernel
theorem dX12_put_77 : decode cX12_put 77 = .ok (.goto 20, 3) := by decide +kernel
theorem dX12_put_80 : decode cX12_put 80 = .ok (.aload_n 0, 1) := by decide +kernel
theorem dX12_put_81 : decode cX12_put 81 = .ok (.getfield 65, 3) := by decide +kernel
theorem dX12_put_84 : decode cX12_put 84 = .ok (.iload_n 1, 1) := by decide +kernel
theorem dX12_put_85 : decode cX12_put 85 = .ok (.iaload, 1) := by decide +kernel
theorem dX12_put_86 : decode cX12_put 86 = .ok (.bipush 16, 2) := by decide +kernel
theorem dX12_put_88 : decode cX12_put 88 = .ok (.if_icmp .ne 8, 3) := by decide +kernel
theorem dX12_put_91 : decode cX12_put 91 = .ok (.iload_n 3, 1) := by decide +kernel
theorem dX12_put_92 : decode cX12_put 92 = .ok (.i2s, 1) := by decide +kernel
theorem dX12_put_93 : decode cX12_put 93 = .ok (.goto 4, 3) := by decide +kernel
theorem dX12_put_96 : decode cX12_put 96 = .ok (.iload_n 3, 1) := by decide +kernel
theorem dX12_put_97 : decode cX12_put 97 = .ok (.iastore, 1) := by decide +kernel
theorem dX12_put_98 : decode cX12_put 98 = .ok (.iconst 1, 1) := by decide +kernel
theorem dX12_put_99 : decode cX12_put 99 = .ok (.ireturn, 1) := by decide +kernel
theorem dX12_move_0 : decode cX12_move 0 = .ok (.iload_n 1, 1) := by decide +kernel
theorem dX12_move_1 : decode cX12_move 1 = .ok (.invokestatic 359, 3) := by decide +kernel
theorem dX12_move_4 : decode cX12_move 4 = .ok (.ifCond .eq 10, 3) := by decide +kernel
theorem dX12_move_7 : decode cX12_move 7 = .ok (.iload_n 3, 1) := by decide +kernel
theorem dX12_move_8 : decode cX12_move 8 = .ok (.invokestatic 359, 3) := by decide +kernel
theorem dX12_move_11 : decode cX12_move 11 = .ok (.ifCond .ne 10, 3) := by decide +kernel
theorem dX12_move_14 : decode cX12_move 14 = .ok (.aload_n 0, 1) := by decide +kernel
theorem dX12_move_15 : decode cX12_move 15 = .ok (.ldc 83, 2) := by decide +kernel
theorem dX12_move_17 : decode cX12_move 17 = .ok (.invokevirtual 84, 3) := by decide +kernel
theorem dX12_move_20 : decode cX12_move 20 = .ok (.ireturn, 1) := by decide +kernel
theorem dX12_move_21 : decode cX12_move 21 = .ok (.aload_n 0, 1) := by decide +kernel
theorem dX12_move_22 : decode cX12_move 22 = .ok (.getfield 65, 3) := by decide +kernel
theorem dX12_move_25 : decode cX12_move 25 = .ok (.iload_n 1, 1) := by decide +kernel
theorem dX12_move_26 : decode cX12_move 26 = .ok (.iaload, 1) := by decide +kernel
theorem dX12_move_27 : decode cX12_move 27 = .ok (.ifCond .eq 12, 3) := by decide +kernel
theorem dX12_move_30 : decode cX12_move 30 = .ok (.aload_n 0, 1) := by decide +kernel
theorem dX12_move_31 : decode cX12_move 31 = .ok (.getfield 65, 3) := by decide +kernel
theorem dX12_move_34 : decode cX12_move 34 = .ok (.iload_n 3, 1) := by decide +kernel
theorem dX12_move_35 : decode cX12_move 35 = .ok (.iaload, 1) := by decide +kernel
theorem dX12_move_36 : decode cX12_move 36 = .ok (.ifCond .ne 11, 3) := by decide +kernel
theorem dX12_move_39 : decode cX12_move 39 = .ok (.aload_n 0, 1) := by decide +kernel
theorem dX12_move_40 : decode cX12_move 40 = .ok (.ldc_w 287, 3) := by decide +kernel
theorem dX12_move_43 : decode cX12_move 43 = .ok (.invokevirtual 84, 3) := by decide +kernel
theorem dX12_move_46 : decode cX12_move 46 = .ok (.ireturn, 1) := by decide +kernel
theorem dX12_move_47 : decode cX12_move 47 = .ok (.aload_n 0, 1) := by decide +kernel
theorem dX12_move_48 : decode cX12_move 48 = .ok (.getfield 65, 3) := by decide +kernel
theorem dX12_move_51 : decode cX12_move 51 = .ok (.iload_n 1, 1) := by decide +kernel
theorem dX12_move_52 : decode cX12_move 52 = .ok (.iaload, 1) := by decide +kernel
theorem dX12_move_53 : decode cX12_move 53 = .ok (.aload_n 0, 1) := by decide +kernel
theorem dX12_move_54 : decode cX12_move 54 = .ok (.getfield 65, 3) := by decide +kernel
theorem dX12_move_57 : decode cX12_move 57 = .ok (.iload_n 3, 1) := by decide +kernel
theorem dX12_move_58 : decode cX12_move 58 = .ok (.iaload, 1) := by decide +kernel
theorem dX12_move_59 : decode cX12_move 59 = .ok (.if_icmp .eq 10, 3) := by decide +kernel
theorem dX12_move_62 : decode cX12_move 62 = .ok (.aload_n 0, 1) := by decide +kernel
theorem dX12_move_63 : decode cX12_move 63 = .ok (.ldc 104, 2) := by decide +kernel
theorem dX12_move_65 : decode cX12_move 65 = .ok (.invokevirtual 84, 3) := by decide +kernel
theorem dX12_move_68 : decode cX12_move 68 = .ok (.ireturn, 1) := by decide +kernel
theorem dX12_move_69 : decode cX12_move 69 = .ok (.iload 5, 2) := by decide +kernel
theorem dX12_move_71 : decode cX12_move 71 = .ok (.ifCond .lt 47, 3) := by decide +kernel
theorem dX12_move_74 : decode cX12_move 74 = .ok (.iload_n 2, 1) := by decide +kernel
theorem dX12_move_75 : decode cX12_move 75 = .ok (.ifCond .lt 43, 3) := by decide +kernel
theorem dX12_move_78 : decode cX12_move 78 = .ok (.iload 4, 2) := by decide +kernel
theorem dX12_move_80 : decode cX12_move 80 = .ok (.ifCond .lt 38, 3) := by decide +kernel
theorem dX12_move_83 : decode cX12_move 83 = .ok (.iload_n 2, 1) := by decide +kernel
theorem dX12_move_84 : decode cX12_move 84 = .ok (.i2l, 1) := by decide +kernel
theorem dX12_move_85 : decode cX12_move 85 = .ok (.iload 5, 2) := by decide +kernel
theorem dX12_move_87 : decode cX12_move 87 = .ok (.i2l, 1) := by decide +kernel
theorem dX12_move_88 : decode cX12_move 88 = .ok (.ladd, 1) := by decide +kernel
theorem dX12_move_89 : decode cX12_move 89 = .ok (.aload_n 0, 1) := by decide +kernel
theorem dX12_move_90 : decode cX12_move 90 = .ok (.getfield 68, 3) := by decide +kernel
theorem dX12_move_93 : decode cX12_move 93 = .ok (.iload_n 1, 1) := by decide +kernel
theorem dX12_move_94 : decode cX12_move 94 = .ok (.iaload, 1) := by decide +kernel
theorem dX12_move_95 : decode cX12_move 95 = .ok (.i2l, 1) := by decide +kernel
theorem dX12_move_96 : decode cX12_move 96 = .ok (.lcmp, 1) := by decide +kernel
theorem dX12_move_97 : decode cX12_move 97 = .ok (.ifCond .gt 21, 3) := by decide +kernel
theorem dX12_move_100 : decode cX12_move 100 = .ok (.iload 4, 2) := by decide +kernel
theorem dX12_move_102 : decode cX12_move 102 = .ok (.i2l, 1) := by decide +kernel
theorem dX12_move_103 : decode cX12_move 103 = .ok (.iload 5, 2) := by decide +kernel
theorem dX12_move_105 : decode cX12_move 105 = .ok (.i2l, 1) := by decide +kernel
theorem dX12_move_106 : decode cX12_move 106 = .ok (.ladd, 1) := by decide +kernel
theorem dX12_move_107 : decode cX12_move 107 = .ok (.aload_n 0, 1) := by decide +kernel
theorem dX12_move_108 : decode cX12_move 108 = .ok (.getfield 68, 3) := by decide +kernel
theorem dX12_move_111 : decode cX12_move 111 = .ok (.iload_n 3, 1) := by decide +kernel
theorem dX12_move_112 : decode cX12_move 112 = .ok (.iaload, 1) := by decide +kernel
theorem dX12_move_113 : decode cX12_move 113 = .ok (.i2l, 1) := by decide +kernel
theorem dX12_move_114 : decode cX12_move 114 = .ok (.lcmp, 1) := by decide +kernel
theorem dX12_move_115 : decode cX12_move 115 = .ok (.ifCond .le 10, 3) := by decide +kernel
theorem dX12_move_118 : decode cX12_move 118 = .ok (.aload_n 0, 1) := by decide +kernel
theorem dX12_move_119 : decode cX12_move 119 = .ok (.ldc 83, 2) := by decide +kernel
theorem dX12_move_121 : decode cX12_move 121 = .ok (.invokevirtual 84, 3) := by decide +kernel
theorem dX12_move_124 : decode cX12_move 124 = .ok (.ireturn, 1) := by decide +kernel
theorem dX12_move_125 : decode cX12_move 125 = .ok (.iconst 0, 1) := by decide +kernel
theorem dX12_move_126 : decode cX12_move 126 = .ok (.istore 6, 2) := by decide +kernel
theorem dX12_move_128 : decode cX12_move 128 = .ok (.iload 6, 2) := by decide +kernel
theorem dX12_move_130 : decode cX12_move 130 = .ok (.iload 5, 2) := by decide +kernel
theorem dX12_move_132 : decode cX12_move 132 = .ok (.if_icmp .ge 30, 3) := by decide +kernel
theorem dX12_move_135 : decode cX12_move 135 = .ok (.aload_n 0, 1) := by decide +kernel
theorem dX12_move_136 : decode cX12_move 136 = .ok (.getfield 74, 3) := by decide +kernel
theorem dX12_move_139 : decode cX12_move 139 = .ok (.iload 6, 2) := by decide +kernel
theorem dX12_move_141 : decode cX12_move 141 = .ok (.aload_n 0, 1) := by decide +kernel
theorem dX12_move_142 : decode cX12_move 142 = .ok (.getfield 71, 3) := by decide +kernel
theorem dX12_move_145 : decode cX12_move 145 = .ok (.bipush 24, 2) := by decide +kernel
theorem dX12_move_147 : decode cX12_move 147 = .ok (.iload_n 1, 1) := by decide +kernel
theorem dX12_move_148 : decode cX12_move 148 = .ok (.imul, 1) := by decide +kernel
theorem dX12_move_149 : decode cX12_move 149 = .ok (.iload_n 2, 1) := by decide +kernel
theorem dX12_move_150 : decode cX12_move 150 = .ok (.iadd, 1) := by decide +kernel
theorem dX12_move_151 : decode cX12_move 151 = .ok (.iload 6, 2) := by decide +kernel
theorem dX12_move_153 : decode cX12_move 153 = .ok (.iadd, 1) := by decide +kernel
theorem dX12_move_154 : decode cX12_move 154 = .ok (.iaload, 1) := by decide +kernel
theorem dX12_move_155 : decode cX12_move 155 = .ok (.iastore, 1) := by decide +kernel
theorem dX12_move_156 : decode cX12_move 156 = .ok (.iinc 6 1, 3) := by decide +kernel
theorem dX12_move_159 : decode cX12_move 159 = .ok (.goto (-31), 3) := by decide +kernel
theorem dX12_move_162 : decode cX12_move 162 = .ok (.iconst 0, 1) := by decide +kernel
theorem dX12_move_163 : decode cX12_move 163 = .ok (.istore 6, 2) := by decide +kernel
theorem dX12_move_165 : decode cX12_move 165 = .ok (.iload 6, 2) := by decide +kernel
theorem dX12_move_167 : decode cX12_move 167 = .ok (.iload 5, 2) := by decide +kernel
theorem dX12_move_169 : decode cX12_move 169 = .ok (.if_icmp .ge 31, 3) := by decide +kernel
theorem dX12_move_172 : decode cX12_move 172 = .ok (.aload_n 0, 1) := by decide +kernel
theorem dX12_move_173 : decode cX12_move 173 = .ok (.getfield 71, 3) := by decide +kernel
theorem dX12_move_176 : decode cX12_move 176 = .ok (.bipush 24, 2) := by decide +kernel
theorem dX12_move_178 : decode cX12_move 178 = .ok (.iload_n 3, 1) := by decide +kernel
theorem dX12_move_179 : decode cX12_move 179 = .ok (.imul, 1) := by decide +kernel
theorem dX12_move_180 : decode cX12_move 180 = .ok (.iload 4, 2) := by decide +kernel
theorem dX12_move_182 : decode cX12_move 182 = .ok (.iadd, 1) := by decide +kernel
theorem dX12_move_183 : decode cX12_move 183 = .ok (.iload 6, 2) := by decide +kernel
theorem dX12_move_185 : decode cX12_move 185 = .ok (.iadd, 1) := by decide +kernel
theorem dX12_move_186 : decode cX12_move 186 = .ok (.aload_n 0, 1) := by decide +kernel
theorem dX12_move_187 : decode cX12_move 187 = .ok (.getfield 74, 3) := by decide +kernel
theorem dX12_move_190 : decode cX12_move 190 = .ok (.iload 6, 2) := by decide +kernel
theorem dX12_move_192 : decode cX12_move 192 = .ok (.iaload, 1) := by decide +kernel
theorem dX12_move_193 : decode cX12_move 193 = .ok (.iastore, 1) := by decide +kernel
theorem dX12_move_194 : decode cX12_move 194 = .ok (.iinc 6 1, 3) := by decide +kernel
theorem dX12_move_197 : decode cX12_move 197 = .ok (.goto (-32), 3) := by decide +kernel
theorem dX12_move_200 : decode cX12_move 200 = .ok (.iload 5, 2) := by decide +kernel
theorem dX12_move_202 : decode cX12_move 202 = .ok (.ireturn, 1) := by decide +kernel
theorem dX12_copy_0 : decode cX12_copy 0 = .ok (.iconst 0, 1) := by decide +kernel
theorem dX12_copy_1 : decode cX12_copy 1 = .ok (.istore_n 2, 1) := by decide +kernel
theorem dX12_copy_2 : decode cX12_copy 2 = .ok (.iload_n 2, 1) := by decide +kernel
theorem dX12_copy_3 : decode cX12_copy 3 = .ok (.sipush 1421, 3) := by decide +kernel
theorem dX12_copy_6 : decode cX12_copy 6 = .ok (.if_icmp .ge 15, 3) := by decide +kernel
theorem dX12_copy_9 : decode cX12_copy 9 = .ok (.aload_n 1, 1) := by decide +kernel
theorem dX12_copy_10 : decode cX12_copy 10 = .ok (.iload_n 2, 1) := by decide +kernel
theorem dX12_copy_11 : decode cX12_copy 11 = .ok (.aload_n 0, 1) := by decide +kernel
theorem dX12_copy_12 : decode cX12_copy 12 = .ok (.iload_n 2, 1) := by decide +kernel
theorem dX12_copy_13 : decode cX12_copy 13 = .ok (.iaload, 1) := by decide +kernel
theorem dX12_copy_14 : decode cX12_copy 14 = .ok (.iastore, 1) := by decide +kernel
theorem dX12_copy_15 : decode cX12_copy 15 = .ok (.iinc 2 1, 3) := by decide +kernel
theorem dX12_copy_18 : decode cX12_copy 18 = .ok (.goto (-16), 3) := by decide +kernel
theorem dX12_copy_21 : decode cX12_copy 21 = .ok (.return_, 1) := by decide +kernel
theorem dX12_image_0 : decode cX12_image 0 = .ok (.aload_n 0, 1) := by decide +kernel
theorem dX12_image_1 : decode cX12_image 1 = .ok (.getfield 9, 3) := by decide +kernel
theorem dX12_image_4 : decode cX12_image 4 = .ok (.aload_n 0, 1) := by decide +kernel
theorem dX12_image_5 : decode cX12_image 5 = .ok (.getfield 13, 3) := by decide +kernel
theorem dX12_image_8 : decode cX12_image 8 = .ok (.invokestatic 391, 3) := by decide +kernel
theorem dX12_image_11 : decode cX12_image 11 = .ok (.aload_n 0, 1) := by decide +kernel
theorem dX12_image_12 : decode cX12_image 12 = .ok (.dup, 1) := by decide +kernel
theorem dX12_image_13 : decode cX12_image 13 = .ok (.getfield 395, 3) := by decide +kernel
theorem dX12_image_16 : decode cX12_image 16 = .ok (.iconst 1, 1) := by decide +kernel
theorem dX12_image_17 : decode cX12_image 17 = .ok (.iadd, 1) := by decide +kernel
theorem dX12_image_18 : decode cX12_image 18 = .ok (.putfield 395, 3) := by decide +kernel
theorem dX12_image_21 : decode cX12_image 21 = .ok (.aload_n 0, 1) := by decide +kernel
theorem dX12_image_22 : decode cX12_image 22 = .ok (.getfield 395, 3) := by decide +kernel
theorem dX12_image_25 : decode cX12_image 25 = .ok (.ireturn, 1) := by decide +kernel
theorem dX12_restore_0 : decode cX12_restore 0 = .ok (.aload_n 0, 1) := by decide +kernel
theorem dX12_restore_1 : decode cX12_restore 1 = .ok (.getfield 395, 3) := by decide +kernel
theorem dX12_restore_4 : decode cX12_restore 4 = .ok (.ifCond .ne 11, 3) := by decide +kernel
theorem dX12_restore_7 : decode cX12_restore 7 = .ok (.aload_n 0, 1) := by decide +kernel
theorem dX12_restore_8 : decode cX12_restore 8 = .ok (.ldc_w 287, 3) := by decide +kernel
theorem dX12_restore_11 : decode cX12_restore 11 = .ok (.invokevirtual 84, 3) := by decide +kernel
theorem dX12_restore_14 : decode cX12_restore 14 = .ok (.ireturn, 1) := by decide +kernel
theorem dX12_restore_15 : decode cX12_restore 15 = .ok (.aload_n 0, 1) := by decide +kernel
theorem dX12_restore_16 : decode cX12_restore 16 = .ok (.getfield 13, 3) := by decide +kernel
theorem dX12_restore_19 : decode cX12_restore 19 = .ok (.aload_n 0, 1) := by decide +kernel
theorem dX12_restore_20 : decode cX12_restore 20 = .ok (.getfield 9, 3) := by decide +kernel
theorem dX12_restore_23 : decode cX12_restore 23 = .ok (.invokestatic 391, 3) := by decide +kernel
theorem dX12_restore_26 : decode cX12_restore 26 = .ok (.aload_n 0, 1) := by decide +kernel
theorem dX12_restore_27 : decode cX12_restore 27 = .ok (.getfield 9, 3) := by decide +kernel
theorem dX12_restore_30 : decode cX12_restore 30 = .ok (.iconst 2, 1) := by decide +kernel
theorem dX12_restore_31 : decode cX12_restore 31 = .ok (.iaload, 1) := by decide +kernel
theorem dX12_restore_32 : decode cX12_restore 32 = .ok (.ireturn, 1) := by decide +kernel
theorem dX12_tell_0 : decode cX12_tell 0 = .ok (.aload_n 0, 1) := by decide +kernel
theorem dX12_tell_1 : decode cX12_tell 1 = .ok (.getfield 9, 3) := by decide +kernel
theorem dX12_tell_4 : decode cX12_tell 4 = .ok (.bipush 6, 2) := by decide +kernel
theorem dX12_tell_6 : decode cX12_tell 6 = .ok (.iaload, 1) := by decide +kernel
theorem dX12_tell_7 : decode cX12_tell 7 = .ok (.bipush 33, 2) := by decide +kernel
theorem dX12_tell_9 : decode cX12_tell 9 = .ok (.if_icmp .ne 10, 3) := by decide +kernel
theorem dX12_tell_12 : decode cX12_tell 12 = .ok (.aload_n 0, 1) := by decide +kernel
theorem dX12_tell_13 : decode cX12_tell 13 = .ok (.ldc 88, 2) := by decide +kernel
theorem dX12_tell_15 : decode cX12_tell 15 = .ok (.invokevirtual 84, 3) := by decide +kernel
theorem dX12_tell_18 : decode cX12_tell 18 = .ok (.ireturn, 1) := by decide +kernel
theorem dX12_tell_19 : decode cX12_tell 19 = .ok (.aload_n 0, 1) := by decide +kernel
theorem dX12_tell_20 : decode cX12_tell 20 = .ok (.getfield 9, 3) := by decide +kernel
theorem dX12_tell_23 : decode cX12_tell 23 = .ok (.sipush 1388, 3) := by decide +kernel
theorem dX12_tell_26 : decode cX12_tell 26 = .ok (.aload_n 0, 1) := by decide +kernel
theorem dX12_tell_27 : decode cX12_tell 27 = .ok (.getfield 9, 3) := by decide +kernel
theorem dX12_tell_30 : decode cX12_tell 30 = .ok (.bipush 6, 2) := by decide +kernel
theorem dX12_tell_32 : decode cX12_tell 32 = .ok (.iaload, 1) := by decide +kernel
theorem dX12_tell_33 : decode cX12_tell 33 = .ok (.iadd, 1) := by decide +kernel
theorem dX12_tell_34 : decode cX12_tell 34 = .ok (.iload_n 1, 1) := by decide +kernel
theorem dX12_tell_35 : decode cX12_tell 35 = .ok (.iastore, 1) := by decide +kernel
theorem dX12_tell_36 : decode cX12_tell 36 = .ok (.aload_n 0, 1) := by decide +kernel
theorem dX12_tell_37 : decode cX12_tell 37 = .ok (.getfield 9, 3) := by decide +kernel
theorem dX12_tell_40 : decode cX12_tell 40 = .ok (.bipush 6, 2) := by decide +kernel
theorem dX12_tell_42 : decode cX12_tell 42 = .ok (.dup2, 1) := by decide +kernel
theorem dX12_tell_43 : decode cX12_tell 43 = .ok (.iaload, 1) := by decide +kernel
theorem dX12_tell_44 : decode cX12_tell 44 = .ok (.iconst 1, 1) := by decide +kernel
theorem dX12_tell_45 : decode cX12_tell 45 = .ok (.iadd, 1) := by decide +kernel
theorem dX12_tell_46 : decode cX12_tell 46 = .ok (.iastore, 1) := by decide +kernel
theorem dX12_tell_47 : decode cX12_tell 47 = .ok (.aload_n 0, 1) := by decide +kernel
theorem dX12_tell_48 : decode cX12_tell 48 = .ok (.getfield 9, 3) := by decide +kernel
theorem dX12_tell_51 : decode cX12_tell 51 = .ok (.bipush 6, 2) := by decide +kernel
theorem dX12_tell_53 : decode cX12_tell 53 = .ok (.iaload, 1) := by decide +kernel
theorem dX12_tell_54 : decode cX12_tell 54 = .ok (.ireturn, 1) := by decide +kernel
theorem dX12_check_0 : decode cX12_check 0 = .ok (.aload_n 0, 1) := by decide +kernel
theorem dX12_check_1 : decode cX12_check 1 = .ok (.getfield 9, 3) := by decide +kernel
theorem dX12_check_4 : decode cX12_check 4 = .ok (.bipush 6, 2) := by decide +kernel
theorem dX12_check_6 : decode cX12_check 6 = .ok (.iaload, 1) := by decide +kernel
theorem dX12_check_7 : decode cX12_check 7 = .ok (.istore_n 2, 1) := by decide +kernel
theorem dX12_check_8 : decode cX12_check 8 = .ok (.aload_n 0, 1) := by decide +kernel
theorem dX12_check_9 : decode cX12_check 9 = .ok (.getfield 9, 3) := by decide +kernel
theorem dX12_check_12 : decode cX12_check 12 = .ok (.bipush 6, 2) := by decide +kernel
theorem dX12_check_14 : decode cX12_check 14 = .ok (.iconst 0, 1) := by decide +kernel
theorem dX12_check_15 : decode cX12_check 15 = .ok (.iastore, 1) := by decide +kernel
theorem dX12_check_16 : decode cX12_check 16 = .ok (.iload_n 1, 1) := by decide +kernel
theorem dX12_check_17 : decode cX12_check 17 = .ok (.invokestatic 317, 3) := by decide +kernel
theorem dX12_check_20 : decode cX12_check 20 = .ok (.ifCond .ne 10, 3) := by decide +kernel
theorem dX12_check_23 : decode cX12_check 23 = .ok (.aload_n 0, 1) := by decide +kernel
theorem dX12_check_24 : decode cX12_check 24 = .ok (.ldc 83, 2) := by decide +kernel
theorem dX12_check_26 : decode cX12_check 26 = .ok (.invokevirtual 84, 3) := by decide +kernel
theorem dX12_check_29 : decode cX12_check 29 = .ok (.ireturn, 1) := by decide +kernel
theorem dX12_check_30 : decode cX12_check 30 = .ok (.aload_n 0, 1) := by decide +kernel
theorem dX12_check_31 : decode cX12_check 31 = .ok (.iload_n 1, 1) := by decide +kernel
theorem dX12_check_32 : decode cX12_check 32 = .ok (.invokevirtual 320, 3) := by decide +kernel
theorem dX12_check_35 : decode cX12_check 35 = .ok (.iconst 0, 1) := by decide +kernel
theorem dX12_check_36 : decode cX12_check 36 = .ok (.istore_n 3, 1) := by decide +kernel
theorem dX12_check_37 : decode cX12_check 37 = .ok (.iload_n 3, 1) := by decide +kernel
theorem dX12_check_38 : decode cX12_check 38 = .ok (.iload_n 2, 1) := by decide +kernel
theorem dX12_check_39 : decode cX12_check 39 = .ok (.if_icmp .ge 144, 3) := by decide +kernel
theorem dX12_check_42 : decode cX12_check 42 = .ok (.aload_n 0, 1) := by decide +kernel
theorem dX12_check_43 : decode cX12_check 43 = .ok (.getfield 9, 3) := by decide +kernel
theorem dX12_check_46 : decode cX12_check 46 = .ok (.sipush 1388, 3) := by decide +kernel
theorem dX12_check_49 : decode cX12_check 49 = .ok (.iload_n 3, 1) := by decide +kernel
theorem dX12_check_50 : decode cX12_check 50 = .ok (.iadd, 1) := by decide +kernel
theorem dX12_check_51 : decode cX12_check 51 = .ok (.iaload, 1) := by decide +kernel
theorem dX12_check_52 : decode cX12_check 52 = .ok (.istore 4, 2) := by decide +kernel
theorem dX12_check_54 : decode cX12_check 54 = .ok (.iload_n 3, 1) := by decide +kernel
theorem dX12_check_55 : decode cX12_check 55 = .ok (.iconst 1, 1) := by decide +kernel
theorem dX12_check_56 : decode cX12_check 56 = .ok (.iadd, 1) := by decide +kernel
theorem dX12_check_57 : decode cX12_check 57 = .ok (.iload_n 2, 1) := by decide +kernel
theorem dX12_check_58 : decode cX12_check 58 = .ok (.if_icmp .ge 18, 3) := by decide +kernel
theorem dX12_check_61 : decode cX12_check 61 = .ok (.aload_n 0, 1) := by decide +kernel
theorem dX12_check_62 : decode cX12_check 62 = .ok (.getfield 9, 3) := by decide +kernel
theorem dX12_check_65 : decode cX12_check 65 = .ok (.sipush 1388, 3) := by decide +kernel
theorem dX12_check_68 : decode cX12_check 68 = .ok (.iload_n 3, 1) := by decide +kernel
theorem dX12_check_69 : decode cX12_check 69 = .ok (.iadd, 1) := by decide +kernel
theorem dX12_check_70 : decode cX12_check 70 = .ok (.iconst 1, 1) := by decide +kernel
theorem dX12_check_71 : decode cX12_check 71 = .ok (.iadd, 1) := by decide +kernel
theorem dX12_check_72 : decode cX12_check 72 = .ok (.iaload, 1) := by decide +kernel
theorem dX12_check_73 : decode cX12_check 73 = .ok (.goto 4, 3) := by decide +kernel
theorem dX12_check_76 : decode cX12_check 76 = .ok (.iconst (-1), 1) := by decide +kernel
theorem dX12_check_77 : decode cX12_check 77 = .ok (.istore 5, 2) := by decide +kernel
theorem dX12_check_79 : decode cX12_check 79 = .ok (.iload_n 3, 1) := by decide +kernel
theorem dX12_check_80 : decode cX12_check 80 = .ok (.iconst 2, 1) := by decide +kernel
theorem dX12_check_81 : decode cX12_check 81 = .ok (.iadd, 1) := by decide +kernel
theorem dX12_check_82 : decode cX12_check 82 = .ok (.iload_n 2, 1) := by decide +kernel
theorem dX12_check_83 : decode cX12_check 83 = .ok (.if_icmp .ge 18, 3) := by decide +kernel
theorem dX12_check_86 : decode cX12_check 86 = .ok (.aload_n 0, 1) := by decide +kernel
theorem dX12_check_87 : decode cX12_check 87 = .ok (.getfield 9, 3) := by decide +kernel
theorem dX12_check_90 : decode cX12_check 90 = .ok (.sipush 1388, 3) := by decide +kernel
theorem dX12_check_93 : decode cX12_check 93 = .ok (.iload_n 3, 1) := by decide +kernel
theorem dX12_check_94 : decode cX12_check 94 = .ok (.iadd, 1) := by decide +kernel
theorem dX12_check_95 : decode cX12_check 95 = .ok (.iconst 2, 1) := by decide +kernel
theorem dX12_check_96 : decode cX12_check 96 = .ok (.iadd, 1) := by decide +kernel
theorem dX12_check_97 : decode cX12_check 97 = .ok (.iaload, 1) := by decide +kernel
theorem dX12_check_98 : decode cX12_check 98 = .ok (.goto 4, 3) := by decide +kernel
theorem dX12_check_101 : decode cX12_check 101 = .ok (.iconst 0, 1) := by decide +kernel
theorem dX12_check_102 : decode cX12_check 102 = .ok (.istore 6, 2) := by decide +kernel
theorem dX12_check_104 : decode cX12_check 104 = .ok (.iload 4, 2) := by decide +kernel
theorem dX12_check_106 : decode cX12_check 106 = .ok (.iconst 0, 1) := by decide +kernel
theorem dX12_check_107 : decode cX12_check 107 = .ok (.bipush 10, 2) := by decide +kernel
theorem dX12_check_109 : decode cX12_check 109 = .ok (.invokestatic 78, 3) := by decide +kernel
theorem dX12_check_112 : decode cX12_check 112 = .ok (.ifCond .ne 7, 3) := by decide +kernel
theorem dX12_check_115 : decode cX12_check 115 = .ok (.iconst 1, 1) := by decide +kernel
theorem dX12_check_116 : decode cX12_check 116 = .ok (.iload_n 3, 1) := by decide +kernel
theorem dX12_check_117 : decode cX12_check 117 = .ok (.iadd, 1) := by decide +kernel
theorem dX12_check_118 : decode cX12_check 118 = .ok (.ireturn, 1) := by decide +kernel
theorem dX12_check_119 : decode cX12_check 119 = .ok (.iload 5, 2) := by decide +kernel
theorem dX12_check_121 : decode cX12_check 121 = .ok (.iconst 0, 1) := by decide +kernel
theorem dX12_check_122 : decode cX12_check 122 = .ok (.bipush 10, 2) := by decide +kernel
theorem dX12_check_124 : decode cX12_check 124 = .ok (.invokestatic 78, 3) := by decide +kernel
theorem dX12_check_127 : decode cX12_check 127 = .ok (.ifCond .eq 10, 3) := by decide +kernel
theorem dX12_check_130 : decode cX12_check 130 = .ok (.iload 4, 2) := by decide +kernel
theorem dX12_check_132 : decode cX12_check 132 = .ok (.iload 5, 2) := by decide +kernel
theorem dX12_check_134 : decode cX12_check 134 = .ok (.if_icmp .ne 7, 3) := by decide +kernel
theorem dX12_check_137 : decode cX12_check 137 = .ok (.iconst 2, 1) := by decide +kernel
theorem dX12_check_138 : decode cX12_check 138 = .ok (.iload_n 3, 1) := by decide +kernel
theorem dX12_check_139 : decode cX12_check 139 = .ok (.iadd, 1) := by decide +kernel
theorem dX12_check_140 : decode cX12_check 140 = .ok (.ireturn, 1) := by decide +kernel
theorem dX12_check_141 : decode cX12_check 141 = .ok (.iload 6, 2) := by decide +kernel
theorem dX12_check_143 : decode cX12_check 143 = .ok (.iconst 1, 1) := by decide +kernel
theorem dX12_check_144 : decode cX12_check 144 = .ok (.if_icmp .ge 7, 3) := by decide +kernel
theorem dX12_check_147 : decode cX12_check 147 = .ok (.iconst 3, 1) := by decide +kernel
theorem dX12_check_148 : decode cX12_check 148 = .ok (.iload_n 3, 1) := by decide +kernel
theorem dX12_check_149 : decode cX12_check 149 = .ok (.iadd, 1) := by decide +kernel
theorem dX12_check_150 : decode cX12_check 150 = .ok (.ireturn, 1) := by decide +kernel
theorem dX12_check_151 : decode cX12_check 151 = .ok (.aload_n 0, 1) := by decide +kernel
theorem dX12_check_152 : decode cX12_check 152 = .ok (.getfield 40, 3) := by decide +kernel
theorem dX12_check_155 : decode cX12_check 155 = .ok (.iload 4, 2) := by decide +kernel
theorem dX12_check_157 : decode cX12_check 157 = .ok (.dup2, 1) := by decide +kernel
theorem dX12_check_158 : decode cX12_check 158 = .ok (.laload, 1) := by decide +kernel
theorem dX12_check_159 : decode cX12_check 159 = .ok (.iload 6, 2) := by decide +kernel
theorem dX12_check_161 : decode cX12_check 161 = .ok (.i2l, 1) := by decide +kernel
theorem dX12_check_162 : decode cX12_check 162 = .ok (.ladd, 1) := by decide +kernel
theorem dX12_check_163 : decode cX12_check 163 = .ok (.lastore, 1) := by decide +kernel
theorem dX12_check_164 : decode cX12_check 164 = .ok (.aload_n 0, 1) := by decide +kernel
theorem dX12_check_165 : decode cX12_check 165 = .ok (.getfield 40, 3) := by decide +kernel
theorem dX12_check_168 : decode cX12_check 168 = .ok (.iload 5, 2) := by decide +kernel
theorem dX12_check_170 : decode cX12_check 170 = .ok (.dup2, 1) := by decide +kernel
theorem dX12_check_171 : decode cX12_check 171 = .ok (.laload, 1) := by decide +kernel
theorem dX12_check_172 : decode cX12_check 172 = .ok (.iload 6, 2) := by decide +kernel
theorem dX12_check_174 : decode cX12_check 174 = .ok (.i2l, 1) := by decide +kernel
theorem dX12_check_175 : decode cX12_check 175 = .ok (.lsub, 1) := by decide +kernel
theorem dX12_check_176 : decode cX12_check 176 = .ok (.lastore, 1) := by decide +kernel
theorem dX12_check_177 : decode cX12_check 177 = .ok (.iinc 3 3, 3) := by decide +kernel
theorem dX12_check_180 : decode cX12_check 180 = .ok (.goto (-143), 3) := by decide +kernel
theorem dX12_check_183 : decode cX12_check 183 = .ok (.iconst 1, 1) := by decide +kernel
theorem dX12_check_184 : decode cX12_check 184 = .ok (.istore_n 3, 1) := by decide +kernel
theorem dX12_check_185 : decode cX12_check 185 = .ok (.iconst 0, 1) := by decide +kernel
theorem dX12_check_186 : decode cX12_check 186 = .ok (.istore 4, 2) := by decide +kernel
theorem dX12_check_188 : decode cX12_check 188 = .ok (.iload 4, 2) := by decide +kernel
theorem dX12_check_190 : decode cX12_check 190 = .ok (.bipush 11, 2) := by decide +kernel
theorem dX12_check_192 : decode cX12_check 192 = .ok (.if_icmp .ge 31, 3) := by decide +kernel
theorem dX12_check_195 : decode cX12_check 195 = .ok (.iload_n 3, 1) := by decide +kernel
theorem dX12_check_196 : decode cX12_check 196 = .ok (.ifCond .eq 19, 3) := by decide +kernel
theorem dX12_check_199 : decode cX12_check 199 = .ok (.aload_n 0, 1) := by decide +kernel
theorem dX12_check_200 : decode cX12_check 200 = .ok (.getfield 40, 3) := by decide +kernel
theorem dX12_check_203 : decode cX12_check 203 = .ok (.iload 4, 2) := by decide +kernel
theorem dX12_check_205 : decode cX12_check 205 = .ok (.laload, 1) := by decide +kernel
theorem dX12_check_206 : decode cX12_check 206 = .ok (.lconst 0, 1) := by decide +kernel
theorem dX12_check_207 : decode cX12_check 207 = .ok (.lcmp, 1) := by decide +kernel
theorem dX12_check_208 : decode cX12_check 208 = .ok (.ifCond .ne 7, 3) := by decide +kernel
theorem dX12_check_211 : decode cX12_check 211 = .ok (.iconst 1, 1) := by decide +kernel
theorem dX12_check_212 : decode cX12_check 212 = .ok (.goto 4, 3) := by decide +kernel
theorem dX12_check_215 : decode cX12_check 215 = .ok (.iconst 0, 1) := by decide +kernel
theorem dX12_check_216 : decode cX12_check 216 = .ok (.istore_n 3, 1) := by decide +kernel
theorem dX12_check_217 : decode cX12_check 217 = .ok (.iinc 4 1, 3) := by decide +kernel
theorem dX12_check_220 : decode cX12_check 220 = .ok (.goto (-32), 3) := by decide +kernel
theorem dX12_check_223 : decode cX12_check 223 = .ok (.iload_n 3, 1) := by decide +kernel
theorem dX12_check_224 : decode cX12_check 224 = .ok (.ifCond .eq 7, 3) := by decide +kernel
theorem dX12_check_227 : decode cX12_check 227 = .ok (.iconst 0, 1) := by decide +kernel
theorem dX12_check_228 : decode cX12_check 228 = .ok (.goto 6, 3) := by decide +kernel
theorem dX12_check_231 : decode cX12_check 231 = .ok (.iconst 1, 1) := by decide +kernel
theorem dX12_check_232 : decode cX12_check 232 = .ok (.iload_n 2, 1) := by decide +kernel
theorem dX12_check_233 : decode cX12_check 233 = .ok (.iadd, 1) := by decide +kernel
theorem dX12_check_234 : decode cX12_check 234 = .ok (.ireturn, 1) := by decide +kernel
theorem dX12_count_0 : decode cX12_count 0 = .ok (.iconst 0, 1) := by decide +kernel
theorem dX12_count_1 : decode cX12_count 1 = .ok (.istore_n 2, 1) := by decide +kernel
theorem dX12_count_2 : decode cX12_count 2 = .ok (.iload_n 1, 1) := by decide +kernel
theorem dX12_count_3 : decode cX12_count 3 = .ok (.tableswitch 113 0 8 #[49, 49, 49, 49, 49, 56, 93, 100, 108], 49) := by decide +kernel
theorem dX12_count_52 : decode cX12_count 52 = .ok (.aload_n 0, 1) := by decide +kernel
theorem dX12_count_53 : decode cX12_count 53 = .ok (.getfield 9, 3) := by decide +kernel
theorem dX12_count_56 : decode cX12_count 56 = .ok (.iload_n 1, 1) := by decide +kernel
theorem dX12_count_57 : decode cX12_count 57 = .ok (.iaload, 1) := by decide +kernel
theorem dX12_count_58 : decode cX12_count 58 = .ok (.ireturn, 1) := by decide +kernel
theorem dX12_count_59 : decode cX12_count 59 = .ok (.iconst 0, 1) := by decide +kernel
theorem dX12_count_60 : decode cX12_count 60 = .ok (.istore_n 3, 1) := by decide +kernel
theorem dX12_count_61 : decode cX12_count 61 = .ok (.iload_n 3, 1) := by decide +kernel
theorem dX12_count_62 : decode cX12_count 62 = .ok (.aload_n 0, 1) := by decide +kernel
theorem dX12_count_63 : decode cX12_count 63 = .ok (.getfield 9, 3) := by decide +kernel
theorem dX12_count_66 : decode cX12_count 66 = .ok (.iconst 4, 1) := by decide +kernel
theorem dX12_count_67 : decode cX12_count 67 = .ok (.iaload, 1) := by decide +kernel
theorem dX12_count_68 : decode cX12_count 68 = .ok (.if_icmp .ge 26, 3) := by decide +kernel
theorem dX12_count_71 : decode cX12_count 71 = .ok (.iload_n 2, 1) := by decide +kernel
theorem dX12_count_72 : decode cX12_count 72 = .ok (.aload_n 0, 1) := by decide +kernel
theorem dX12_count_73 : decode cX12_count 73 = .ok (.iload_n 3, 1) := by decide +kernel
theorem dX12_count_74 : decode cX12_count 74 = .ok (.invokevirtual 295, 3) := by decide +kernel
theorem dX12_count_77 : decode cX12_count 77 = .ok (.iload_n 3, 1) := by decide +kernel
theorem dX12_count_78 : decode cX12_count 78 = .ok (.if_icmp .ne 7, 3) := by decide +kernel
theorem dX12_count_81 : decode cX12_count 81 = .ok (.iconst 1, 1) := by decide +kernel
theorem dX12_count_82 : decode cX12_count 82 = .ok (.goto 4, 3) := by decide +kernel
theorem dX12_count_85 : decode cX12_count 85 = .ok (.iconst 0, 1) := by decide +kernel
theorem dX12_count_86 : decode cX12_count 86 = .ok (.iadd, 1) := by decide +kernel
theorem dX12_count_87 : decode cX12_count 87 = .ok (.istore_n 2, 1) := by decide +kernel
theorem dX12_count_88 : decode cX12_count 88 = .ok (.iinc 3 1, 3) := by decide +kernel
theorem dX12_count_91 : decode cX12_count 91 = .ok (.goto (-30), 3) := by decide +kernel
theorem dX12_count_94 : decode cX12_count 94 = .ok (.iload_n 2, 1) := by decide +kernel
theorem dX12_count_95 : decode cX12_count 95 = .ok (.ireturn, 1) := by decide +kernel
theorem dX12_count_96 : decode cX12_count 96 = .ok (.aload_n 0, 1) := by decide +kernel
theorem dX12_count_97 : decode cX12_count 97 = .ok (.getfield 9, 3) := by decide +kernel
theorem dX12_count_100 : decode cX12_count 100 = .ok (.iconst 5, 1) := by decide +kernel
theorem dX12_count_101 : decode cX12_count 101 = .ok (.iaload, 1) := by decide +kernel
theorem dX12_count_102 : decode cX12_count 102 = .ok (.ireturn, 1) := by decide +kernel
theorem dX12_count_103 : decode cX12_count 103 = .ok (.aload_n 0, 1) := by decide +kernel
theorem dX12_count_104 : decode cX12_count 104 = .ok (.getfield 9, 3) := by decide +kernel
theorem dX12_count_107 : decode cX12_count 107 = .ok (.bipush 6, 2) := by decide +kernel
theorem dX12_count_109 : decode cX12_count 109 = .ok (.iaload, 1) := by decide +kernel
theorem dX12_count_110 : decode cX12_count 110 = .ok (.ireturn, 1) := by decide +kernel
theorem dX12_count_111 : decode cX12_count 111 = .ok (.aload_n 0, 1) := by decide +kernel
theorem dX12_count_112 : decode cX12_count 112 = .ok (.getfield 362, 3) := by decide +kernel
theorem dX12_count_115 : decode cX12_count 115 = .ok (.ireturn, 1) := by decide +kernel
theorem dX12_count_116 : decode cX12_count 116 = .ok (.aload_n 0, 1) := by decide +kernel
theorem dX12_count_117 : decode cX12_count 117 = .ok (.ldc 83, 2) := by decide +kernel
theorem dX12_count_119 : decode cX12_count 119 = .ok (.invokevirtual 84, 3) := by decide +kernel
theorem dX12_count_122 : decode cX12_count 122 = .ok (.ireturn, 1) := by decide +kernel
theorem dX12_told_0 : decode cX12_told 0 = .ok (.iload_n 1, 1) := by decide +kernel
theorem dX12_told_1 : decode cX12_told 1 = .ok (.iconst 1, 1) := by decide +kernel
theorem dX12_told_2 : decode cX12_told 2 = .ok (.bipush 6, 2) := by decide +kernel
theorem dX12_told_4 : decode cX12_told 4 = .ok (.invokestatic 78, 3) := by decide +kernel
theorem dX12_told_7 : decode cX12_told 7 = .ok (.ifCond .eq 12, 3) := by decide +kernel
theorem dX12_told_10 : decode cX12_told 10 = .ok (.aload_n 0, 1) := by decide +kernel
theorem dX12_told_11 : decode cX12_told 11 = .ok (.getfield 16, 3) := by decide +kernel
theorem dX12_told_14 : decode cX12_told 14 = .ok (.iload_n 1, 1) := by decide +kernel
theorem dX12_told_15 : decode cX12_told 15 = .ok (.iaload, 1) := by decide +kernel
theorem dX12_told_16 : decode cX12_told 16 = .ok (.goto 9, 3) := by decide +kernel
theorem dX12_told_19 : decode cX12_told 19 = .ok (.aload_n 0, 1) := by decide +kernel
theorem dX12_told_20 : decode cX12_told 20 = .ok (.ldc 83, 2) := by decide +kernel
theorem dX12_told_22 : decode cX12_told 22 = .ok (.invokevirtual 84, 3) := by decide +kernel
theorem dX12_told_25 : decode cX12_told 25 = .ok (.ireturn, 1) := by decide +kernel
theorem dJ6_numberOfTrailingZeros_0f7a4_0 : decode cJ6_numberOfTrailingZeros_0f7a4 0 = .ok (.iload_n 0, 1) := by decide +kernel
theorem dJ6_numberOfTrailingZeros_0f7a4_1 : decode cJ6_numberOfTrailingZeros_0f7a4 1 = .ok (.iconst (-1), 1) := by decide +kernel
theorem dJ6_numberOfTrailingZeros_0f7a4_2 : decode cJ6_numberOfTrailingZeros_0f7a4 2 = .ok (.ixor, 1) := by decide +kernel
theorem dJ6_numberOfTrailingZeros_0f7a4_3 : decode cJ6_numberOfTrailingZeros_0f7a4 3 = .ok (.iload_n 0, 1) := by decide +kernel
theorem dJ6_numberOfTrailingZeros_0f7a4_4 : decode cJ6_numberOfTrailingZeros_0f7a4 4 = .ok (.iconst 1, 1) := by decide +kernel
theorem dJ6_numberOfTrailingZeros_0f7a4_5 : decode cJ6_numberOfTrailingZeros_0f7a4 5 = .ok (.isub, 1) := by decide +kernel
theorem dJ6_numberOfTrailingZeros_0f7a4_6 : decode cJ6_numberOfTrailingZeros_0f7a4 6 = .ok (.iand, 1) := by decide +kernel
theorem dJ6_numberOfTrailingZeros_0f7a4_7 : decode cJ6_numberOfTrailingZeros_0f7a4 7 = .ok (.istore_n 0, 1) := by decide +kernel
theorem dJ6_numberOfTrailingZeros_0f7a4_8 : decode cJ6_numberOfTrailingZeros_0f7a4 8 = .ok (.iload_n 0, 1) := by decide +kernel
theorem dJ6_numberOfTrailingZeros_0f7a4_9 : decode cJ6_numberOfTrailingZeros_0f7a4 9 = .ok (.ifCond .gt 8, 3) := by decide +kernel
theorem dJ6_numberOfTrailingZeros_0f7a4_12 : decode cJ6_numberOfTrailingZeros_0f7a4 12 = .ok (.iload_n 0, 1) := by decide +kernel
theorem dJ6_numberOfTrailingZeros_0f7a4_13 : decode cJ6_numberOfTrailingZeros_0f7a4 13 = .ok (.bipush 32, 2) := by decide +kernel
theorem dJ6_numberOfTrailingZeros_0f7a4_15 : decode cJ6_numberOfTrailingZeros_0f7a4 15 = .ok (.iand, 1) := by decide +kernel
theorem dJ6_numberOfTrailingZeros_0f7a4_16 : decode cJ6_numberOfTrailingZeros_0f7a4 16 = .ok (.ireturn, 1) := by decide +kernel
theorem dJ6_numberOfTrailingZeros_0f7a4_17 : decode cJ6_numberOfTrailingZeros_0f7a4 17 = .ok (.iconst 1, 1) := by decide +kernel
theorem dJ6_numberOfTrailingZeros_0f7a4_18 : decode cJ6_numberOfTrailingZeros_0f7a4 18 = .ok (.istore_n 1, 1) := by decide +kernel
theorem dJ6_numberOfTrailingZeros_0f7a4_19 : decode cJ6_numberOfTrailingZeros_0f7a4 19 = .ok (.iload_n 0, 1) := by decide +kernel
theorem dJ6_numberOfTrailingZeros_0f7a4_20 : decode cJ6_numberOfTrailingZeros_0f7a4 20 = .ok (.ldc_w 264, 3) := by decide +kernel
theorem dJ6_numberOfTrailingZeros_0f7a4_23 : decode cJ6_numberOfTrailingZeros_0f7a4 23 = .ok (.if_icmp .le 11, 3) := by decide +kernel
theorem dJ6_numberOfTrailingZeros_0f7a4_26 : decode cJ6_numberOfTrailingZeros_0f7a4 26 = .ok (.iinc 1 16, 3) := by decide +kernel
theorem dJ6_numberOfTrailingZeros_0f7a4_29 : decode cJ6_numberOfTrailingZeros_0f7a4 29 = .ok (.iload_n 0, 1) := by decide +kernel
theorem dJ6_numberOfTrailingZeros_0f7a4_30 : decode cJ6_numberOfTrailingZeros_0f7a4 30 = .ok (.bipush 16, 2) := by decide +kernel
theorem dJ6_numberOfTrailingZeros_0f7a4_32 : decode cJ6_numberOfTrailingZeros_0f7a4 32 = .ok (.iushr, 1) := by decide +kernel
theorem dJ6_numberOfTrailingZeros_0f7a4_33 : decode cJ6_numberOfTrailingZeros_0f7a4 33 = .ok (.istore_n 0, 1) := by decide +kernel
theorem dJ6_numberOfTrailingZeros_0f7a4_34 : decode cJ6_numberOfTrailingZeros_0f7a4 34 = .ok (.iload_n 0, 1) := by decide +kernel
theorem dJ6_numberOfTrailingZeros_0f7a4_35 : decode cJ6_numberOfTrailingZeros_0f7a4 35 = .ok (.sipush 256, 3) := by decide +kernel
theorem dJ6_numberOfTrailingZeros_0f7a4_38 : decode cJ6_numberOfTrailingZeros_0f7a4 38 = .ok (.if_icmp .le 11, 3) := by decide +kernel
theorem dJ6_numberOfTrailingZeros_0f7a4_41 : decode cJ6_numberOfTrailingZeros_0f7a4 41 = .ok (.iinc 1 8, 3) := by decide +kernel
theorem dJ6_numberOfTrailingZeros_0f7a4_44 : decode cJ6_numberOfTrailingZeros_0f7a4 44 = .ok (.iload_n 0, 1) := by decide +kernel
theorem dJ6_numberOfTrailingZeros_0f7a4_45 : decode cJ6_numberOfTrailingZeros_0f7a4 45 = .ok (.bipush 8, 2) := by decide +kernel
theorem dJ6_numberOfTrailingZeros_0f7a4_47 : decode cJ6_numberOfTrailingZeros_0f7a4 47 = .ok (.iushr, 1) := by decide +kernel
theorem dJ6_numberOfTrailingZeros_0f7a4_48 : decode cJ6_numberOfTrailingZeros_0f7a4 48 = .ok (.istore_n 0, 1) := by decide +kernel
theorem dJ6_numberOfTrailingZeros_0f7a4_49 : decode cJ6_numberOfTrailingZeros_0f7a4 49 = .ok (.iload_n 0, 1) := by decide +kernel
theorem dJ6_numberOfTrailingZeros_0f7a4_50 : decode cJ6_numberOfTrailingZeros_0f7a4 50 = .ok (.bipush 16, 2) := by decide +kernel
theorem dJ6_numberOfTrailingZeros_0f7a4_52 : decode cJ6_numberOfTrailingZeros_0f7a4 52 = .ok (.if_icmp .le 10, 3) := by decide +kernel
theorem dJ6_numberOfTrailingZeros_0f7a4_55 : decode cJ6_numberOfTrailingZeros_0f7a4 55 = .ok (.iinc 1 4, 3) := by decide +kernel
theorem dJ6_numberOfTrailingZeros_0f7a4_58 : decode cJ6_numberOfTrailingZeros_0f7a4 58 = .ok (.iload_n 0, 1) := by decide +kernel
theorem dJ6_numberOfTrailingZeros_0f7a4_59 : decode cJ6_numberOfTrailingZeros_0f7a4 59 = .ok (.iconst 4, 1) := by decide +kernel
theorem dJ6_numberOfTrailingZeros_0f7a4_60 : decode cJ6_numberOfTrailingZeros_0f7a4 60 = .ok (.iushr, 1) := by decide +kernel
theorem dJ6_numberOfTrailingZeros_0f7a4_61 : decode cJ6_numberOfTrailingZeros_0f7a4 61 = .ok (.istore_n 0, 1) := by decide +kernel
theorem dJ6_numberOfTrailingZeros_0f7a4_62 : decode cJ6_numberOfTrailingZeros_0f7a4 62 = .ok (.iload_n 0, 1) := by decide +kernel
theorem dJ6_numberOfTrailingZeros_0f7a4_63 : decode cJ6_numberOfTrailingZeros_0f7a4 63 = .ok (.iconst 4, 1) := by decide +kernel
theorem dJ6_numberOfTrailingZeros_0f7a4_64 : decode cJ6_numberOfTrailingZeros_0f7a4 64 = .ok (.if_icmp .le 10, 3) := by decide +kernel
theorem dJ6_numberOfTrailingZeros_0f7a4_67 : decode cJ6_numberOfTrailingZeros_0f7a4 67 = .ok (.iinc 1 2, 3) := by decide +kernel
theorem dJ6_numberOfTrailingZeros_0f7a4_70 : decode cJ6_numberOfTrailingZeros_0f7a4 70 = .ok (.iload_n 0, 1) := by decide +kernel
theorem dJ6_numberOfTrailingZeros_0f7a4_71 : decode cJ6_numberOfTrailingZeros_0f7a4 71 = .ok (.iconst 2, 1) := by decide +kernel
theorem dJ6_numberOfTrailingZeros_0f7a4_72 : decode cJ6_numberOfTrailingZeros_0f7a4 72 = .ok (.iushr, 1) := by decide +kernel
theorem dJ6_numberOfTrailingZeros_0f7a4_73 : decode cJ6_numberOfTrailingZeros_0f7a4 73 = .ok (.istore_n 0, 1) := by decide +kernel
theorem dJ6_numberOfTrailingZeros_0f7a4_74 : decode cJ6_numberOfTrailingZeros_0f7a4 74 = .ok (.iload_n 1, 1) := by decide +kernel
theorem dJ6_numberOfTrailingZeros_0f7a4_75 : decode cJ6_numberOfTrailingZeros_0f7a4 75 = .ok (.iload_n 0, 1) := by decide +kernel
theorem dJ6_numberOfTrailingZeros_0f7a4_76 : decode cJ6_numberOfTrailingZeros_0f7a4 76 = .ok (.iconst 1, 1) := by decide +kernel
theorem dJ6_numberOfTrailingZeros_0f7a4_77 : decode cJ6_numberOfTrailingZeros_0f7a4 77 = .ok (.iushr, 1) := by decide +kernel
theorem dJ6_numberOfTrailingZeros_0f7a4_78 : decode cJ6_numberOfTrailingZeros_0f7a4 78 = .ok (.iadd, 1) := by decide +kernel
theorem dJ6_numberOfTrailingZeros_0f7a4_79 : decode cJ6_numberOfTrailingZeros_0f7a4 79 = .ok (.ireturn, 1) := by decide +kernel
theorem dJ6_bitCount_0f7a4_0 : decode cJ6_bitCount_0f7a4 0 = .ok (.iload_n 0, 1) := by decide +kernel
theorem dJ6_bitCount_0f7a4_1 : decode cJ6_bitCount_0f7a4 1 = .ok (.iload_n 0, 1) := by decide +kernel
theorem dJ6_bitCount_0f7a4_2 : decode cJ6_bitCount_0f7a4 2 = .ok (.iconst 1, 1) := by decide +kernel
theorem dJ6_bitCount_0f7a4_3 : decode cJ6_bitCount_0f7a4 3 = .ok (.iushr, 1) := by decide +kernel
theorem dJ6_bitCount_0f7a4_4 : decode cJ6_bitCount_0f7a4 4 = .ok (.ldc_w 265, 3) := by decide +kernel
theorem dJ6_bitCount_0f7a4_7 : decode cJ6_bitCount_0f7a4 7 = .ok (.iand, 1) := by decide +kernel
theorem dJ6_bitCount_0f7a4_8 : decode cJ6_bitCount_0f7a4 8 = .ok (.isub, 1) := by decide +kernel
theorem dJ6_bitCount_0f7a4_9 : decode cJ6_bitCount_0f7a4 9 = .ok (.istore_n 0, 1) := by decide +kernel
theorem dJ6_bitCount_0f7a4_10 : decode cJ6_bitCount_0f7a4 10 = .ok (.iload_n 0, 1) := by decide +kernel
theorem dJ6_bitCount_0f7a4_11 : decode cJ6_bitCount_0f7a4 11 = .ok (.ldc_w 266, 3) := by decide +kernel
theorem dJ6_bitCount_0f7a4_14 : decode cJ6_bitCount_0f7a4 14 = .ok (.iand, 1) := by decide +kernel
theorem dJ6_bitCount_0f7a4_15 : decode cJ6_bitCount_0f7a4 15 = .ok (.iload_n 0, 1) := by decide +kernel
theorem dJ6_bitCount_0f7a4_16 : decode cJ6_bitCount_0f7a4 16 = .ok (.iconst 2, 1) := by decide +kernel
theorem dJ6_bitCount_0f7a4_17 : decode cJ6_bitCount_0f7a4 17 = .ok (.iushr, 1) := by decide +kernel
theorem dJ6_bitCount_0f7a4_18 : decode cJ6_bitCount_0f7a4 18 = .ok (.ldc_w 266, 3) := by decide +kernel
theorem dJ6_bitCount_0f7a4_21 : decode cJ6_bitCount_0f7a4 21 = .ok (.iand, 1) := by decide +kernel
theorem dJ6_bitCount_0f7a4_22 : decode cJ6_bitCount_0f7a4 22 = .ok (.iadd, 1) := by decide +kernel
theorem dJ6_bitCount_0f7a4_23 : decode cJ6_bitCount_0f7a4 23 = .ok (.istore_n 0, 1) := by decide +kernel
theorem dJ6_bitCount_0f7a4_24 : decode cJ6_bitCount_0f7a4 24 = .ok (.iload_n 0, 1) := by decide +kernel
theorem dJ6_bitCount_0f7a4_25 : decode cJ6_bitCount_0f7a4 25 = .ok (.iload_n 0, 1) := by decide +kernel
theorem dJ6_bitCount_0f7a4_26 : decode cJ6_bitCount_0f7a4 26 = .ok (.iconst 4, 1) := by decide +kernel
theorem dJ6_bitCount_0f7a4_27 : decode cJ6_bitCount_0f7a4 27 = .ok (.iushr, 1) := by decide +kernel
theorem dJ6_bitCount_0f7a4_28 : decode cJ6_bitCount_0f7a4 28 = .ok (.iadd, 1) := by decide +kernel
theorem dJ6_bitCount_0f7a4_29 : decode cJ6_bitCount_0f7a4 29 = .ok (.ldc_w 267, 3) := by decide +kernel
theorem dJ6_bitCount_0f7a4_32 : decode cJ6_bitCount_0f7a4 32 = .ok (.iand, 1) := by decide +kernel
theorem dJ6_bitCount_0f7a4_33 : decode cJ6_bitCount_0f7a4 33 = .ok (.istore_n 0, 1) := by decide +kernel
theorem dJ6_bitCount_0f7a4_34 : decode cJ6_bitCount_0f7a4 34 = .ok (.iload_n 0, 1) := by decide +kernel
theorem dJ6_bitCount_0f7a4_35 : decode cJ6_bitCount_0f7a4 35 = .ok (.iload_n 0, 1) := by decide +kernel
theorem dJ6_bitCount_0f7a4_36 : decode cJ6_bitCount_0f7a4 36 = .ok (.bipush 8, 2) := by decide +kernel
theorem dJ6_bitCount_0f7a4_38 : decode cJ6_bitCount_0f7a4 38 = .ok (.iushr, 1) := by decide +kernel
theorem dJ6_bitCount_0f7a4_39 : decode cJ6_bitCount_0f7a4 39 = .ok (.iadd, 1) := by decide +kernel
theorem dJ6_bitCount_0f7a4_40 : decode cJ6_bitCount_0f7a4 40 = .ok (.istore_n 0, 1) := by decide +kernel
theorem dJ6_bitCount_0f7a4_41 : decode cJ6_bitCount_0f7a4 41 = .ok (.iload_n 0, 1) := by decide +kernel
