theorem dX11_init_90 : decode cX11_init 90 = .ok (.dup, 1) := by decide +kernel
theorem dX11_init_91 : decode cX11_init 91 = .ok (.invokespecial 53, 3) := by decide +kernel
theorem dX11_init_94 : decode cX11_init 94 = .ok (.putfield 54, 3) := by decide +kernel
theorem dX11_init_97 : decode cX11_init 97 = .ok (.aload_n 0, 1) := by decide +kernel
theorem dX11_init_98 : decode cX11_init 98 = .ok (.iconst 4, 1) := by decide +kernel
theorem dX11_init_99 : decode cX11_init 99 = .ok (.anewarray 58, 3) := by decide +kernel
theorem dX11_init_102 : decode cX11_init 102 = .ok (.putfield 60, 3) := by decide +kernel
theorem dX11_init_105 : decode cX11_init 105 = .ok (.aload_n 0, 1) := by decide +kernel
theorem dX11_init_106 : decode cX11_init 106 = .ok (.bipush 7, 2) := by decide +kernel
theorem dX11_init_108 : decode cX11_init 108 = .ok (.newarray .int, 2) := by decide +kernel
theorem dX11_init_110 : decode cX11_init 110 = .ok (.putfield 64, 3) := by decide +kernel
theorem dX11_init_113 : decode cX11_init 113 = .ok (.iconst 0, 1) := by decide +kernel
theorem dX11_init_114 : decode cX11_init 114 = .ok (.istore_n 1, 1) := by decide +kernel
theorem dX11_init_115 : decode cX11_init 115 = .ok (.iload_n 1, 1) := by decide +kernel
theorem dX11_init_116 : decode cX11_init 116 = .ok (.iconst 4, 1) := by decide +kernel
theorem dX11_init_117 : decode cX11_init 117 = .ok (.if_icmp .ge 22, 3) := by decide +kernel
theorem dX11_init_120 : decode cX11_init 120 = .ok (.aload_n 0, 1) := by decide +kernel
theorem dX11_init_121 : decode cX11_init 121 = .ok (.getfield 60, 3) := by decide +kernel
theorem dX11_init_124 : decode cX11_init 124 = .ok (.iload_n 1, 1) := by decide +kernel
theorem dX11_init_125 : decode cX11_init 125 = .ok (.new 58, 3) := by decide +kernel
theorem dX11_init_128 : decode cX11_init 128 = .ok (.dup, 1) := by decide +kernel
theorem dX11_init_129 : decode cX11_init 129 = .ok (.invokespecial 68, 3) := by decide +kernel
theorem dX11_init_132 : decode cX11_init 132 = .ok (.aastore, 1) := by decide +kernel
theorem dX11_init_133 : decode cX11_init 133 = .ok (.iinc 1 1, 3) := by decide +kernel
theorem dX11_init_136 : decode cX11_init 136 = .ok (.goto (-21), 3) := by decide +kernel
theorem dX11_init_139 : decode cX11_init 139 = .ok (.return_, 1) := by decide +kernel
theorem dX11_car_0 : decode cX11_car 0 = .ok (.iload_n 1, 1) := by decide +kernel
theorem dX11_car_1 : decode cX11_car 1 = .ok (.iconst 0, 1) := by decide +kernel
theorem dX11_car_2 : decode cX11_car 2 = .ok (.bipush 10, 2) := by decide +kernel
theorem dX11_car_4 : decode cX11_car 4 = .ok (.invokestatic 69, 3) := by decide +kernel
theorem dX11_car_7 : decode cX11_car 7 = .ok (.ifCond .ne 36, 3) := by decide +kernel
theorem dX11_car_10 : decode cX11_car 10 = .ok (.iload_n 2, 1) := by decide +kernel
theorem dX11_car_11 : decode cX11_car 11 = .ok (.iconst 1, 1) := by decide +kernel
theorem dX11_car_12 : decode cX11_car 12 = .ok (.ldc 73, 2) := by decide +kernel
theorem dX11_car_14 : decode cX11_car 14 = .ok (.invokestatic 69, 3) := by decide +kernel
theorem dX11_car_17 : decode cX11_car 17 = .ok (.ifCond .ne 26, 3) := by decide +kernel
theorem dX11_car_20 : decode cX11_car 20 = .ok (.iload_n 3, 1) := by decide +kernel
theorem dX11_car_21 : decode cX11_car 21 = .ok (.iconst 0, 1) := by decide +kernel
theorem dX11_car_22 : decode cX11_car 22 = .ok (.sipush 20999, 3) := by decide +kernel
theorem dX11_car_25 : decode cX11_car 25 = .ok (.invokestatic 69, 3) := by decide +kernel
theorem dX11_car_28 : decode cX11_car 28 = .ok (.ifCond .ne 15, 3) := by decide +kernel
theorem dX11_car_31 : decode cX11_car 31 = .ok (.iload 4, 2) := by decide +kernel
theorem dX11_car_33 : decode cX11_car 33 = .ok (.iconst 0, 1) := by decide +kernel
theorem dX11_car_34 : decode cX11_car 34 = .ok (.sipush 255, 3) := by decide +kernel
theorem dX11_car_37 : decode cX11_car 37 = .ok (.invokestatic 69, 3) := by decide +kernel
theorem dX11_car_40 : decode cX11_car 40 = .ok (.ifCond .eq 10, 3) := by decide +kernel
theorem dX11_car_43 : decode cX11_car 43 = .ok (.aload_n 0, 1) := by decide +kernel
theorem dX11_car_44 : decode cX11_car 44 = .ok (.ldc 74, 2) := by decide +kernel
theorem dX11_car_46 : decode cX11_car 46 = .ok (.invokevirtual 75, 3) := by decide +kernel
theorem dX11_car_49 : decode cX11_car 49 = .ok (.ireturn, 1) := by decide +kernel
theorem dX11_car_50 : decode cX11_car 50 = .ok (.aload_n 0, 1) := by decide +kernel
theorem dX11_car_51 : decode cX11_car 51 = .ok (.getfield 12, 3) := by decide +kernel
theorem dX11_car_54 : decode cX11_car 54 = .ok (.getfield 79, 3) := by decide +kernel
theorem dX11_car_57 : decode cX11_car 57 = .ok (.bipush 30, 2) := by decide +kernel
theorem dX11_car_59 : decode cX11_car 59 = .ok (.if_icmp .lt 10, 3) := by decide +kernel
theorem dX11_car_62 : decode cX11_car 62 = .ok (.aload_n 0, 1) := by decide +kernel
theorem dX11_car_63 : decode cX11_car 63 = .ok (.ldc 83, 2) := by decide +kernel
theorem dX11_car_65 : decode cX11_car 65 = .ok (.invokevirtual 75, 3) := by decide +kernel
theorem dX11_car_68 : decode cX11_car 68 = .ok (.ireturn, 1) := by decide +kernel
theorem dX11_car_69 : decode cX11_car 69 = .ok (.aload_n 0, 1) := by decide +kernel
theorem dX11_car_70 : decode cX11_car 70 = .ok (.getfield 12, 3) := by decide +kernel
theorem dX11_car_73 : decode cX11_car 73 = .ok (.getfield 84, 3) := by decide +kernel
theorem dX11_car_76 : decode cX11_car 76 = .ok (.aload_n 0, 1) := by decide +kernel
theorem dX11_car_77 : decode cX11_car 77 = .ok (.getfield 12, 3) := by decide +kernel
theorem dX11_car_80 : decode cX11_car 80 = .ok (.getfield 79, 3) := by decide +kernel
theorem dX11_car_83 : decode cX11_car 83 = .ok (.aaload, 1) := by decide +kernel
theorem dX11_car_84 : decode cX11_car 84 = .ok (.iload_n 1, 1) := by decide +kernel
theorem dX11_car_85 : decode cX11_car 85 = .ok (.iload_n 2, 1) := by decide +kernel
theorem dX11_car_86 : decode cX11_car 86 = .ok (.iload_n 3, 1) := by decide +kernel
theorem dX11_car_87 : decode cX11_car 87 = .ok (.iload 4, 2) := by decide +kernel
theorem dX11_car_89 : decode cX11_car 89 = .ok (.invokevirtual 88, 3) := by decide +kernel
theorem dX11_car_92 : decode cX11_car 92 = .ok (.aload_n 0, 1) := by decide +kernel
theorem dX11_car_93 : decode cX11_car 93 = .ok (.getfield 12, 3) := by decide +kernel
theorem dX11_car_96 : decode cX11_car 96 = .ok (.dup, 1) := by decide +kernel
theorem dX11_car_97 : decode cX11_car 97 = .ok (.getfield 79, 3) := by decide +kernel
theorem dX11_car_100 : decode cX11_car 100 = .ok (.iconst 1, 1) := by decide +kernel
theorem dX11_car_101 : decode cX11_car 101 = .ok (.iadd, 1) := by decide +kernel
theorem dX11_car_102 : decode cX11_car 102 = .ok (.putfield 79, 3) := by decide +kernel
theorem dX11_car_105 : decode cX11_car 105 = .ok (.aload_n 0, 1) := by decide +kernel
theorem dX11_car_106 : decode cX11_car 106 = .ok (.getfield 12, 3) := by decide +kernel
theorem dX11_car_109 : decode cX11_car 109 = .ok (.getfield 79, 3) := by decide +kernel
theorem dX11_car_112 : decode cX11_car 112 = .ok (.iconst 1, 1) := by decide +kernel
theorem dX11_car_113 : decode cX11_car 113 = .ok (.isub, 1) := by decide +kernel
theorem dX11_car_114 : decode cX11_car 114 = .ok (.ireturn, 1) := by decide +kernel
theorem dX11_carIs_0 : decode cX11_carIs 0 = .ok (.aload_n 0, 1) := by decide +kernel
theorem dX11_carIs_1 : decode cX11_carIs 1 = .ok (.iload_n 1, 1) := by decide +kernel
theorem dX11_carIs_2 : decode cX11_carIs 2 = .ok (.invokevirtual 94, 3) := by decide +kernel
theorem dX11_carIs_5 : decode cX11_carIs 5 = .ok (.ifCond .ne 13, 3) := by decide +kernel
theorem dX11_carIs_8 : decode cX11_carIs 8 = .ok (.iload_n 2, 1) := by decide +kernel
theorem dX11_carIs_9 : decode cX11_carIs 9 = .ok (.iconst 0, 1) := by decide +kernel
theorem dX11_carIs_10 : decode cX11_carIs 10 = .ok (.bipush 8, 2) := by decide +kernel
theorem dX11_carIs_12 : decode cX11_carIs 12 = .ok (.invokestatic 69, 3) := by decide +kernel
theorem dX11_carIs_15 : decode cX11_carIs 15 = .ok (.ifCond .eq 10, 3) := by decide +kernel
theorem dX11_carIs_18 : decode cX11_carIs 18 = .ok (.aload_n 0, 1) := by decide +kernel
theorem dX11_carIs_19 : decode cX11_carIs 19 = .ok (.ldc 74, 2) := by decide +kernel
theorem dX11_carIs_21 : decode cX11_carIs 21 = .ok (.invokevirtual 75, 3) := by decide +kernel
theorem dX11_carIs_24 : decode cX11_carIs 24 = .ok (.ireturn, 1) := by decide +kernel
theorem dX11_carIs_25 : decode cX11_carIs 25 = .ok (.aload_n 0, 1) := by decide +kernel
theorem dX11_carIs_26 : decode cX11_carIs 26 = .ok (.getfield 12, 3) := by decide +kernel
theorem dX11_carIs_29 : decode cX11_carIs 29 = .ok (.getfield 84, 3) := by decide +kernel
theorem dX11_carIs_32 : decode cX11_carIs 32 = .ok (.iload_n 1, 1) := by decide +kernel
theorem dX11_carIs_33 : decode cX11_carIs 33 = .ok (.aaload, 1) := by decide +kernel
theorem dX11_carIs_34 : decode cX11_carIs 34 = .ok (.astore_n 3, 1) := by decide +kernel
theorem dX11_carIs_35 : decode cX11_carIs 35 = .ok (.iload_n 2, 1) := by decide +kernel
theorem dX11_carIs_36 : decode cX11_carIs 36 = .ok (.tableswitch 74 0 5 #[40, 45, 50, 55, 60, 65], 40) := by decide +kernel
theorem dX11_carIs_76 : decode cX11_carIs 76 = .ok (.aload_n 3, 1) := by decide +kernel
theorem dX11_carIs_77 : decode cX11_carIs 77 = .ok (.getfield 98, 3) := by decide +kernel
theorem dX11_carIs_80 : decode cX11_carIs 80 = .ok (.ireturn, 1) := by decide +kernel
theorem dX11_carIs_81 : decode cX11_carIs 81 = .ok (.aload_n 3, 1) := by decide +kernel
theorem dX11_carIs_82 : decode cX11_carIs 82 = .ok (.getfield 101, 3) := by decide +kernel
theorem dX11_carIs_85 : decode cX11_carIs 85 = .ok (.ireturn, 1) := by decide +kernel
theorem dX11_carIs_86 : decode cX11_carIs 86 = .ok (.aload_n 3, 1) := by decide +kernel
theorem dX11_carIs_87 : decode cX11_carIs 87 = .ok (.getfield 104, 3) := by decide +kernel
theorem dX11_carIs_90 : decode cX11_carIs 90 = .ok (.ireturn, 1) := by decide +kernel
theorem dX11_carIs_91 : decode cX11_carIs 91 = .ok (.aload_n 3, 1) := by decide +kernel
theorem dX11_carIs_92 : decode cX11_carIs 92 = .ok (.getfield 107, 3) := by decide +kernel
theorem dX11_carIs_95 : decode cX11_carIs 95 = .ok (.ireturn, 1) := by decide +kernel
theorem dX11_carIs_96 : decode cX11_carIs 96 = .ok (.aload_n 3, 1) := by decide +kernel
theorem dX11_carIs_97 : decode cX11_carIs 97 = .ok (.getfield 110, 3) := by decide +kernel
theorem dX11_carIs_100 : decode cX11_carIs 100 = .ok (.ireturn, 1) := by decide +kernel
theorem dX11_carIs_101 : decode cX11_carIs 101 = .ok (.aload_n 0, 1) := by decide +kernel
theorem dX11_carIs_102 : decode cX11_carIs 102 = .ok (.getfield 24, 3) := by decide +kernel
theorem dX11_carIs_105 : decode cX11_carIs 105 = .ok (.aload_n 3, 1) := by decide +kernel
theorem dX11_carIs_106 : decode cX11_carIs 106 = .ok (.invokevirtual 113, 3) := by decide +kernel
theorem dX11_carIs_109 : decode cX11_carIs 109 = .ok (.ireturn, 1) := by decide +kernel
theorem dX11_carIs_110 : decode cX11_carIs 110 = .ok (.aload_n 3, 1) := by decide +kernel
theorem dX11_carIs_111 : decode cX11_carIs 111 = .ok (.getfield 117, 3) := by decide +kernel
theorem dX11_carIs_114 : decode cX11_carIs 114 = .ok (.iload_n 2, 1) := by decide +kernel
theorem dX11_carIs_115 : decode cX11_carIs 115 = .ok (.bipush 6, 2) := by decide +kernel
theorem dX11_carIs_117 : decode cX11_carIs 117 = .ok (.isub, 1) := by decide +kernel
theorem dX11_carIs_118 : decode cX11_carIs 118 = .ok (.iaload, 1) := by decide +kernel
theorem dX11_carIs_119 : decode cX11_carIs 119 = .ok (.ireturn, 1) := by decide +kernel
theorem dX11_mark_0 : decode cX11_mark 0 = .ok (.aload_n 0, 1) := by decide +kernel
theorem dX11_mark_1 : decode cX11_mark 1 = .ok (.iload_n 1, 1) := by decide +kernel
theorem dX11_mark_2 : decode cX11_mark 2 = .ok (.invokevirtual 94, 3) := by decide +kernel
theorem dX11_mark_5 : decode cX11_mark 5 = .ok (.ifCond .ne 22, 3) := by decide +kernel
theorem dX11_mark_8 : decode cX11_mark 8 = .ok (.iload_n 2, 1) := by decide +kernel
theorem dX11_mark_9 : decode cX11_mark 9 = .ok (.iconst 0, 1) := by decide +kernel
theorem dX11_mark_10 : decode cX11_mark 10 = .ok (.iconst 2, 1) := by decide +kernel
theorem dX11_mark_11 : decode cX11_mark 11 = .ok (.invokestatic 69, 3) := by decide +kernel
theorem dX11_mark_14 : decode cX11_mark 14 = .ok (.ifCond .ne 13, 3) := by decide +kernel
theorem dX11_mark_17 : decode cX11_mark 17 = .ok (.iload_n 3, 1) := by decide +kernel
theorem dX11_mark_18 : decode cX11_mark 18 = .ok (.iconst (-1), 1) := by decide +kernel
theorem dX11_mark_19 : decode cX11_mark 19 = .ok (.bipush 99, 2) := by decide +kernel
theorem dX11_mark_21 : decode cX11_mark 21 = .ok (.invokestatic 69, 3) := by decide +kernel
theorem dX11_mark_24 : decode cX11_mark 24 = .ok (.ifCond .eq 10, 3) := by decide +kernel
theorem dX11_mark_27 : decode cX11_mark 27 = .ok (.aload_n 0, 1) := by decide +kernel
theorem dX11_mark_28 : decode cX11_mark 28 = .ok (.ldc 74, 2) := by decide +kernel
theorem dX11_mark_30 : decode cX11_mark 30 = .ok (.invokevirtual 75, 3) := by decide +kernel
theorem dX11_mark_33 : decode cX11_mark 33 = .ok (.ireturn, 1) := by decide +kernel
theorem dX11_mark_34 : decode cX11_mark 34 = .ok (.aload_n 0, 1) := by decide +kernel
theorem dX11_mark_35 : decode cX11_mark 35 = .ok (.getfield 12, 3) := by decide +kernel
theorem dX11_mark_38 : decode cX11_mark 38 = .ok (.getfield 84, 3) := by decide +kernel
theorem dX11_mark_41 : decode cX11_mark 41 = .ok (.iload_n 1, 1) := by decide +kernel
theorem dX11_mark_42 : decode cX11_mark 42 = .ok (.aaload, 1) := by decide +kernel
theorem dX11_mark_43 : decode cX11_mark 43 = .ok (.getfield 117, 3) := by decide +kernel
theorem dX11_mark_46 : decode cX11_mark 46 = .ok (.astore 4, 2) := by decide +kernel
theorem dX11_mark_48 : decode cX11_mark 48 = .ok (.aload 4, 2) := by decide +kernel
theorem dX11_mark_50 : decode cX11_mark 50 = .ok (.iload_n 2, 1) := by decide +kernel
theorem dX11_mark_51 : decode cX11_mark 51 = .ok (.iaload, 1) := by decide +kernel
theorem dX11_mark_52 : decode cX11_mark 52 = .ok (.istore 5, 2) := by decide +kernel
theorem dX11_mark_54 : decode cX11_mark 54 = .ok (.aload 4, 2) := by decide +kernel
theorem dX11_mark_56 : decode cX11_mark 56 = .ok (.iload_n 2, 1) := by decide +kernel
theorem dX11_mark_57 : decode cX11_mark 57 = .ok (.iload_n 3, 1) := by decide +kernel
theorem dX11_mark_58 : decode cX11_mark 58 = .ok (.iastore, 1) := by decide +kernel
theorem dX11_mark_59 : decode cX11_mark 59 = .ok (.iload 5, 2) := by decide +kernel
theorem dX11_mark_61 : decode cX11_mark 61 = .ok (.ireturn, 1) := by decide +kernel
theorem dX11_shape_0 : decode cX11_shape 0 = .ok (.iload_n 1, 1) := by decide +kernel
theorem dX11_shape_1 : decode cX11_shape 1 = .ok (.iconst 0, 1) := by decide +kernel
theorem dX11_shape_2 : decode cX11_shape 2 = .ok (.ldc 120, 2) := by decide +kernel
theorem dX11_shape_4 : decode cX11_shape 4 = .ok (.invokestatic 69, 3) := by decide +kernel
theorem dX11_shape_7 : decode cX11_shape 7 = .ok (.ifCond .ne 23, 3) := by decide +kernel
theorem dX11_shape_10 : decode cX11_shape 10 = .ok (.iload_n 2, 1) := by decide +kernel
theorem dX11_shape_11 : decode cX11_shape 11 = .ok (.iconst 0, 1) := by decide +kernel
theorem dX11_shape_12 : decode cX11_shape 12 = .ok (.ldc 120, 2) := by decide +kernel
theorem dX11_shape_14 : decode cX11_shape 14 = .ok (.invokestatic 69, 3) := by decide +kernel
theorem dX11_shape_17 : decode cX11_shape 17 = .ok (.ifCond .ne 13, 3) := by decide +kernel
theorem dX11_shape_20 : decode cX11_shape 20 = .ok (.iload_n 3, 1) := by decide +kernel
theorem dX11_shape_21 : decode cX11_shape 21 = .ok (.iconst 0, 1) := by decide +kernel
theorem dX11_shape_22 : decode cX11_shape 22 = .ok (.bipush 100, 2) := by decide +kernel
theorem dX11_shape_24 : decode cX11_shape 24 = .ok (.invokestatic 69, 3) := by decide +kernel
theorem dX11_shape_27 : decode cX11_shape 27 = .ok (.ifCond .eq 10, 3) := by decide +kernel
theorem dX11_shape_30 : decode cX11_shape 30 = .ok (.aload_n 0, 1) := by decide +kernel
theorem dX11_shape_31 : decode cX11_shape 31 = .ok (.ldc 74, 2) := by decide +kernel
theorem dX11_shape_33 : decode cX11_shape 33 = .ok (.invokevirtual 75, 3) := by decide +kernel
theorem dX11_shape_36 : decode cX11_shape 36 = .ok (.ireturn, 1) := by decide +kernel
theorem dX11_shape_37 : decode cX11_shape 37 = .ok (.aload_n 0, 1) := by decide +kernel
theorem dX11_shape_38 : decode cX11_shape 38 = .ok (.getfield 12, 3) := by decide +kernel
theorem dX11_shape_41 : decode cX11_shape 41 = .ok (.getfield 121, 3) := by decide +kernel
theorem dX11_shape_44 : decode cX11_shape 44 = .ok (.istore 4, 2) := by decide +kernel
theorem dX11_shape_46 : decode cX11_shape 46 = .ok (.iload 4, 2) := by decide +kernel
theorem dX11_shape_48 : decode cX11_shape 48 = .ok (.bipush 16, 2) := by decide +kernel
theorem dX11_shape_50 : decode cX11_shape 50 = .ok (.if_icmp .lt 10, 3) := by decide +kernel
theorem dX11_shape_53 : decode cX11_shape 53 = .ok (.aload_n 0, 1) := by decide +kernel
theorem dX11_shape_54 : decode cX11_shape 54 = .ok (.ldc 83, 2) := by decide +kernel
theorem dX11_shape_56 : decode cX11_shape 56 = .ok (.invokevirtual 75, 3) := by decide +kernel
theorem dX11_shape_59 : decode cX11_shape 59 = .ok (.ireturn, 1) := by decide +kernel
theorem dX11_shape_60 : decode cX11_shape 60 = .ok (.aload_n 0, 1) := by decide +kernel
theorem dX11_shape_61 : decode cX11_shape 61 = .ok (.getfield 12, 3) := by decide +kernel
theorem dX11_shape_64 : decode cX11_shape 64 = .ok (.getfield 124, 3) := by decide +kernel
theorem dX11_shape_67 : decode cX11_shape 67 = .ok (.iload 4, 2) := by decide +kernel
theorem dX11_shape_69 : decode cX11_shape 69 = .ok (.iload_n 1, 1) := by decide +kernel
theorem dX11_shape_70 : decode cX11_shape 70 = .ok (.iastore, 1) := by decide +kernel
theorem dX11_shape_71 : decode cX11_shape 71 = .ok (.aload_n 0, 1) := by decide +kernel
theorem dX11_shape_72 : decode cX11_shape 72 = .ok (.getfield 12, 3) := by decide +kernel
theorem dX11_shape_75 : decode cX11_shape 75 = .ok (.getfield 127, 3) := by decide +kernel
theorem dX11_shape_78 : decode cX11_shape 78 = .ok (.iload 4, 2) := by decide +kernel
theorem dX11_shape_80 : decode cX11_shape 80 = .ok (.iload_n 1, 1) := by decide +kernel
theorem dX11_shape_81 : decode cX11_shape 81 = .ok (.iload_n 2, 1) := by decide +kernel
theorem dX11_shape_82 : decode cX11_shape 82 = .ok (.ior, 1) := by decide +kernel
theorem dX11_shape_83 : decode cX11_shape 83 = .ok (.iastore, 1) := by decide +kernel
theorem dX11_shape_84 : decode cX11_shape 84 = .ok (.aload_n 0, 1) := by decide +kernel
theorem dX11_shape_85 : decode cX11_shape 85 = .ok (.getfield 12, 3) := by decide +kernel
theorem dX11_shape_88 : decode cX11_shape 88 = .ok (.getfield 130, 3) := by decide +kernel
theorem dX11_shape_91 : decode cX11_shape 91 = .ok (.iload 4, 2) := by decide +kernel
theorem dX11_shape_93 : decode cX11_shape 93 = .ok (.iload_n 3, 1) := by decide +kernel
theorem dX11_shape_94 : decode cX11_shape 94 = .ok (.iastore, 1) := by decide +kernel
theorem dX11_shape_95 : decode cX11_shape 95 = .ok (.aload_n 0, 1) := by decide +kernel
theorem dX11_shape_96 : decode cX11_shape 96 = .ok (.getfield 12, 3) := by decide +kernel
theorem dX11_shape_99 : decode cX11_shape 99 = .ok (.iload 4, 2) := by decide +kernel
theorem dX11_shape_101 : decode cX11_shape 101 = .ok (.iconst 1, 1) := by decide +kernel
theorem dX11_shape_102 : decode cX11_shape 102 = .ok (.iadd, 1) := by decide +kernel
theorem dX11_shape_103 : decode cX11_shape 103 = .ok (.putfield 121, 3) := by decide +kernel
theorem dX11_shape_106 : decode cX11_shape 106 = .ok (.iload 4, 2) := by decide +kernel
theorem dX11_shape_108 : decode cX11_shape 108 = .ok (.ireturn, 1) := by decide +kernel
theorem dX11_crash_0 : decode cX11_crash 0 = .ok (.iload_n 1, 1) := by decide +kernel
theorem dX11_crash_1 : decode cX11_crash 1 = .ok (.ifCond .lt 45, 3) := by decide +kernel
theorem dX11_crash_4 : decode cX11_crash 4 = .ok (.aload_n 0, 1) := by decide +kernel
theorem dX11_crash_5 : decode cX11_crash 5 = .ok (.iload_n 1, 1) := by decide +kernel
theorem dX11_crash_6 : decode cX11_crash 6 = .ok (.bipush 100, 2) := by decide +kernel
theorem dX11_crash_8 : decode cX11_crash 8 = .ok (.idiv, 1) := by decide +kernel
theorem dX11_crash_9 : decode cX11_crash 9 = .ok (.invokevirtual 94, 3) := by decide +kernel
theorem dX11_crash_12 : decode cX11_crash 12 = .ok (.ifCond .ne 34, 3) := by decide +kernel
theorem dX11_crash_15 : decode cX11_crash 15 = .ok (.aload_n 0, 1) := by decide +kernel
theorem dX11_crash_16 : decode cX11_crash 16 = .ok (.iload_n 1, 1) := by decide +kernel
theorem dX11_crash_17 : decode cX11_crash 17 = .ok (.bipush 100, 2) := by decide +kernel
theorem dX11_crash_19 : decode cX11_crash 19 = .ok (.irem, 1) := by decide +kernel
theorem dX11_crash_20 : decode cX11_crash 20 = .ok (.invokevirtual 94, 3) := by decide +kernel
theorem dX11_crash_23 : decode cX11_crash 23 = .ok (.ifCond .ne 23, 3) := by decide +kernel
theorem dX11_crash_26 : decode cX11_crash 26 = .ok (.iload_n 2, 1) := by decide +kernel
theorem dX11_crash_27 : decode cX11_crash 27 = .ok (.iconst 0, 1) := by decide +kernel
theorem dX11_crash_28 : decode cX11_crash 28 = .ok (.ldc 73, 2) := by decide +kernel
theorem dX11_crash_30 : decode cX11_crash 30 = .ok (.invokestatic 69, 3) := by decide +kernel
theorem dX11_crash_33 : decode cX11_crash 33 = .ok (.ifCond .ne 13, 3) := by decide +kernel
theorem dX11_crash_36 : decode cX11_crash 36 = .ok (.iload_n 3, 1) := by decide +kernel
theorem dX11_crash_37 : decode cX11_crash 37 = .ok (.iconst 0, 1) := by decide +kernel
theorem dX11_crash_38 : decode cX11_crash 38 = .ok (.ldc 120, 2) := by decide +kernel
theorem dX11_crash_40 : decode cX11_crash 40 = .ok (.invokestatic 69, 3) := by decide +kernel
theorem dX11_crash_43 : decode cX11_crash 43 = .ok (.ifCond .eq 10, 3) := by decide +kernel
theorem dX11_crash_46 : decode cX11_crash 46 = .ok (.aload_n 0, 1) := by decide +kernel
theorem dX11_crash_47 : decode cX11_crash 47 = .ok (.ldc 74, 2) := by decide +kernel
theorem dX11_crash_49 : decode cX11_crash 49 = .ok (.invokevirtual 75, 3) := by decide +kernel
theorem dX11_crash_52 : decode cX11_crash 52 = .ok (.ireturn, 1) := by decide +kernel
theorem dX11_crash_53 : decode cX11_crash 53 = .ok (.aload_n 0, 1) := by decide +kernel
theorem dX11_crash_54 : decode cX11_crash 54 = .ok (.getfield 12, 3) := by decide +kernel
theorem dX11_crash_57 : decode cX11_crash 57 = .ok (.getfield 84, 3) := by decide +kernel
theorem dX11_crash_60 : decode cX11_crash 60 = .ok (.iload_n 1, 1) := by decide +kernel
theorem dX11_crash_61 : decode cX11_crash 61 = .ok (.bipush 100, 2) := by decide +kernel
theorem dX11_crash_63 : decode cX11_crash 63 = .ok (.idiv, 1) := by decide +kernel
theorem dX11_crash_64 : decode cX11_crash 64 = .ok (.aaload, 1) := by decide +kernel
theorem dX11_crash_65 : decode cX11_crash 65 = .ok (.astore 4, 2) := by decide +kernel
theorem dX11_crash_67 : decode cX11_crash 67 = .ok (.aload_n 0, 1) := by decide +kernel
theorem dX11_crash_68 : decode cX11_crash 68 = .ok (.getfield 12, 3) := by decide +kernel
theorem dX11_crash_71 : decode cX11_crash 71 = .ok (.getfield 84, 3) := by decide +kernel
theorem dX11_crash_74 : decode cX11_crash 74 = .ok (.iload_n 1, 1) := by decide +kernel
theorem dX11_crash_75 : decode cX11_crash 75 = .ok (.bipush 100, 2) := by decide +kernel
theorem dX11_crash_77 : decode cX11_crash 77 = .ok (.irem, 1) := by decide +kernel
theorem dX11_crash_78 : decode cX11_crash 78 = .ok (.aaload, 1) := by decide +kernel
theorem dX11_crash_79 : decode cX11_crash 79 = .ok (.astore 5, 2) := by decide +kernel
theorem dX11_crash_81 : decode cX11_crash 81 = .ok (.aload 4, 2) := by decide +kernel
theorem dX11_crash_83 : decode cX11_crash 83 = .ok (.getfield 98, 3) := by decide +kernel
theorem dX11_crash_86 : decode cX11_crash 86 = .ok (.aload 5, 2) := by decide +kernel
theorem dX11_crash_88 : decode cX11_crash 88 = .ok (.getfield 98, 3) := by decide +kernel
theorem dX11_crash_91 : decode cX11_crash 91 = .ok (.if_icmp .ne 10, 3) := by decide +kernel
theorem dX11_crash_94 : decode cX11_crash 94 = .ok (.aload_n 0, 1) := by decide +kernel
theorem dX11_crash_95 : decode cX11_crash 95 = .ok (.ldc 133, 2) := by decide +kernel
theorem dX11_crash_97 : decode cX11_crash 97 = .ok (.invokevirtual 75, 3) := by decide +kernel
theorem dX11_crash_100 : decode cX11_crash 100 = .ok (.ireturn, 1) := by decide +kernel
theorem dX11_crash_101 : decode cX11_crash 101 = .ok (.aload_n 0, 1) := by decide +kernel
theorem dX11_crash_102 : decode cX11_crash 102 = .ok (.getfield 12, 3) := by decide +kernel
theorem dX11_crash_105 : decode cX11_crash 105 = .ok (.getfield 134, 3) := by decide +kernel
theorem dX11_crash_108 : decode cX11_crash 108 = .ok (.istore 6, 2) := by decide +kernel
theorem dX11_crash_110 : decode cX11_crash 110 = .ok (.iload 6, 2) := by decide +kernel
theorem dX11_crash_112 : decode cX11_crash 112 = .ok (.bipush 20, 2) := by decide +kernel
theorem dX11_crash_114 : decode cX11_crash 114 = .ok (.if_icmp .lt 10, 3) := by decide +kernel
theorem dX11_crash_117 : decode cX11_crash 117 = .ok (.aload_n 0, 1) := by decide +kernel
theorem dX11_crash_118 : decode cX11_crash 118 = .ok (.ldc 83, 2) := by decide +kernel
theorem dX11_crash_120 : decode cX11_crash 120 = .ok (.invokevirtual 75, 3) := by decide +kernel
theorem dX11_crash_123 : decode cX11_crash 123 = .ok (.ireturn, 1) := by decide +kernel
theorem dX11_crash_124 : decode cX11_crash 124 = .ok (.iload_n 3, 1) := by decide +kernel
theorem dX11_crash_125 : decode cX11_crash 125 = .ok (.sipush 256, 3) := by decide +kernel
theorem dX11_crash_128 : decode cX11_crash 128 = .ok (.aload 4, 2) := by decide +kernel
theorem dX11_crash_130 : decode cX11_crash 130 = .ok (.getfield 110, 3) := by decide +kernel
theorem dX11_crash_133 : decode cX11_crash 133 = .ok (.imul, 1) := by decide +kernel
theorem dX11_crash_134 : decode cX11_crash 134 = .ok (.aload 5, 2) := by decide +kernel
theorem dX11_crash_136 : decode cX11_crash 136 = .ok (.getfield 110, 3) := by decide +kernel
theorem dX11_crash_139 : decode cX11_crash 139 = .ok (.iadd, 1) := by decide +kernel
theorem dX11_crash_140 : decode cX11_crash 140 = .ok (.iconst (-1), 1) := by decide +kernel
theorem dX11_crash_141 : decode cX11_crash 141 = .ok (.ixor, 1) := by decide +kernel
theorem dX11_crash_142 : decode cX11_crash 142 = .ok (.iand, 1) := by decide +kernel
theorem dX11_crash_143 : decode cX11_crash 143 = .ok (.istore 7, 2) := by decide +kernel
theorem dX11_crash_145 : decode cX11_crash 145 = .ok (.aload_n 0, 1) := by decide +kernel
theorem dX11_crash_146 : decode cX11_crash 146 = .ok (.getfield 12, 3) := by decide +kernel
theorem dX11_crash_149 : decode cX11_crash 149 = .ok (.getfield 137, 3) := by decide +kernel
theorem dX11_crash_152 : decode cX11_crash 152 = .ok (.iload 6, 2) := by decide +kernel
theorem dX11_crash_154 : decode cX11_crash 154 = .ok (.aaload, 1) := by decide +kernel
theorem dX11_crash_155 : decode cX11_crash 155 = .ok (.iload_n 1, 1) := by decide +kernel
theorem dX11_crash_156 : decode cX11_crash 156 = .ok (.bipush 100, 2) := by decide +kernel
theorem dX11_crash_158 : decode cX11_crash 158 = .ok (.idiv, 1) := by decide +kernel
theorem dX11_crash_159 : decode cX11_crash 159 = .ok (.iload_n 1, 1) := by decide +kernel
theorem dX11_crash_160 : decode cX11_crash 160 = .ok (.bipush 100, 2) := by decide +kernel
theorem dX11_crash_162 : decode cX11_crash 162 = .ok (.irem, 1) := by decide +kernel
theorem dX11_crash_163 : decode cX11_crash 163 = .ok (.iload_n 2, 1) := by decide +kernel
theorem dX11_crash_164 : decode cX11_crash 164 = .ok (.iload 7, 2) := by decide +kernel
theorem dX11_crash_166 : decode cX11_crash 166 = .ok (.invokevirtual 141, 3) := by decide +kernel
theorem dX11_crash_169 : decode cX11_crash 169 = .ok (.aload_n 0, 1) := by decide +kernel
theorem dX11_crash_170 : decode cX11_crash 170 = .ok (.getfield 12, 3) := by decide +kernel
theorem dX11_crash_173 : decode cX11_crash 173 = .ok (.iload 6, 2) := by decide +kernel
theorem dX11_crash_175 : decode cX11_crash 175 = .ok (.iconst 1, 1) := by decide +kernel
theorem dX11_crash_176 : decode cX11_crash 176 = .ok (.iadd, 1) := by decide +kernel
theorem dX11_crash_177 : decode cX11_crash 177 = .ok (.putfield 134, 3) := by decide +kernel
theorem dX11_crash_180 : decode cX11_crash 180 = .ok (.iload 6, 2) := by decide +kernel
theorem dX11_crash_182 : decode cX11_crash 182 = .ok (.ireturn, 1) := by decide +kernel
theorem dX11_tells_0 : decode cX11_tells 0 = .ok (.aload_n 0, 1) := by decide +kernel
theorem dX11_tells_1 : decode cX11_tells 1 = .ok (.iload_n 1, 1) := by decide +kernel
theorem dX11_tells_2 : decode cX11_tells 2 = .ok (.iload_n 2, 1) := by decide +kernel
theorem dX11_tells_3 : decode cX11_tells 3 = .ok (.invokevirtual 144, 3) := by decide +kernel
theorem dX11_tells_6 : decode cX11_tells 6 = .ok (.ifCond .ne 22, 3) := by decide +kernel
theorem dX11_tells_9 : decode cX11_tells 9 = .ok (.iload_n 3, 1) := by decide +kernel
theorem dX11_tells_10 : decode cX11_tells 10 = .ok (.iconst 0, 1) := by decide +kernel
theorem dX11_tells_11 : decode cX11_tells 11 = .ok (.iconst 1, 1) := by decide +kernel
theorem dX11_tells_12 : decode cX11_tells 12 = .ok (.aload_n 0, 1) := by decide +kernel
theorem dX11_tells_13 : decode cX11_tells 13 = .ok (.getfield 12, 3) := by decide +kernel
theorem dX11_tells_16 : decode cX11_tells 16 = .ok (.getfield 121, 3) := by decide +kernel
theorem dX11_tells_19 : decode cX11_tells 19 = .ok (.ishl, 1) := by decide +kernel
theorem dX11_tells_20 : decode cX11_tells 20 = .ok (.iconst 1, 1) := by decide +kernel
theorem dX11_tells_21 : decode cX11_tells 21 = .ok (.isub, 1) := by decide +kernel
theorem dX11_tells_22 : decode cX11_tells 22 = .ok (.invokestatic 69, 3) := by decide +kernel
theorem dX11_tells_25 : decode cX11_tells 25 = .ok (.ifCond .eq 10, 3) := by decide +kernel
theorem dX11_tells_28 : decode cX11_tells 28 = .ok (.aload_n 0, 1) := by decide +kernel
theorem dX11_tells_29 : decode cX11_tells 29 = .ok (.ldc 74, 2) := by decide +kernel
theorem dX11_tells_31 : decode cX11_tells 31 = .ok (.invokevirtual 75, 3) := by decide +kernel
theorem dX11_tells_34 : decode cX11_tells 34 = .ok (.ireturn, 1) := by decide +kernel
theorem dX11_tells_35 : decode cX11_tells 35 = .ok (.aload_n 0, 1) := by decide +kernel
theorem dX11_tells_36 : decode cX11_tells 36 = .ok (.getfield 12, 3) := by decide +kernel
theorem dX11_tells_39 : decode cX11_tells 39 = .ok (.getfield 137, 3) := by decide +kernel
theorem dX11_tells_42 : decode cX11_tells 42 = .ok (.iload_n 1, 1) := by decide +kernel
theorem dX11_tells_43 : decode cX11_tells 43 = .ok (.aaload, 1) := by decide +kernel
theorem dX11_tells_44 : decode cX11_tells 44 = .ok (.getfield 148, 3) := by decide +kernel
theorem dX11_tells_47 : decode cX11_tells 47 = .ok (.astore 4, 2) := by decide +kernel
theorem dX11_tells_49 : decode cX11_tells 49 = .ok (.aload 4, 2) := by decide +kernel
theorem dX11_tells_51 : decode cX11_tells 51 = .ok (.iload_n 2, 1) := by decide +kernel
theorem dX11_tells_52 : decode cX11_tells 52 = .ok (.iaload, 1) := by decide +kernel
theorem dX11_tells_53 : decode cX11_tells 53 = .ok (.istore 5, 2) := by decide +kernel
theorem dX11_tells_55 : decode cX11_tells 55 = .ok (.aload 4, 2) := by decide +kernel
theorem dX11_tells_57 : decode cX11_tells 57 = .ok (.iload_n 2, 1) := by decide +kernel
theorem dX11_tells_58 : decode cX11_tells 58 = .ok (.iload_n 3, 1) := by decide +kernel
theorem dX11_tells_59 : decode cX11_tells 59 = .ok (.iastore, 1) := by decide +kernel
theorem dX11_tells_60 : decode cX11_tells 60 = .ok (.iload 5, 2) := by decide +kernel
theorem dX11_tells_62 : decode cX11_tells 62 = .ok (.ireturn, 1) := by decide +kernel
theorem dX11_crashIs_0 : decode cX11_crashIs 0 = .ok (.aload_n 0, 1) := by decide +kernel
theorem dX11_crashIs_1 : decode cX11_crashIs 1 = .ok (.iload_n 1, 1) := by decide +kernel
theorem dX11_crashIs_2 : decode cX11_crashIs 2 = .ok (.invokevirtual 151, 3) := by decide +kernel
theorem dX11_crashIs_5 : decode cX11_crashIs 5 = .ok (.ifCond .ne 13, 3) := by decide +kernel
theorem dX11_crashIs_8 : decode cX11_crashIs 8 = .ok (.iload_n 2, 1) := by decide +kernel
theorem dX11_crashIs_9 : decode cX11_crashIs 9 = .ok (.iconst 0, 1) := by decide +kernel
theorem dX11_crashIs_10 : decode cX11_crashIs 10 = .ok (.bipush 10, 2) := by decide +kernel
theorem dX11_crashIs_12 : decode cX11_crashIs 12 = .ok (.invokestatic 69, 3) := by decide +kernel
theorem dX11_crashIs_15 : decode cX11_crashIs 15 = .ok (.ifCond .eq 10, 3) := by decide +kernel
theorem dX11_crashIs_18 : decode cX11_crashIs 18 = .ok (.aload_n 0, 1) := by decide +kernel
theorem dX11_crashIs_19 : decode cX11_crashIs 19 = .ok (.ldc 74, 2) := by decide +kernel
theorem dX11_crashIs_21 : decode cX11_crashIs 21 = .ok (.invokevirtual 75, 3) := by decide +kernel
theorem dX11_crashIs_24 : decode cX11_crashIs 24 = .ok (.ireturn, 1) := by decide +kernel
theorem dX11_crashIs_25 : decode cX11_crashIs 25 = .ok (.aload_n 0, 1) := by decide +kernel
theorem dX11_crashIs_26 : decode cX11_crashIs 26 = .ok (.getfield 12, 3) := by decide +kernel
theorem dX11_crashIs_29 : decode cX11_crashIs 29 = .ok (.getfield 137, 3) := by decide +kernel
theorem dX11_crashIs_32 : decode cX11_crashIs 32 = .ok (.iload_n 1, 1) := by decide +kernel
theorem dX11_crashIs_33 : decode cX11_crashIs 33 = .ok (.aaload, 1) := by decide +kernel
theorem dX11_crashIs_34 : decode cX11_crashIs 34 = .ok (.astore_n 3, 1) := by decide +kernel
theorem dX11_crashIs_35 : decode cX11_crashIs 35 = .ok (.iload_n 2, 1) := by decide +kernel
theorem dX11_crashIs_36 : decode cX11_crashIs 36 = .ok (.tableswitch 142 0 9 #[56, 63, 70, 75, 80, 86, 92, 101, 110, 126], 56) := by decide +kernel
theorem dX11_crashIs_92 : decode cX11_crashIs 92 = .ok (.aload_n 3, 1) := by decide +kernel
theorem dX11_crashIs_93 : decode cX11_crashIs 93 = .ok (.getfield 154, 3) := by decide +kernel
theorem dX11_crashIs_96 : decode cX11_crashIs 96 = .ok (.iconst 0, 1) := by decide +kernel
theorem dX11_crashIs_97 : decode cX11_crashIs 97 = .ok (.iaload, 1) := by decide +kernel
theorem dX11_crashIs_98 : decode cX11_crashIs 98 = .ok (.ireturn, 1) := by decide +kernel
theorem dX11_crashIs_99 : decode cX11_crashIs 99 = .ok (.aload_n 3, 1) := by decide +kernel
theorem dX11_crashIs_100 : decode cX11_crashIs 100 = .ok (.getfield 154, 3) := by decide +kernel
theorem dX11_crashIs_103 : decode cX11_crashIs 103 = .ok (.iconst 1, 1) := by decide +kernel
theorem dX11_crashIs_104 : decode cX11_crashIs 104 = .ok (.iaload, 1) := by decide +kernel
theorem dX11_crashIs_105 : decode cX11_crashIs 105 = .ok (.ireturn, 1) := by decide +kernel
theorem dX11_crashIs_106 : decode cX11_crashIs 106 = .ok (.aload_n 3, 1) := by decide +kernel
theorem dX11_crashIs_107 : decode cX11_crashIs 107 = .ok (.getfield 156, 3) := by decide +kernel
theorem dX11_crashIs_110 : decode cX11_crashIs 110 = .ok (.ireturn, 1) := by decide +kernel
theorem dX11_crashIs_111 : decode cX11_crashIs 111 = .ok (.aload_n 3, 1) := by decide +kernel
theorem dX11_crashIs_112 : decode cX11_crashIs 112 = .ok (.getfield 159, 3) := by decide +kernel
theorem dX11_crashIs_115 : decode cX11_crashIs 115 = .ok (.ireturn, 1) := by decide +kernel
theorem dX11_crashIs_116 : decode cX11_crashIs 116 = .ok (.aload_n 3, 1) := by decide +kernel
theorem dX11_crashIs_117 : decode cX11_crashIs 117 = .ok (.iconst 0, 1) := by decide +kernel
theorem dX11_crashIs_118 : decode cX11_crashIs 118 = .ok (.invokevirtual 162, 3) := by decide +kernel
theorem dX11_crashIs_121 : decode cX11_crashIs 121 = .ok (.ireturn, 1) := by decide +kernel
theorem dX11_crashIs_122 : decode cX11_crashIs 122 = .ok (.aload_n 3, 1) := by decide +kernel
theorem dX11_crashIs_123 : decode cX11_crashIs 123 = .ok (.iconst 1, 1) := by decide +kernel
theorem dX11_crashIs_124 : decode cX11_crashIs 124 = .ok (.invokevirtual 162, 3) := by decide +kernel
theorem dX11_crashIs_127 : decode cX11_crashIs 127 = .ok (.ireturn, 1) := by decide +kernel
theorem dX11_crashIs_128 : decode cX11_crashIs 128 = .ok (.aload_n 0, 1) := by decide +kernel
theorem dX11_crashIs_129 : decode cX11_crashIs 129 = .ok (.getfield 24, 3) := by decide +kernel
theorem dX11_crashIs_132 : decode cX11_crashIs 132 = .ok (.aload_n 3, 1) := by decide +kernel
theorem dX11_crashIs_133 : decode cX11_crashIs 133 = .ok (.invokevirtual 165, 3) := by decide +kernel
theorem dX11_crashIs_136 : decode cX11_crashIs 136 = .ok (.ireturn, 1) := by decide +kernel
theorem dX11_crashIs_137 : decode cX11_crashIs 137 = .ok (.aload_n 0, 1) := by decide +kernel
theorem dX11_crashIs_138 : decode cX11_crashIs 138 = .ok (.getfield 24, 3) := by decide +kernel
theorem dX11_crashIs_141 : decode cX11_crashIs 141 = .ok (.aload_n 3, 1) := by decide +kernel
theorem dX11_crashIs_142 : decode cX11_crashIs 142 = .ok (.invokevirtual 169, 3) := by decide +kernel
theorem dX11_crashIs_145 : decode cX11_crashIs 145 = .ok (.ireturn, 1) := by decide +kernel
theorem dX11_crashIs_146 : decode cX11_crashIs 146 = .ok (.aload_n 0, 1) := by decide +kernel
theorem dX11_crashIs_147 : decode cX11_crashIs 147 = .ok (.getfield 24, 3) := by decide +kernel
theorem dX11_crashIs_150 : decode cX11_crashIs 150 = .ok (.aload_n 0, 1) := by decide +kernel
theorem dX11_crashIs_151 : decode cX11_crashIs 151 = .ok (.getfield 24, 3) := by decide +kernel
theorem dX11_crashIs_154 : decode cX11_crashIs 154 = .ok (.aload_n 3, 1) := by decide +kernel
theorem dX11_crashIs_155 : decode cX11_crashIs 155 = .ok (.invokevirtual 169, 3) := by decide +kernel
theorem dX11_crashIs_158 : decode cX11_crashIs 158 = .ok (.invokevirtual 172, 3) := by decide +kernel
theorem dX11_crashIs_161 : decode cX11_crashIs 161 = .ok (.ireturn, 1) := by decide +kernel
theorem dX11_crashIs_162 : decode cX11_crashIs 162 = .ok (.aload_n 0, 1) := by decide +kernel
theorem dX11_crashIs_163 : decode cX11_crashIs 163 = .ok (.getfield 24, 3) := by decide +kernel
theorem dX11_crashIs_166 : decode cX11_crashIs 166 = .ok (.aload_n 0, 1) := by decide +kernel
theorem dX11_crashIs_167 : decode cX11_crashIs 167 = .ok (.getfield 24, 3) := by decide +kernel
theorem dX11_crashIs_170 : decode cX11_crashIs 170 = .ok (.aload_n 3, 1) := by decide +kernel
theorem dX11_crashIs_171 : decode cX11_crashIs 171 = .ok (.invokevirtual 169, 3) := by decide +kernel
theorem dX11_crashIs_174 : decode cX11_crashIs 174 = .ok (.invokevirtual 175, 3) := by decide +kernel
theorem dX11_crashIs_177 : decode cX11_crashIs 177 = .ok (.ireturn, 1) := by decide +kernel
theorem dX11_crashIs_178 : decode cX11_crashIs 178 = .ok (.aload_n 0, 1) := by decide +kernel
theorem dX11_crashIs_179 : decode cX11_crashIs 179 = .ok (.getfield 24, 3) := by decide +kernel
theorem dX11_crashIs_182 : decode cX11_crashIs 182 = .ok (.aload_n 3, 1) := by decide +kernel
theorem dX11_crashIs_183 : decode cX11_crashIs 183 = .ok (.invokevirtual 178, 3) := by decide +kernel
theorem dX11_crashIs_186 : decode cX11_crashIs 186 = .ok (.ireturn, 1) := by decide +kernel
theorem dX11_zone_0 : decode cX11_zone 0 = .ok (.iload_n 1, 1) := by decide +kernel
theorem dX11_zone_1 : decode cX11_zone 1 = .ok (.iconst 0, 1) := by decide +kernel
theorem dX11_zone_2 : decode cX11_zone 2 = .ok (.bipush 7, 2) := by decide +kernel
theorem dX11_zone_4 : decode cX11_zone 4 = .ok (.invokestatic 69, 3) := by decide +kernel
theorem dX11_zone_7 : decode cX11_zone 7 = .ok (.ifCond .ne 25, 3) := by decide +kernel
theorem dX11_zone_10 : decode cX11_zone 10 = .ok (.iload_n 2, 1) := by decide +kernel
theorem dX11_zone_11 : decode cX11_zone 11 = .ok (.iconst 0, 1) := by decide +kernel
theorem dX11_zone_12 : decode cX11_zone 12 = .ok (.iconst 2, 1) := by decide +kernel
theorem dX11_zone_13 : decode cX11_zone 13 = .ok (.invokestatic 69, 3) := by decide +kernel
theorem dX11_zone_16 : decode cX11_zone 16 = .ok (.ifCond .ne 16, 3) := by decide +kernel
theorem dX11_zone_19 : decode cX11_zone 19 = .ok (.iload_n 3, 1) := by decide +kernel
theorem dX11_zone_20 : decode cX11_zone 20 = .ok (.iconst 0, 1) := by decide +kernel
theorem dX11_zone_21 : decode cX11_zone 21 = .ok (.getstatic 181, 3) := by decide +kernel
theorem dX11_zone_24 : decode cX11_zone 24 = .ok (.iload_n 2, 1) := by decide +kernel
theorem dX11_zone_25 : decode cX11_zone 25 = .ok (.iaload, 1) := by decide +kernel
theorem dX11_zone_26 : decode cX11_zone 26 = .ok (.invokestatic 69, 3) := by decide +kernel
theorem dX11_zone_29 : decode cX11_zone 29 = .ok (.ifCond .eq 10, 3) := by decide +kernel
theorem dX11_zone_32 : decode cX11_zone 32 = .ok (.aload_n 0, 1) := by decide +kernel
theorem dX11_zone_33 : decode cX11_zone 33 = .ok (.ldc 74, 2) := by decide +kernel
theorem dX11_zone_35 : decode cX11_zone 35 = .ok (.invokevirtual 75, 3) := by decide +kernel
theorem dX11_zone_38 : decode cX11_zone 38 = .ok (.ireturn, 1) := by decide +kernel
theorem dX11_zone_39 : decode cX11_zone 39 = .ok (.iload_n 2, 1) := by decide +kernel
theorem dX11_zone_40 : decode cX11_zone 40 = .ok (.bipush 8, 2) := by decide +kernel
theorem dX11_zone_42 : decode cX11_zone 42 = .ok (.imul, 1) := by decide +kernel
theorem dX11_zone_43 : decode cX11_zone 43 = .ok (.iload_n 1, 1) := by decide +kernel
theorem dX11_zone_44 : decode cX11_zone 44 = .ok (.iadd, 1) := by decide +kernel
theorem dX11_zone_45 : decode cX11_zone 45 = .ok (.istore 4, 2) := by decide +kernel
theorem dX11_zone_47 : decode cX11_zone 47 = .ok (.aload_n 0, 1) := by decide +kernel
theorem dX11_zone_48 : decode cX11_zone 48 = .ok (.getfield 12, 3) := by decide +kernel
theorem dX11_zone_51 : decode cX11_zone 51 = .ok (.getfield 184, 3) := by decide +kernel
theorem dX11_zone_54 : decode cX11_zone 54 = .ok (.iload 4, 2) := by decide +kernel
theorem dX11_zone_56 : decode cX11_zone 56 = .ok (.iaload, 1) := by decide +kernel
theorem dX11_zone_57 : decode cX11_zone 57 = .ok (.istore 5, 2) := by decide +kernel
theorem dX11_zone_59 : decode cX11_zone 59 = .ok (.aload_n 0, 1) := by decide +kernel
theorem dX11_zone_60 : decode cX11_zone 60 = .ok (.getfield 12, 3) := by decide +kernel
theorem dX11_zone_63 : decode cX11_zone 63 = .ok (.getfield 184, 3) := by decide +kernel
theorem dX11_zone_66 : decode cX11_zone 66 = .ok (.iload 4, 2) := by decide +kernel
theorem dX11_zone_68 : decode cX11_zone 68 = .ok (.iload_n 3, 1) := by decide +kernel
theorem dX11_zone_69 : decode cX11_zone 69 = .ok (.iastore, 1) := by decide +kernel
theorem dX11_zone_70 : decode cX11_zone 70 = .ok (.iload 5, 2) := by decide +kernel
theorem dX11_zone_72 : decode cX11_zone 72 = .ok (.ireturn, 1) := by decide +kernel
theorem dX11_rate_0 : decode cX11_rate 0 = .ok (.iload_n 1, 1) := by decide +kernel
theorem dX11_rate_1 : decode cX11_rate 1 = .ok (.iconst 0, 1) := by decide +kernel
theorem dX11_rate_2 : decode cX11_rate 2 = .ok (.bipush 6, 2) := by decide +kernel
theorem dX11_rate_4 : decode cX11_rate 4 = .ok (.invokestatic 69, 3) := by decide +kernel
theorem dX11_rate_7 : decode cX11_rate 7 = .ok (.ifCond .ne 16, 3) := by decide +kernel
theorem dX11_rate_10 : decode cX11_rate 10 = .ok (.iload_n 2, 1) := by decide +kernel
theorem dX11_rate_11 : decode cX11_rate 11 = .ok (.iconst 0, 1) := by decide +kernel
theorem dX11_rate_12 : decode cX11_rate 12 = .ok (.getstatic 187, 3) := by decide +kernel
theorem dX11_rate_15 : decode cX11_rate 15 = .ok (.iload_n 1, 1) := by decide +kernel
theorem dX11_rate_16 : decode cX11_rate 16 = .ok (.iaload, 1) := by decide +kernel
theorem dX11_rate_17 : decode cX11_rate 17 = .ok (.invokestatic 69, 3) := by decide +kernel
theorem dX11_rate_20 : decode cX11_rate 20 = .ok (.ifCond .eq 10, 3) := by decide +kernel
theorem dX11_rate_23 : decode cX11_rate 23 = .ok (.aload_n 0, 1) := by decide +kernel
theorem dX11_rate_24 : decode cX11_rate 24 = .ok (.ldc 74, 2) := by decide +kernel
theorem dX11_rate_26 : decode cX11_rate 26 = .ok (.invokevirtual 75, 3) := by decide +kernel
theorem dX11_rate_29 : decode cX11_rate 29 = .ok (.ireturn, 1) := by decide +kernel
theorem dX11_rate_30 : decode cX11_rate 30 = .ok (.aload_n 0, 1) := by decide +kernel
theorem dX11_rate_31 : decode cX11_rate 31 = .ok (.getfield 12, 3) := by decide +kernel
theorem dX11_rate_34 : decode cX11_rate 34 = .ok (.getfield 190, 3) := by decide +kernel
theorem dX11_rate_37 : decode cX11_rate 37 = .ok (.iload_n 1, 1) := by decide +kernel
theorem dX11_rate_38 : decode cX11_rate 38 = .ok (.iaload, 1) := by decide +kernel
theorem dX11_rate_39 : decode cX11_rate 39 = .ok (.istore_n 3, 1) := by decide +kernel
theorem dX11_rate_40 : decode cX11_rate 40 = .ok (.aload_n 0, 1) := by decide +kernel
theorem dX11_rate_41 : decode cX11_rate 41 = .ok (.getfield 12, 3) := by decide +kernel
theorem dX11_rate_44 : decode cX11_rate 44 = .ok (.getfield 190, 3) := by decide +kernel
theorem dX11_rate_47 : decode cX11_rate 47 = .ok (.iload_n 1, 1) := by decide +kernel
theorem dX11_rate_48 : decode cX11_rate 48 = .ok (.iload_n 2, 1) := by decide +kernel
theorem dX11_rate_49 : decode cX11_rate 49 = .ok (.iastore, 1) := by decide +kernel
theorem dX11_rate_50 : decode cX11_rate 50 = .ok (.iload_n 3, 1) := by decide +kernel
theorem dX11_rate_51 : decode cX11_rate 51 = .ok (.ireturn, 1) := by decide +kernel
theorem dX11_worth_0 : decode cX11_worth 0 = .ok (.aload_n 0, 1) := by decide +kernel
theorem dX11_worth_1 : decode cX11_worth 1 = .ok (.iload_n 1, 1) := by decide +kernel
theorem dX11_worth_2 : decode cX11_worth 2 = .ok (.iload_n 2, 1) := by decide +kernel
theorem dX11_worth_3 : decode cX11_worth 3 = .ok (.invokevirtual 144, 3) := by decide +kernel
theorem dX11_worth_6 : decode cX11_worth 6 = .ok (.ifCond .ne 12, 3) := by decide +kernel
theorem dX11_worth_9 : decode cX11_worth 9 = .ok (.iload_n 3, 1) := by decide +kernel
theorem dX11_worth_10 : decode cX11_worth 10 = .ok (.iconst 0, 1) := by decide +kernel
theorem dX11_worth_11 : decode cX11_worth 11 = .ok (.iconst 5, 1) := by decide +kernel
theorem dX11_worth_12 : decode cX11_worth 12 = .ok (.invokestatic 69, 3) := by decide +kernel
theorem dX11_worth_15 : decode cX11_worth 15 = .ok (.ifCond .eq 10, 3) := by decide +kernel
theorem dX11_worth_18 : decode cX11_worth 18 = .ok (.aload_n 0, 1) := by decide +kernel
theorem dX11_worth_19 : decode cX11_worth 19 = .ok (.ldc 74, 2) := by decide +kernel
theorem dX11_worth_21 : decode cX11_worth 21 = .ok (.invokevirtual 75, 3) := by decide +kernel
theorem dX11_worth_24 : decode cX11_worth 24 = .ok (.ireturn, 1) := by decide +kernel
theorem dX11_worth_25 : decode cX11_worth 25 = .ok (.aload_n 0, 1) := by decide +kernel
theorem dX11_worth_26 : decode cX11_worth 26 = .ok (.getfield 12, 3) := by decide +kernel
theorem dX11_worth_29 : decode cX11_worth 29 = .ok (.getfield 137, 3) := by decide +kernel
theorem dX11_worth_32 : decode cX11_worth 32 = .ok (.iload_n 1, 1) := by decide +kernel
theorem dX11_worth_33 : decode cX11_worth 33 = .ok (.aaload, 1) := by decide +kernel
theorem dX11_worth_34 : decode cX11_worth 34 = .ok (.astore 4, 2) := by decide +kernel
theorem dX11_worth_36 : decode cX11_worth 36 = .ok (.aload_n 0, 1) := by decide +kernel
theorem dX11_worth_37 : decode cX11_worth 37 = .ok (.getfield 24, 3) := by decide +kernel
theorem dX11_worth_40 : decode cX11_worth 40 = .ok (.aload 4, 2) := by decide +kernel
theorem dX11_worth_42 : decode cX11_worth 42 = .ok (.iload_n 2, 1) := by decide +kernel
theorem dX11_worth_43 : decode cX11_worth 43 = .ok (.invokevirtual 193, 3) := by decide +kernel
theorem dX11_worth_46 : decode cX11_worth 46 = .ok (.iload_n 3, 1) := by decide +kernel
theorem dX11_worth_47 : decode cX11_worth 47 = .ok (.tableswitch 81 0 4 #[33, 41, 57, 65, 73], 33) := by decide +kernel
theorem dX11_worth_80 : decode cX11_worth 80 = .ok (.aload_n 0, 1) := by decide +kernel
theorem dX11_worth_81 : decode cX11_worth 81 = .ok (.getfield 24, 3) := by decide +kernel
theorem dX11_worth_84 : decode cX11_worth 84 = .ok (.getfield 197, 3) := by decide +kernel
theorem dX11_worth_87 : decode cX11_worth 87 = .ok (.ireturn, 1) := by decide +kernel
theorem dX11_worth_88 : decode cX11_worth 88 = .ok (.aload_n 0, 1) := by decide +kernel
theorem dX11_worth_89 : decode cX11_worth 89 = .ok (.getfield 24, 3) := by decide +kernel
theorem dX11_worth_92 : decode cX11_worth 92 = .ok (.getfield 200, 3) := by decide +kernel
theorem dX11_worth_95 : decode cX11_worth 95 = .ok (.ifCond .eq 7, 3) := by decide +kernel
theorem dX11_worth_98 : decode cX11_worth 98 = .ok (.iconst 1, 1) := by decide +kernel
theorem dX11_worth_99 : decode cX11_worth 99 = .ok (.goto 4, 3) := by decide +kernel
theorem dX11_worth_102 : decode cX11_worth 102 = .ok (.iconst 0, 1) := by decide +kernel
theorem dX11_worth_103 : decode cX11_worth 103 = .ok (.ireturn, 1) := by decide +kernel
theorem dX11_worth_104 : decode cX11_worth 104 = .ok (.aload_n 0, 1) := by decide +kernel
theorem dX11_worth_105 : decode cX11_worth 105 = .ok (.getfield 24, 3) := by decide +kernel
theorem dX11_worth_108 : decode cX11_worth 108 = .ok (.getfield 204, 3) := by decide +kernel
theorem dX11_worth_111 : decode cX11_worth 111 = .ok (.ireturn, 1) := by decide +kernel
theorem dX11_worth_112 : decode cX11_worth 112 = .ok (.aload_n 0, 1) := by decide +kernel
theorem dX11_worth_113 : decode cX11_worth 113 = .ok (.getfield 24, 3) := by decide +kernel
theorem dX11_worth_116 : decode cX11_worth 116 = .ok (.getfield 207, 3) := by decide +kernel
theorem dX11_worth_119 : decode cX11_worth 119 = .ok (.ireturn, 1) := by decide +kernel
theorem dX11_worth_120 : decode cX11_worth 120 = .ok (.aload_n 0, 1) := by decide +kernel
theorem dX11_worth_121 : decode cX11_worth 121 = .ok (.getfield 24, 3) := by decide +kernel
theorem dX11_worth_124 : decode cX11_worth 124 = .ok (.getfield 210, 3) := by decide +kernel
theorem dX11_worth_127 : decode cX11_worth 127 = .ok (.ireturn, 1) := by decide +kernel
theorem dX11_worth_128 : decode cX11_worth 128 = .ok (.aload_n 0, 1) := by decide +kernel
theorem dX11_worth_129 : decode cX11_worth 129 = .ok (.getfield 24, 3) := by decide +kernel
theorem dX11_worth_132 : decode cX11_worth 132 = .ok (.aload 4, 2) := by decide +kernel
theorem dX11_worth_134 : decode cX11_worth 134 = .ok (.iload_n 2, 1) := by decide +kernel
theorem dX11_worth_135 : decode cX11_worth 135 = .ok (.invokevirtual 213, 3) := by decide +kernel
theorem dX11_worth_138 : decode cX11_worth 138 = .ok (.ireturn, 1) := by decide +kernel
theorem dX11_back_0 : decode cX11_back 0 = .ok (.aload_n 0, 1) := by decide +kernel
theorem dX11_back_1 : decode cX11_back 1 = .ok (.iload_n 1, 1) := by decide +kernel
theorem dX11_back_2 : decode cX11_back 2 = .ok (.iload_n 2, 1) := by decide +kernel
theorem dX11_back_3 : decode cX11_back 3 = .ok (.invokevirtual 144, 3) := by decide +kernel
theorem dX11_back_6 : decode cX11_back 6 = .ok (.ifCond .ne 13, 3) := by decide +kernel
theorem dX11_back_9 : decode cX11_back 9 = .ok (.iload_n 3, 1) := by decide +kernel
theorem dX11_back_10 : decode cX11_back 10 = .ok (.iconst 0, 1) := by decide +kernel
theorem dX11_back_11 : decode cX11_back 11 = .ok (.ldc 217, 2) := by decide +kernel
theorem dX11_back_13 : decode cX11_back 13 = .ok (.invokestatic 69, 3) := by decide +kernel
theorem dX11_back_16 : decode cX11_back 16 = .ok (.ifCond .eq 10, 3) := by decide +kernel
theorem dX11_back_19 : decode cX11_back 19 = .ok (.aload_n 0, 1) := by decide +kernel
theorem dX11_back_20 : decode cX11_back 20 = .ok (.ldc 74, 2) := by decide +kernel
theorem dX11_back_22 : decode cX11_back 22 = .ok (.invokevirtual 75, 3) := by decide +kernel
theorem dX11_back_25 : decode cX11_back 25 = .ok (.ireturn, 1) := by decide +kernel
theorem dX11_back_26 : decode cX11_back 26 = .ok (.aload_n 0, 1) := by decide +kernel
theorem dX11_back_27 : decode cX11_back 27 = .ok (.getfield 24, 3) := by decide +kernel
theorem dX11_back_30 : decode cX11_back 30 = .ok (.aload_n 0, 1) := by decide +kernel
theorem dX11_back_31 : decode cX11_back 31 = .ok (.getfield 12, 3) := by decide +kernel
theorem dX11_back_34 : decode cX11_back 34 = .ok (.getfield 137, 3) := by decide +kernel
theorem dX11_back_37 : decode cX11_back 37 = .ok (.iload_n 1, 1) := by decide +kernel
theorem dX11_back_38 : decode cX11_back 38 = .ok (.aaload, 1) := by decide +kernel
theorem dX11_back_39 : decode cX11_back 39 = .ok (.iload_n 2, 1) := by decide +kernel
theorem dX11_back_40 : decode cX11_back 40 = .ok (.iload_n 3, 1) := by decide +kernel
theorem dX11_back_41 : decode cX11_back 41 = .ok (.invokevirtual 218, 3) := by decide +kernel
theorem dX11_back_44 : decode cX11_back 44 = .ok (.ireturn, 1) := by decide +kernel
theorem dX11_feed_0 : decode cX11_feed 0 = .ok (.iload_n 3, 1) := by decide +kernel
theorem dX11_feed_1 : decode cX11_feed 1 = .ok (.iconst 1, 1) := by decide +kernel
theorem dX11_feed_2 : decode cX11_feed 2 = .ok (.bipush 8, 2) := by decide +kernel
theorem dX11_feed_4 : decode cX11_feed 4 = .ok (.invokestatic 69, 3) := by decide +kernel
theorem dX11_feed_7 : decode cX11_feed 7 = .ok (.ifCond .eq 10, 3) := by decide +kernel
theorem dX11_feed_10 : decode cX11_feed 10 = .ok (.aload_n 0, 1) := by decide +kernel
theorem dX11_feed_11 : decode cX11_feed 11 = .ok (.ldc 74, 2) := by decide +kernel
theorem dX11_feed_13 : decode cX11_feed 13 = .ok (.invokevirtual 75, 3) := by decide +kernel
theorem dX11_feed_16 : decode cX11_feed 16 = .ok (.ireturn, 1) := by decide +kernel
theorem dX11_feed_17 : decode cX11_feed 17 = .ok (.aload_n 0, 1) := by decide +kernel
theorem dX11_feed_18 : decode cX11_feed 18 = .ok (.getfield 12, 3) := by decide +kernel
theorem dX11_feed_21 : decode cX11_feed 21 = .ok (.getfield 222, 3) := by decide +kernel
theorem dX11_feed_24 : decode cX11_feed 24 = .ok (.iload_n 3, 1) := by decide +kernel
theorem dX11_feed_25 : decode cX11_feed 25 = .ok (.iadd, 1) := by decide +kernel
theorem dX11_feed_26 : decode cX11_feed 26 = .ok (.bipush 60, 2) := by decide +kernel
theorem dX11_feed_28 : decode cX11_feed 28 = .ok (.if_icmp .le 10, 3) := by decide +kernel
theorem dX11_feed_31 : decode cX11_feed 31 = .ok (.aload_n 0, 1) := by decide +kernel
theorem dX11_feed_32 : decode cX11_feed 32 = .ok (.ldc 83, 2) := by decide +kernel
theorem dX11_feed_34 : decode cX11_feed 34 = .ok (.invokevirtual 75, 3) := by decide +kernel
theorem dX11_feed_37 : decode cX11_feed 37 = .ok (.ireturn, 1) := by decide +kernel
theorem dX11_feed_38 : decode cX11_feed 38 = .ok (.iconst 0, 1) := by decide +kernel
theorem dX11_feed_39 : decode cX11_feed 39 = .ok (.istore 4, 2) := by decide +kernel
theorem dX11_feed_41 : decode cX11_feed 41 = .ok (.iload 4, 2) := by decide +kernel
theorem dX11_feed_43 : decode cX11_feed 43 = .ok (.iload_n 3, 1) := by decide +kernel
theorem dX11_feed_44 : decode cX11_feed 44 = .ok (.if_icmp .ge 39, 3) := by decide +kernel
theorem dX11_feed_47 : decode cX11_feed 47 = .ok (.aload_n 0, 1) := by decide +kernel
theorem dX11_feed_48 : decode cX11_feed 48 = .ok (.getfield 12, 3) := by decide +kernel
theorem dX11_feed_51 : decode cX11_feed 51 = .ok (.getfield 225, 3) := by decide +kernel
theorem dX11_feed_54 : decode cX11_feed 54 = .ok (.aload_n 0, 1) := by decide +kernel
theorem dX11_feed_55 : decode cX11_feed 55 = .ok (.getfield 12, 3) := by decide +kernel
theorem dX11_feed_58 : decode cX11_feed 58 = .ok (.getfield 222, 3) := by decide +kernel
theorem dX11_feed_61 : decode cX11_feed 61 = .ok (.iload 4, 2) := by decide +kernel
theorem dX11_feed_63 : decode cX11_feed 63 = .ok (.iadd, 1) := by decide +kernel
theorem dX11_feed_64 : decode cX11_feed 64 = .ok (.lload_n 1, 1) := by decide +kernel
theorem dX11_feed_65 : decode cX11_feed 65 = .ok (.bipush 8, 2) := by decide +kernel
theorem dX11_feed_67 : decode cX11_feed 67 = .ok (.iload 4, 2) := by decide +kernel
theorem dX11_feed_69 : decode cX11_feed 69 = .ok (.imul, 1) := by decide +kernel
theorem dX11_feed_70 : decode cX11_feed 70 = .ok (.lshr, 1) := by decide +kernel
theorem dX11_feed_71 : decode cX11_feed 71 = .ok (.l2i, 1) := by decide +kernel
theorem dX11_feed_72 : decode cX11_feed 72 = .ok (.sipush 255, 3) := by decide +kernel
theorem dX11_feed_75 : decode cX11_feed 75 = .ok (.iand, 1) := by decide +kernel
theorem dX11_feed_76 : decode cX11_feed 76 = .ok (.iastore, 1) := by decide +kernel
theorem dX11_feed_77 : decode cX11_feed 77 = .ok (.iinc 4 1, 3) := by decide +kernel
theorem dX11_feed_80 : decode cX11_feed 80 = .ok (.goto (-39), 3) := by decide +kernel
theorem dX11_feed_83 : decode cX11_feed 83 = .ok (.aload_n 0, 1) := by decide +kernel
theorem dX11_feed_84 : decode cX11_feed 84 = .ok (.getfield 12, 3) := by decide +kernel
theorem dX11_feed_87 : decode cX11_feed 87 = .ok (.dup, 1) := by decide +kernel
theorem dX11_feed_88 : decode cX11_feed 88 = .ok (.getfield 222, 3) := by decide +kernel
theorem dX11_feed_91 : decode cX11_feed 91 = .ok (.iload_n 3, 1) := by decide +kernel
theorem dX11_feed_92 : decode cX11_feed 92 = .ok (.iadd, 1) := by decide +kernel
theorem dX11_feed_93 : decode cX11_feed 93 = .ok (.putfield 222, 3) := by decide +kernel
theorem dX11_feed_96 : decode cX11_feed 96 = .ok (.aload_n 0, 1) := by decide +kernel
theorem dX11_feed_97 : decode cX11_feed 97 = .ok (.getfield 12, 3) := by decide +kernel
theorem dX11_feed_100 : decode cX11_feed 100 = .ok (.getfield 222, 3) := by decide +kernel
theorem dX11_feed_103 : decode cX11_feed 103 = .ok (.ireturn, 1) := by decide +kernel
theorem dX11_treaty_0 : decode cX11_treaty 0 = .ok (.iload_n 1, 1) := by decide +kernel
theorem dX11_treaty_1 : decode cX11_treaty 1 = .ok (.iconst 0, 1) := by decide +kernel
theorem dX11_treaty_2 : decode cX11_treaty 2 = .ok (.iconst 2, 1) := by decide +kernel
theorem dX11_treaty_3 : decode cX11_treaty 3 = .ok (.invokestatic 69, 3) := by decide +kernel
theorem dX11_treaty_6 : decode cX11_treaty 6 = .ok (.ifCond .ne 14, 3) := by decide +kernel
theorem dX11_treaty_9 : decode cX11_treaty 9 = .ok (.iload_n 2, 1) := by decide +kernel
theorem dX11_treaty_10 : decode cX11_treaty 10 = .ok (.iconst 0, 1) := by decide +kernel
theorem dX11_treaty_11 : decode cX11_treaty 11 = .ok (.sipush 999, 3) := by decide +kernel
theorem dX11_treaty_14 : decode cX11_treaty 14 = .ok (.invokestatic 69, 3) := by decide +kernel
theorem dX11_treaty_17 : decode cX11_treaty 17 = .ok (.ifCond .eq 10, 3) := by decide +kernel
theorem dX11_treaty_20 : decode cX11_treaty 20 = .ok (.aload_n 0, 1) := by decide +kernel
theorem dX11_treaty_21 : decode cX11_treaty 21 = .ok (.ldc 74, 2) := by decide +kernel
theorem dX11_treaty_23 : decode cX11_treaty 23 = .ok (.invokevirtual 75, 3) := by decide +kernel
theorem dX11_treaty_26 : decode cX11_treaty 26 = .ok (.ireturn, 1) := by decide +kernel
theorem dX11_treaty_27 : decode cX11_treaty 27 = .ok (.aload_n 0, 1) := by decide +kernel
theorem dX11_treaty_28 : decode cX11_treaty 28 = .ok (.getfield 12, 3) := by decide +kernel
theorem dX11_treaty_31 : decode cX11_treaty 31 = .ok (.getfield 228, 3) := by decide +kernel
theorem dX11_treaty_34 : decode cX11_treaty 34 = .ok (.istore_n 3, 1) := by decide +kernel
theorem dX11_treaty_35 : decode cX11_treaty 35 = .ok (.iload_n 3, 1) := by decide +kernel
theorem dX11_treaty_36 : decode cX11_treaty 36 = .ok (.bipush 10, 2) := by decide +kernel
theorem dX11_treaty_38 : decode cX11_treaty 38 = .ok (.if_icmp .lt 10, 3) := by decide +kernel
theorem dX11_treaty_41 : decode cX11_treaty 41 = .ok (.aload_n 0, 1) := by decide +kernel
theorem dX11_treaty_42 : decode cX11_treaty 42 = .ok (.ldc 83, 2) := by decide +kernel
theorem dX11_treaty_44 : decode cX11_treaty 44 = .ok (.invokevirtual 75, 3) := by decide +kernel
theorem dX11_treaty_47 : decode cX11_treaty 47 = .ok (.ireturn, 1) := by decide +kernel
theorem dX11_treaty_48 : decode cX11_treaty 48 = .ok (.aload_n 0, 1) := by decide +kernel
theorem dX11_treaty_49 : decode cX11_treaty 49 = .ok (.getfield 12, 3) := by decide +kernel
theorem dX11_treaty_52 : decode cX11_treaty 52 = .ok (.getfield 231, 3) := by decide +kernel
theorem dX11_treaty_55 : decode cX11_treaty 55 = .ok (.iload_n 3, 1) := by decide +kernel
theorem dX11_treaty_56 : decode cX11_treaty 56 = .ok (.aaload, 1) := by decide +kernel
theorem dX11_treaty_57 : decode cX11_treaty 57 = .ok (.astore 4, 2) := by decide +kernel
theorem dX11_treaty_59 : decode cX11_treaty 59 = .ok (.aload 4, 2) := by decide +kernel
theorem dX11_treaty_61 : decode cX11_treaty 61 = .ok (.iload_n 1, 1) := by decide +kernel
theorem dX11_treaty_62 : decode cX11_treaty 62 = .ok (.iload_n 2, 1) := by decide +kernel
theorem dX11_treaty_63 : decode cX11_treaty 63 = .ok (.invokevirtual 235, 3) := by decide +kernel
theorem dX11_treaty_66 : decode cX11_treaty 66 = .ok (.aload_n 0, 1) := by decide +kernel
theorem dX11_treaty_67 : decode cX11_treaty 67 = .ok (.getfield 31, 3) := by decide +kernel
theorem dX11_treaty_70 : decode cX11_treaty 70 = .ok (.aload_n 0, 1) := by decide +kernel
theorem dX11_treaty_71 : decode cX11_treaty 71 = .ok (.getfield 12, 3) := by decide +kernel
theorem dX11_treaty_74 : decode cX11_treaty 74 = .ok (.getfield 225, 3) := by decide +kernel
theorem dX11_treaty_77 : decode cX11_treaty 77 = .ok (.aload_n 0, 1) := by decide +kernel
theorem dX11_treaty_78 : decode cX11_treaty 78 = .ok (.getfield 12, 3) := by decide +kernel
theorem dX11_treaty_81 : decode cX11_treaty 81 = .ok (.getfield 222, 3) := by decide +kernel
theorem dX11_treaty_84 : decode cX11_treaty 84 = .ok (.aload 4, 2) := by decide +kernel
theorem dX11_treaty_86 : decode cX11_treaty 86 = .ok (.invokevirtual 240, 3) := by decide +kernel
theorem dX11_treaty_89 : decode cX11_treaty 89 = .ok (.istore 5, 2) := by decide +kernel
theorem dX11_treaty_91 : decode cX11_treaty 91 = .ok (.aload_n 0, 1) := by decide +kernel
theorem dX11_treaty_92 : decode cX11_treaty 92 = .ok (.getfield 12, 3) := by decide +kernel
theorem dX11_treaty_95 : decode cX11_treaty 95 = .ok (.iconst 0, 1) := by decide +kernel
theorem dX11_treaty_96 : decode cX11_treaty 96 = .ok (.putfield 222, 3) := by decide +kernel
theorem dX11_treaty_99 : decode cX11_treaty 99 = .ok (.iload 5, 2) := by decide +kernel
theorem dX11_treaty_101 : decode cX11_treaty 101 = .ok (.ifCond .lt 9, 3) := by decide +kernel
theorem dX11_treaty_104 : decode cX11_treaty 104 = .ok (.bipush (-10), 2) := by decide +kernel
theorem dX11_treaty_106 : decode cX11_treaty 106 = .ok (.iload 5, 2) := by decide +kernel
theorem dX11_treaty_108 : decode cX11_treaty 108 = .ok (.isub, 1) := by decide +kernel
theorem dX11_treaty_109 : decode cX11_treaty 109 = .ok (.ireturn, 1) := by decide +kernel
theorem dX11_treaty_110 : decode cX11_treaty 110 = .ok (.aload_n 0, 1) := by decide +kernel
theorem dX11_treaty_111 : decode cX11_treaty 111 = .ok (.getfield 12, 3) := by decide +kernel
theorem dX11_treaty_114 : decode cX11_treaty 114 = .ok (.iload_n 3, 1) := by decide +kernel
theorem dX11_treaty_115 : decode cX11_treaty 115 = .ok (.iconst 1, 1) := by decide +kernel
theorem dX11_treaty_116 : decode cX11_treaty 116 = .ok (.iadd, 1) := by decide +kernel
theorem dX11_treaty_117 : decode cX11_treaty 117 = .ok (.putfield 228, 3) := by decide +kernel
theorem dX11_treaty_120 : decode cX11_treaty 120 = .ok (.iload_n 3, 1) := by decide +kernel
theorem dX11_treaty_121 : decode cX11_treaty 121 = .ok (.ireturn, 1) := by decide +kernel
theorem dX11_force_0 : decode cX11_force 0 = .ok (.iload_n 1, 1) := by decide +kernel
theorem dX11_force_1 : decode cX11_force 1 = .ok (.iconst 0, 1) := by decide +kernel
theorem dX11_force_2 : decode cX11_force 2 = .ok (.iconst 2, 1) := by decide +kernel
theorem dX11_force_3 : decode cX11_force 3 = .ok (.invokestatic 69, 3) := by decide +kernel
theorem dX11_force_6 : decode cX11_force 6 = .ok (.ifCond .ne 14, 3) := by decide +kernel
theorem dX11_force_9 : decode cX11_force 9 = .ok (.iload_n 2, 1) := by decide +kernel
theorem dX11_force_10 : decode cX11_force 10 = .ok (.iconst 0, 1) := by decide +kernel
theorem dX11_force_11 : decode cX11_force 11 = .ok (.sipush 999, 3) := by decide +kernel
theorem dX11_force_14 : decode cX11_force 14 = .ok (.invokestatic 69, 3) := by decide +kernel
theorem dX11_force_17 : decode cX11_force 17 = .ok (.ifCond .eq 10, 3) := by decide +kernel
theorem dX11_force_20 : decode cX11_force 20 = .ok (.aload_n 0, 1) := by decide +kernel
theorem dX11_force_21 : decode cX11_force 21 = .ok (.ldc 74, 2) := by decide +kernel
theorem dX11_force_23 : decode cX11_force 23 = .ok (.invokevirtual 75, 3) := by decide +kernel
theorem dX11_force_26 : decode cX11_force 26 = .ok (.ireturn, 1) := by decide +kernel
theorem dX11_force_27 : decode cX11_force 27 = .ok (.aload_n 0, 1) := by decide +kernel
theorem dX11_force_28 : decode cX11_force 28 = .ok (.getfield 24, 3) := by decide +kernel
theorem dX11_force_31 : decode cX11_force 31 = .ok (.iload_n 1, 1) := by decide +kernel
theorem dX11_force_32 : decode cX11_force 32 = .ok (.iload_n 2, 1) := by decide +kernel
theorem dX11_force_33 : decode cX11_force 33 = .ok (.invokevirtual 244, 3) := by decide +kernel
theorem dX11_force_36 : decode cX11_force 36 = .ok (.istore_n 3, 1) := by decide +kernel
theorem dX11_force_37 : decode cX11_force 37 = .ok (.iload_n 3, 1) := by decide +kernel
theorem dX11_force_38 : decode cX11_force 38 = .ok (.ifCond .ge 12, 3) := by decide +kernel
theorem dX11_force_41 : decode cX11_force 41 = .ok (.aload_n 0, 1) := by decide +kernel
theorem dX11_force_42 : decode cX11_force 42 = .ok (.ldc 248, 2) := by decide +kernel
theorem dX11_force_44 : decode cX11_force 44 = .ok (.invokevirtual 75, 3) := by decide +kernel
theorem dX11_force_47 : decode cX11_force 47 = .ok (.goto 4, 3) := by decide +kernel
theorem dX11_force_50 : decode cX11_force 50 = .ok (.iload_n 3, 1) := by decide +kernel
theorem dX11_force_51 : decode cX11_force 51 = .ok (.ireturn, 1) := by decide +kernel
theorem dX11_says_0 : decode cX11_says 0 = .ok (.iload_n 1, 1) := by decide +kernel
theorem dX11_says_1 : decode cX11_says 1 = .ok (.iconst 0, 1) := by decide +kernel
theorem dX11_says_2 : decode cX11_says 2 = .ok (.aload_n 0, 1) := by decide +kernel
theorem dX11_says_3 : decode cX11_says 3 = .ok (.getfield 12, 3) := by decide +kernel
theorem dX11_says_6 : decode cX11_says 6 = .ok (.getfield 228, 3) := by decide +kernel
theorem dX11_says_9 : decode cX11_says 9 = .ok (.iconst 1, 1) := by decide +kernel
theorem dX11_says_10 : decode cX11_says 10 = .ok (.isub, 1) := by decide +kernel
theorem dX11_says_11 : decode cX11_says 11 = .ok (.invokestatic 69, 3) := by decide +kernel
theorem dX11_says_14 : decode cX11_says 14 = .ok (.ifCond .eq 10, 3) := by decide +kernel
theorem dX11_says_17 : decode cX11_says 17 = .ok (.aload_n 0, 1) := by decide +kernel
theorem dX11_says_18 : decode cX11_says 18 = .ok (.ldc 74, 2) := by decide +kernel
theorem dX11_says_20 : decode cX11_says 20 = .ok (.invokevirtual 75, 3) := by decide +kernel
theorem dX11_says_23 : decode cX11_says 23 = .ok (.ireturn, 1) := by decide +kernel
theorem dX11_says_24 : decode cX11_says 24 = .ok (.aload_n 0, 1) := by decide +kernel
theorem dX11_says_25 : decode cX11_says 25 = .ok (.getfield 24, 3) := by decide +kernel
theorem dX11_says_28 : decode cX11_says 28 = .ok (.iload_n 2, 1) := by decide +kernel
theorem dX11_says_29 : decode cX11_says 29 = .ok (.iload_n 3, 1) := by decide +kernel
theorem dX11_says_30 : decode cX11_says 30 = .ok (.iload 4, 2) := by decide +kernel
theorem dX11_says_32 : decode cX11_says 32 = .ok (.iload 5, 2) := by decide +kernel
theorem dX11_says_34 : decode cX11_says 34 = .ok (.invokevirtual 249, 3) := by decide +kernel
theorem dX11_says_37 : decode cX11_says 37 = .ok (.aload_n 0, 1) := by decide +kernel
theorem dX11_says_38 : decode cX11_says 38 = .ok (.getfield 24, 3) := by decide +kernel
theorem dX11_says_41 : decode cX11_says 41 = .ok (.iload_n 1, 1) := by decide +kernel
theorem dX11_says_42 : decode cX11_says 42 = .ok (.invokevirtual 252, 3) := by decide +kernel
theorem dX11_says_45 : decode cX11_says 45 = .ok (.ireturn, 1) := by decide +kernel
theorem dX11_enter_0 : decode cX11_enter 0 = .ok (.aload_n 0, 1) := by decide +kernel
theorem dX11_enter_1 : decode cX11_enter 1 = .ok (.iload_n 1, 1) := by decide +kernel
theorem dX11_enter_2 : decode cX11_enter 2 = .ok (.iload_n 2, 1) := by decide +kernel
theorem dX11_enter_3 : decode cX11_enter 3 = .ok (.invokevirtual 144, 3) := by decide +kernel
theorem dX11_enter_6 : decode cX11_enter 6 = .ok (.ifCond .ne 24, 3) := by decide +kernel
theorem dX11_enter_9 : decode cX11_enter 9 = .ok (.iload_n 3, 1) := by decide +kernel
theorem dX11_enter_10 : decode cX11_enter 10 = .ok (.iconst 0, 1) := by decide +kernel
theorem dX11_enter_11 : decode cX11_enter 11 = .ok (.ldc 217, 2) := by decide +kernel
theorem dX11_enter_13 : decode cX11_enter 13 = .ok (.invokestatic 69, 3) := by decide +kernel
theorem dX11_enter_16 : decode cX11_enter 16 = .ok (.ifCond .ne 14, 3) := by decide +kernel
theorem dX11_enter_19 : decode cX11_enter 19 = .ok (.iload 4, 2) := by decide +kernel
theorem dX11_enter_21 : decode cX11_enter 21 = .ok (.iconst 0, 1) := by decide +kernel
theorem dX11_enter_22 : decode cX11_enter 22 = .ok (.ldc 255, 2) := by decide +kernel
theorem dX11_enter_24 : decode cX11_enter 24 = .ok (.invokestatic 69, 3) := by decide +kernel
theorem dX11_enter_27 : decode cX11_enter 27 = .ok (.ifCond .eq 10, 3) := by decide +kernel
theorem dX11_enter_30 : decode cX11_enter 30 = .ok (.aload_n 0, 1) := by decide +kernel
theorem dX11_enter_31 : decode cX11_enter 31 = .ok (.ldc 74, 2) := by decide +kernel
theorem dX11_enter_33 : decode cX11_enter 33 = .ok (.invokevirtual 75, 3) := by decide +kernel
theorem dX11_enter_36 : decode cX11_enter 36 = .ok (.ireturn, 1) := by decide +kernel
theorem dX11_enter_37 : decode cX11_enter 37 = .ok (.aload_n 0, 1) := by decide +kernel
theorem dX11_enter_38 : decode cX11_enter 38 = .ok (.getfield 12, 3) := by decide +kernel
theorem dX11_enter_41 : decode cX11_enter 41 = .ok (.getfield 256, 3) := by decide +kernel
theorem dX11_enter_44 : decode cX11_enter 44 = .ok (.istore 5, 2) := by decide +kernel
theorem dX11_enter_46 : decode cX11_enter 46 = .ok (.iload 5, 2) := by decide +kernel
theorem dX11_enter_48 : decode cX11_enter 48 = .ok (.bipush 40, 2) := by decide +kernel
theorem dX11_enter_50 : decode cX11_enter 50 = .ok (.if_icmp .lt 10, 3) := by decide +kernel
theorem dX11_enter_53 : decode cX11_enter 53 = .ok (.aload_n 0, 1) := by decide +kernel
theorem dX11_enter_54 : decode cX11_enter 54 = .ok (.ldc 83, 2) := by decide +kernel
theorem dX11_enter_56 : decode cX11_enter 56 = .ok (.invokevirtual 75, 3) := by decide +kernel
theorem dX11_enter_59 : decode cX11_enter 59 = .ok (.ireturn, 1) := by decide +kernel
theorem dX11_enter_60 : decode cX11_enter 60 = .ok (.aload_n 0, 1) := by decide +kernel
theorem dX11_enter_61 : decode cX11_enter 61 = .ok (.getfield 12, 3) := by decide +kernel
theorem dX11_enter_64 : decode cX11_enter 64 = .ok (.getfield 259, 3) := by decide +kernel
theorem dX11_enter_67 : decode cX11_enter 67 = .ok (.iload 5, 2) := by decide +kernel
theorem dX11_enter_69 : decode cX11_enter 69 = .ok (.aaload, 1) := by decide +kernel
theorem dX11_enter_70 : decode cX11_enter 70 = .ok (.astore 6, 2) := by decide +kernel
theorem dX11_enter_72 : decode cX11_enter 72 = .ok (.aload 6, 2) := by decide +kernel
theorem dX11_enter_74 : decode cX11_enter 74 = .ok (.iload_n 1, 1) := by decide +kernel
theorem dX11_enter_75 : decode cX11_enter 75 = .ok (.iload_n 2, 1) := by decide +kernel
theorem dX11_enter_76 : decode cX11_enter 76 = .ok (.iload_n 3, 1) := by decide +kernel
theorem dX11_enter_77 : decode cX11_enter 77 = .ok (.iload 4, 2) := by decide +kernel
theorem dX11_enter_79 : decode cX11_enter 79 = .ok (.invokevirtual 263, 3) := by decide +kernel
theorem dX11_enter_82 : decode cX11_enter 82 = .ok (.aload 6, 2) := by decide +kernel
theorem dX11_enter_84 : decode cX11_enter 84 = .ok (.aload_n 0, 1) := by decide +kernel
theorem dX11_enter_85 : decode cX11_enter 85 = .ok (.getfield 12, 3) := by decide +kernel
theorem dX11_enter_88 : decode cX11_enter 88 = .ok (.iload_n 1, 1) := by decide +kernel
theorem dX11_enter_89 : decode cX11_enter 89 = .ok (.iload_n 2, 1) := by decide +kernel
theorem dX11_enter_90 : decode cX11_enter 90 = .ok (.iload 5, 2) := by decide +kernel
theorem dX11_enter_92 : decode cX11_enter 92 = .ok (.invokevirtual 266, 3) := by decide +kernel
theorem dX11_enter_95 : decode cX11_enter 95 = .ok (.putfield 270, 3) := by decide +kernel
theorem dX11_enter_98 : decode cX11_enter 98 = .ok (.aload_n 0, 1) := by decide +kernel
theorem dX11_enter_99 : decode cX11_enter 99 = .ok (.getfield 12, 3) := by decide +kernel
theorem dX11_enter_102 : decode cX11_enter 102 = .ok (.iload 5, 2) := by decide +kernel
theorem dX11_enter_104 : decode cX11_enter 104 = .ok (.iconst 1, 1) := by decide +kernel
theorem dX11_enter_105 : decode cX11_enter 105 = .ok (.iadd, 1) := by decide +kernel
theorem dX11_enter_106 : decode cX11_enter 106 = .ok (.putfield 256, 3) := by decide +kernel
theorem dX11_enter_109 : decode cX11_enter 109 = .ok (.iload 5, 2) := by decide +kernel
theorem dX11_enter_111 : decode cX11_enter 111 = .ok (.ireturn, 1) := by decide +kernel
theorem dX11_entryIs_0 : decode cX11_entryIs 0 = .ok (.aload_n 0, 1) := by decide +kernel
theorem dX11_entryIs_1 : decode cX11_entryIs 1 = .ok (.iload_n 1, 1) := by decide +kernel
theorem dX11_entryIs_2 : decode cX11_entryIs 2 = .ok (.invokevirtual 273, 3) := by decide +kernel
theorem dX11_entryIs_5 : decode cX11_entryIs 5 = .ok (.ifCond .ne 13, 3) := by decide +kernel
theorem dX11_entryIs_8 : decode cX11_entryIs 8 = .ok (.iload_n 2, 1) := by decide +kernel
theorem dX11_entryIs_9 : decode cX11_entryIs 9 = .ok (.iconst 0, 1) := by decide +kernel
theorem dX11_entryIs_10 : decode cX11_entryIs 10 = .ok (.bipush 7, 2) := by decide +kernel
theorem dX11_entryIs_12 : decode cX11_entryIs 12 = .ok (.invokestatic 69, 3) := by decide +kernel
theorem dX11_entryIs_15 : decode cX11_entryIs 15 = .ok (.ifCond .eq 10, 3) := by decide +kernel
theorem dX11_entryIs_18 : decode cX11_entryIs 18 = .ok (.aload_n 0, 1) := by decide +kernel
theorem dX11_entryIs_19 : decode cX11_entryIs 19 = .ok (.ldc 74, 2) := by decide +kernel
theorem dX11_entryIs_21 : decode cX11_entryIs 21 = .ok (.invokevirtual 75, 3) := by decide +kernel
theorem dX11_entryIs_24 : decode cX11_entryIs 24 = .ok (.ireturn, 1) := by decide +kernel
theorem dX11_entryIs_25 : decode cX11_entryIs 25 = .ok (.aload_n 0, 1) := by decide +kernel
theorem dX11_entryIs_26 : decode cX11_entryIs 26 = .ok (.getfield 12, 3) := by decide +kernel
theorem dX11_entryIs_29 : decode cX11_entryIs 29 = .ok (.getfield 259, 3) := by decide +kernel
theorem dX11_entryIs_32 : decode cX11_entryIs 32 = .ok (.iload_n 1, 1) := by decide +kernel
theorem dX11_entryIs_33 : decode cX11_entryIs 33 = .ok (.aaload, 1) := by decide +kernel
theorem dX11_entryIs_34 : decode cX11_entryIs 34 = .ok (.astore_n 3, 1) := by decide +kernel
theorem dX11_entryIs_35 : decode cX11_entryIs 35 = .ok (.iload_n 2, 1) := by decide +kernel
theorem dX11_entryIs_36 : decode cX11_entryIs 36 = .ok (.tableswitch 91 0 6 #[44, 49, 54, 59, 64, 69, 74], 44) := by decide +kernel
theorem dX11_entryIs_80 : decode cX11_entryIs 80 = .ok (.aload_n 3, 1) := by decide +kernel
theorem dX11_entryIs_81 : decode cX11_entryIs 81 = .ok (.getfield 276, 3) := by decide +kernel
theorem dX11_entryIs_84 : decode cX11_entryIs 84 = .ok (.ireturn, 1) := by decide +kernel
theorem dX11_entryIs_85 : decode cX11_entryIs 85 = .ok (.aload_n 3, 1) := by decide +kernel
theorem dX11_entryIs_86 : decode cX11_entryIs 86 = .ok (.getfield 279, 3) := by decide +kernel
theorem dX11_entryIs_89 : decode cX11_entryIs 89 = .ok (.ireturn, 1) := by decide +kernel
theorem dX11_entryIs_90 : decode cX11_entryIs 90 = .ok (.aload_n 3, 1) := by decide +kernel
theorem dX11_entryIs_91 : decode cX11_entryIs 91 = .ok (.getfield 282, 3) := by decide +kernel
theorem dX11_entryIs_94 : decode cX11_entryIs 94 = .ok (.ireturn, 1) := by decide +kernel
theorem dX11_entryIs_95 : decode cX11_entryIs 95 = .ok (.aload_n 3, 1) := by decide +kernel
theorem dX11_entryIs_96 : decode cX11_entryIs 96 = .ok (.getfield 285, 3) := by decide +kernel
theorem dX11_entryIs_99 : decode cX11_entryIs 99 = .ok (.ireturn, 1) := by decide +kernel
theorem dX11_entryIs_100 : decode cX11_entryIs 100 = .ok (.aload_n 3, 1) := by decide +kernel
theorem dX11_entryIs_101 : decode cX11_entryIs 101 = .ok (.getfield 288, 3) := by decide +kernel
theorem dX11_entryIs_104 : decode cX11_entryIs 104 = .ok (.ireturn, 1) := by decide +kernel
theorem dX11_entryIs_105 : decode cX11_entryIs 105 = .ok (.aload_n 3, 1) := by decide +kernel
theorem dX11_entryIs_106 : decode cX11_entryIs 106 = .ok (.getfield 270, 3) := by decide +kernel
theorem dX11_entryIs_109 : decode cX11_entryIs 109 = .ok (.ireturn, 1) := by decide +kernel
theorem dX11_entryIs_110 : decode cX11_entryIs 110 = .ok (.aload_n 0, 1) := by decide +kernel
theorem dX11_entryIs_111 : decode cX11_entryIs 111 = .ok (.getfield 24, 3) := by decide +kernel
theorem dX11_entryIs_114 : decode cX11_entryIs 114 = .ok (.aload_n 3, 1) := by decide +kernel
theorem dX11_entryIs_115 : decode cX11_entryIs 115 = .ok (.invokevirtual 289, 3) := by decide +kernel
theorem dX11_entryIs_118 : decode cX11_entryIs 118 = .ok (.ifCond .eq 7, 3) := by decide +kernel
theorem dX11_entryIs_121 : decode cX11_entryIs 121 = .ok (.iconst 1, 1) := by decide +kernel
theorem dX11_entryIs_122 : decode cX11_entryIs 122 = .ok (.goto 4, 3) := by decide +kernel
theorem dX11_entryIs_125 : decode cX11_entryIs 125 = .ok (.iconst 0, 1) := by decide +kernel
theorem dX11_entryIs_126 : decode cX11_entryIs 126 = .ok (.ireturn, 1) := by decide +kernel
theorem dX11_entryIs_127 : decode cX11_entryIs 127 = .ok (.aload_n 0, 1) := by decide +kernel
theorem dX11_entryIs_128 : decode cX11_entryIs 128 = .ok (.getfield 24, 3) := by decide +kernel
theorem dX11_entryIs_131 : decode cX11_entryIs 131 = .ok (.iload_n 1, 1) := by decide +kernel
theorem dX11_entryIs_132 : decode cX11_entryIs 132 = .ok (.invokevirtual 293, 3) := by decide +kernel
theorem dX11_entryIs_135 : decode cX11_entryIs 135 = .ok (.ireturn, 1) := by decide +kernel
theorem dX11_as_0 : decode cX11_as 0 = .ok (.aload_n 0, 1) := by decide +kernel
theorem dX11_as_1 : decode cX11_as 1 = .ok (.iload_n 1, 1) := by decide +kernel
theorem dX11_as_2 : decode cX11_as 2 = .ok (.invokevirtual 273, 3) := by decide +kernel
theorem dX11_as_5 : decode cX11_as 5 = .ok (.ifCond .ne 12, 3) := by decide +kernel
theorem dX11_as_8 : decode cX11_as 8 = .ok (.iload_n 2, 1) := by decide +kernel
theorem dX11_as_9 : decode cX11_as 9 = .ok (.iconst 0, 1) := by decide +kernel
theorem dX11_as_10 : decode cX11_as 10 = .ok (.iconst 4, 1) := by decide +kernel
theorem dX11_as_11 : decode cX11_as 11 = .ok (.invokestatic 69, 3) := by decide +kernel
theorem dX11_as_14 : decode cX11_as 14 = .ok (.ifCond .eq 10, 3) := by decide +kernel
theorem dX11_as_17 : decode cX11_as 17 = .ok (.aload_n 0, 1) := by decide +kernel
theorem dX11_as_18 : decode cX11_as 18 = .ok (.ldc 74, 2) := by decide +kernel
theorem dX11_as_20 : decode cX11_as 20 = .ok (.invokevirtual 75, 3) := by decide +kernel
theorem dX11_as_23 : decode cX11_as 23 = .ok (.ireturn, 1) := by decide +kernel
theorem dX11_as_24 : decode cX11_as 24 = .ok (.aload_n 0, 1) := by decide +kernel
theorem dX11_as_25 : decode cX11_as 25 = .ok (.getfield 24, 3) := by decide +kernel
theorem dX11_as_28 : decode cX11_as 28 = .ok (.iload_n 1, 1) := by decide +kernel
theorem dX11_as_29 : decode cX11_as 29 = .ok (.invokevirtual 293, 3) := by decide +kernel
theorem dX11_as_32 : decode cX11_as 32 = .ok (.istore_n 3, 1) := by decide +kernel
theorem dX11_as_33 : decode cX11_as 33 = .ok (.iconst 0, 1) := by decide +kernel
theorem dX11_as_34 : decode cX11_as 34 = .ok (.istore 4, 2) := by decide +kernel
theorem dX11_as_36 : decode cX11_as 36 = .ok (.iload 4, 2) := by decide +kernel
theorem dX11_as_38 : decode cX11_as 38 = .ok (.iconst 5, 1) := by decide +kernel
theorem dX11_as_39 : decode cX11_as 39 = .ok (.if_icmp .ge 37, 3) := by decide +kernel
theorem dX11_as_42 : decode cX11_as 42 = .ok (.iload_n 3, 1) := by decide +kernel
theorem dX11_as_43 : decode cX11_as 43 = .ok (.ifCond .lt 33, 3) := by decide +kernel
theorem dX11_as_46 : decode cX11_as 46 = .ok (.iload_n 3, 1) := by decide +kernel
theorem dX11_as_47 : decode cX11_as 47 = .ok (.iload_n 2, 1) := by decide +kernel
theorem dX11_as_48 : decode cX11_as 48 = .ok (.if_icmp .ne 16, 3) := by decide +kernel
theorem dX11_as_51 : decode cX11_as 51 = .ok (.aload_n 0, 1) := by decide +kernel
theorem dX11_as_52 : decode cX11_as 52 = .ok (.getfield 12, 3) := by decide +kernel
theorem dX11_as_55 : decode cX11_as 55 = .ok (.getfield 259, 3) := by decide +kernel
theorem dX11_as_58 : decode cX11_as 58 = .ok (.iload_n 1, 1) := by decide +kernel
theorem dX11_as_59 : decode cX11_as 59 = .ok (.aaload, 1) := by decide +kernel
theorem dX11_as_60 : decode cX11_as 60 = .ok (.getfield 282, 3) := by decide +kernel
theorem dX11_as_63 : decode cX11_as 63 = .ok (.ireturn, 1) := by decide +kernel
theorem dX11_as_64 : decode cX11_as 64 = .ok (.getstatic 296, 3) := by decide +kernel
theorem dX11_as_67 : decode cX11_as 67 = .ok (.iload_n 3, 1) := by decide +kernel
theorem dX11_as_68 : decode cX11_as 68 = .ok (.iaload, 1) := by decide +kernel
theorem dX11_as_69 : decode cX11_as 69 = .ok (.istore_n 3, 1) := by decide +kernel
theorem dX11_as_70 : decode cX11_as 70 = .ok (.iinc 4 1, 3) := by decide +kernel
theorem dX11_as_73 : decode cX11_as 73 = .ok (.goto (-37), 3) := by decide +kernel
theorem dX11_as_76 : decode cX11_as 76 = .ok (.aload_n 0, 1) := by decide +kernel
theorem dX11_as_77 : decode cX11_as 77 = .ok (.ldc 133, 2) := by decide +kernel
theorem dX11_as_79 : decode cX11_as 79 = .ok (.invokevirtual 75, 3) := by decide +kernel
theorem dX11_as_82 : decode cX11_as 82 = .ok (.ireturn, 1) := by decide +kernel
theorem dX11_late_0 : decode cX11_late 0 = .ok (.aload_n 0, 1) := by decide +kernel
theorem dX11_late_1 : decode cX11_late 1 = .ok (.iload_n 1, 1) := by decide +kernel
theorem dX11_late_2 : decode cX11_late 2 = .ok (.invokevirtual 273, 3) := by decide +kernel
theorem dX11_late_5 : decode cX11_late 5 = .ok (.ifCond .ne 14, 3) := by decide +kernel
theorem dX11_late_8 : decode cX11_late 8 = .ok (.iload_n 2, 1) := by decide +kernel
theorem dX11_late_9 : decode cX11_late 9 = .ok (.iconst 0, 1) := by decide +kernel
theorem dX11_late_10 : decode cX11_late 10 = .ok (.sipush 999, 3) := by decide +kernel
theorem dX11_late_13 : decode cX11_late 13 = .ok (.invokestatic 69, 3) := by decide +kernel
theorem dX11_late_16 : decode cX11_late 16 = .ok (.ifCond .eq 10, 3) := by decide +kernel
theorem dX11_late_19 : decode cX11_late 19 = .ok (.aload_n 0, 1) := by decide +kernel
theorem dX11_late_20 : decode cX11_late 20 = .ok (.ldc 74, 2) := by decide +kernel
theorem dX11_late_22 : decode cX11_late 22 = .ok (.invokevirtual 75, 3) := by decide +kernel
theorem dX11_late_25 : decode cX11_late 25 = .ok (.ireturn, 1) := by decide +kernel
theorem dX11_late_26 : decode cX11_late 26 = .ok (.aload_n 0, 1) := by decide +kernel
theorem dX11_late_27 : decode cX11_late 27 = .ok (.getfield 12, 3) := by decide +kernel
theorem dX11_late_30 : decode cX11_late 30 = .ok (.getfield 259, 3) := by decide +kernel
theorem dX11_late_33 : decode cX11_late 33 = .ok (.iload_n 1, 1) := by decide +kernel
theorem dX11_late_34 : decode cX11_late 34 = .ok (.aaload, 1) := by decide +kernel
theorem dX11_late_35 : decode cX11_late 35 = .ok (.astore_n 3, 1) := by decide +kernel
theorem dX11_late_36 : decode cX11_late 36 = .ok (.iconst 0, 1) := by decide +kernel
theorem dX11_late_37 : decode cX11_late 37 = .ok (.iload_n 2, 1) := by decide +kernel
theorem dX11_late_38 : decode cX11_late 38 = .ok (.aload_n 3, 1) := by decide +kernel
theorem dX11_late_39 : decode cX11_late 39 = .ok (.getfield 288, 3) := by decide +kernel
theorem dX11_late_42 : decode cX11_late 42 = .ok (.isub, 1) := by decide +kernel
theorem dX11_late_43 : decode cX11_late 43 = .ok (.bipush 30, 2) := by decide +kernel
theorem dX11_late_45 : decode cX11_late 45 = .ok (.isub, 1) := by decide +kernel
theorem dX11_late_46 : decode cX11_late 46 = .ok (.invokestatic 299, 3) := by decide +kernel
theorem dX11_late_49 : decode cX11_late 49 = .ok (.istore 4, 2) := by decide +kernel
theorem dX11_late_51 : decode cX11_late 51 = .ok (.aload_n 3, 1) := by decide +kernel
theorem dX11_late_52 : decode cX11_late 52 = .ok (.getfield 282, 3) := by decide +kernel
theorem dX11_late_55 : decode cX11_late 55 = .ok (.i2l, 1) := by decide +kernel
theorem dX11_late_56 : decode cX11_late 56 = .ok (.aload_n 0, 1) := by decide +kernel
theorem dX11_late_57 : decode cX11_late 57 = .ok (.getfield 12, 3) := by decide +kernel
theorem dX11_late_60 : decode cX11_late 60 = .ok (.getfield 190, 3) := by decide +kernel
theorem dX11_late_63 : decode cX11_late 63 = .ok (.bipush 6, 2) := by decide +kernel
theorem dX11_late_65 : decode cX11_late 65 = .ok (.iaload, 1) := by decide +kernel
theorem dX11_late_66 : decode cX11_late 66 = .ok (.i2l, 1) := by decide +kernel
theorem dX11_late_67 : decode cX11_late 67 = .ok (.lmul, 1) := by decide +kernel
theorem dX11_late_68 : decode cX11_late 68 = .ok (.iload 4, 2) := by decide +kernel
theorem dX11_late_70 : decode cX11_late 70 = .ok (.i2l, 1) := by decide +kernel
theorem dX11_late_71 : decode cX11_late 71 = .ok (.lmul, 1) := by decide +kernel
theorem dX11_late_72 : decode cX11_late 72 = .ok (.ldc2_w 304, 3) := by decide +kernel
theorem dX11_late_75 : decode cX11_late 75 = .ok (.ldiv, 1) := by decide +kernel
theorem dX11_late_76 : decode cX11_late 76 = .ok (.lstore 5, 2) := by decide +kernel
theorem dX11_late_78 : decode cX11_late 78 = .ok (.lload 5, 2) := by decide +kernel
theorem dX11_late_80 : decode cX11_late 80 = .ok (.ldc2_w 306, 3) := by decide +kernel
theorem dX11_late_83 : decode cX11_late 83 = .ok (.invokestatic 308, 3) := by decide +kernel
theorem dX11_late_86 : decode cX11_late 86 = .ok (.l2i, 1) := by decide +kernel
theorem dX11_late_87 : decode cX11_late 87 = .ok (.ireturn, 1) := by decide +kernel
theorem dX11_position_0 : decode cX11_position 0 = .ok (.iload_n 1, 1) := by decide +kernel
theorem dX11_position_1 : decode cX11_position 1 = .ok (.iconst 0, 1) := by decide +kernel
theorem dX11_position_2 : decode cX11_position 2 = .ok (.bipush 10, 2) := by decide +kernel
theorem dX11_position_4 : decode cX11_position 4 = .ok (.invokestatic 69, 3) := by decide +kernel
theorem dX11_position_7 : decode cX11_position 7 = .ok (.ifCond .ne 13, 3) := by decide +kernel
theorem dX11_position_10 : decode cX11_position 10 = .ok (.iload_n 2, 1) := by decide +kernel
theorem dX11_position_11 : decode cX11_position 11 = .ok (.iconst 0, 1) := by decide +kernel
theorem dX11_position_12 : decode cX11_position 12 = .ok (.bipush 33, 2) := by decide +kernel
theorem dX11_position_14 : decode cX11_position 14 = .ok (.invokestatic 69, 3) := by decide +kernel
theorem dX11_position_17 : decode cX11_position 17 = .ok (.ifCond .eq 10, 3) := by decide +kernel
theorem dX11_position_20 : decode cX11_position 20 = .ok (.aload_n 0, 1) := by decide +kernel
theorem dX11_position_21 : decode cX11_position 21 = .ok (.ldc 74, 2) := by decide +kernel
theorem dX11_position_23 : decode cX11_position 23 = .ok (.invokevirtual 75, 3) := by decide +kernel
theorem dX11_position_26 : decode cX11_position 26 = .ok (.ireturn, 1) := by decide +kernel
theorem dX11_position_27 : decode cX11_position 27 = .ok (.aload_n 0, 1) := by decide +kernel
theorem dX11_position_28 : decode cX11_position 28 = .ok (.getfield 40, 3) := by decide +kernel
theorem dX11_position_31 : decode cX11_position 31 = .ok (.iload_n 2, 1) := by decide +kernel
theorem dX11_position_32 : decode cX11_position 32 = .ok (.invokevirtual 312, 3) := by decide +kernel
theorem dX11_position_35 : decode cX11_position 35 = .ok (.aload_n 0, 1) := by decide +kernel
theorem dX11_position_36 : decode cX11_position 36 = .ok (.getfield 40, 3) := by decide +kernel
theorem dX11_position_39 : decode cX11_position 39 = .ok (.getfield 316, 3) := by decide +kernel
theorem dX11_position_42 : decode cX11_position 42 = .ok (.iload_n 1, 1) := by decide +kernel
theorem dX11_position_43 : decode cX11_position 43 = .ok (.laload, 1) := by decide +kernel
theorem dX11_position_44 : decode cX11_position 44 = .ok (.l2i, 1) := by decide +kernel
theorem dX11_position_45 : decode cX11_position 45 = .ok (.ireturn, 1) := by decide +kernel
theorem dX11_held_0 : decode cX11_held 0 = .ok (.iload_n 1, 1) := by decide +kernel
theorem dX11_held_1 : decode cX11_held 1 = .ok (.iconst 0, 1) := by decide +kernel
theorem dX11_held_2 : decode cX11_held 2 = .ok (.bipush 33, 2) := by decide +kernel
theorem dX11_held_4 : decode cX11_held 4 = .ok (.invokestatic 69, 3) := by decide +kernel
theorem dX11_held_7 : decode cX11_held 7 = .ok (.ifCond .eq 10, 3) := by decide +kernel
theorem dX11_held_10 : decode cX11_held 10 = .ok (.aload_n 0, 1) := by decide +kernel
theorem dX11_held_11 : decode cX11_held 11 = .ok (.ldc 74, 2) := by decide +kernel
theorem dX11_held_13 : decode cX11_held 13 = .ok (.invokevirtual 75, 3) := by decide +kernel
theorem dX11_held_16 : decode cX11_held 16 = .ok (.ireturn, 1) := by decide +kernel
theorem dX11_held_17 : decode cX11_held 17 = .ok (.aload_n 0, 1) := by decide +kernel
theorem dX11_held_18 : decode cX11_held 18 = .ok (.getfield 40, 3) := by decide +kernel
theorem dX11_held_21 : decode cX11_held 21 = .ok (.iload_n 1, 1) := by decide +kernel
theorem dX11_held_22 : decode cX11_held 22 = .ok (.invokevirtual 312, 3) := by decide +kernel
theorem dX11_held_25 : decode cX11_held 25 = .ok (.aload_n 0, 1) := by decide +kernel
theorem dX11_held_26 : decode cX11_held 26 = .ok (.getfield 40, 3) := by decide +kernel
theorem dX11_held_29 : decode cX11_held 29 = .ok (.getfield 320, 3) := by decide +kernel
theorem dX11_held_32 : decode cX11_held 32 = .ok (.ireturn, 1) := by decide +kernel
theorem dX11_payments_0 : decode cX11_payments 0 = .ok (.iload_n 1, 1) := by decide +kernel
theorem dX11_payments_1 : decode cX11_payments 1 = .ok (.iconst 0, 1) := by decide +kernel
theorem dX11_payments_2 : decode cX11_payments 2 = .ok (.bipush 33, 2) := by decide +kernel
theorem dX11_payments_4 : decode cX11_payments 4 = .ok (.invokestatic 69, 3) := by decide +kernel
theorem dX11_payments_7 : decode cX11_payments 7 = .ok (.ifCond .eq 10, 3) := by decide +kernel
theorem dX11_payments_10 : decode cX11_payments 10 = .ok (.aload_n 0, 1) := by decide +kernel
theorem dX11_payments_11 : decode cX11_payments 11 = .ok (.ldc 74, 2) := by decide +kernel
theorem dX11_payments_13 : decode cX11_payments 13 = .ok (.invokevirtual 75, 3) := by decide +kernel
theorem dX11_payments_16 : decode cX11_payments 16 = .ok (.ireturn, 1) := by decide +kernel
theorem dX11_payments_17 : decode cX11_payments 17 = .ok (.aload_n 0, 1) := by decide +kernel
theorem dX11_payments_18 : decode cX11_payments 18 = .ok (.getfield 40, 3) := by decide +kernel
theorem dX11_payments_21 : decode cX11_payments 21 = .ok (.iload_n 1, 1) := by decide +kernel
theorem dX11_payments_22 : decode cX11_payments 22 = .ok (.invokevirtual 312, 3) := by decide +kernel
theorem dX11_payments_25 : decode cX11_payments 25 = .ok (.aload_n 0, 1) := by decide +kernel
theorem dX11_payments_26 : decode cX11_payments 26 = .ok (.getfield 40, 3) := by decide +kernel
theorem dX11_payments_29 : decode cX11_payments 29 = .ok (.invokevirtual 323, 3) := by decide +kernel
theorem dX11_payments_32 : decode cX11_payments 32 = .ok (.ireturn, 1) := by decide +kernel
theorem dX11_draws_0 : decode cX11_draws 0 = .ok (.aload_n 0, 1) := by decide +kernel
theorem dX11_draws_1 : decode cX11_draws 1 = .ok (.getfield 12, 3) := by decide +kernel
theorem dX11_draws_4 : decode cX11_draws 4 = .ok (.getfield 327, 3) := by decide +kernel
theorem dX11_draws_7 : decode cX11_draws 7 = .ok (.istore_n 2, 1) := by decide +kernel
theorem dX11_draws_8 : decode cX11_draws 8 = .ok (.aload_n 0, 1) := by decide +kernel
theorem dX11_draws_9 : decode cX11_draws 9 = .ok (.getfield 12, 3) := by decide +kernel
theorem dX11_draws_12 : decode cX11_draws 12 = .ok (.iload_n 1, 1) := by decide +kernel
theorem dX11_draws_13 : decode cX11_draws 13 = .ok (.putfield 327, 3) := by decide +kernel
theorem dX11_draws_16 : decode cX11_draws 16 = .ok (.iload_n 2, 1) := by decide +kernel
theorem dX11_draws_17 : decode cX11_draws 17 = .ok (.ireturn, 1) := by decide +kernel
theorem dX11_panel_0 : decode cX11_panel 0 = .ok (.aload_n 0, 1) := by decide +kernel
theorem dX11_panel_1 : decode cX11_panel 1 = .ok (.iload_n 1, 1) := by decide +kernel
theorem dX11_panel_2 : decode cX11_panel 2 = .ok (.invokevirtual 151, 3) := by decide +kernel
theorem dX11_panel_5 : decode cX11_panel 5 = .ok (.ifCond .eq 10, 3) := by decide +kernel
theorem dX11_panel_8 : decode cX11_panel 8 = .ok (.aload_n 0, 1) := by decide +kernel
theorem dX11_panel_9 : decode cX11_panel 9 = .ok (.ldc 74, 2) := by decide +kernel
theorem dX11_panel_11 : decode cX11_panel 11 = .ok (.invokevirtual 75, 3) := by decide +kernel
theorem dX11_panel_14 : decode cX11_panel 14 = .ok (.ireturn, 1) := by decide +kernel
theorem dX11_panel_15 : decode cX11_panel 15 = .ok (.aload_n 0, 1) := by decide +kernel
theorem dX11_panel_16 : decode cX11_panel 16 = .ok (.getfield 12, 3) := by decide +kernel
theorem dX11_panel_19 : decode cX11_panel 19 = .ok (.getfield 137, 3) := by decide +kernel
theorem dX11_panel_22 : decode cX11_panel 22 = .ok (.iload_n 1, 1) := by decide +kernel
theorem dX11_panel_23 : decode cX11_panel 23 = .ok (.aaload, 1) := by decide +kernel
theorem dX11_panel_24 : decode cX11_panel 24 = .ok (.astore_n 2, 1) := by decide +kernel
theorem dX11_panel_25 : decode cX11_panel 25 = .ok (.iconst 1, 1) := by decide +kernel
theorem dX11_panel_26 : decode cX11_panel 26 = .ok (.aload_n 0, 1) := by decide +kernel
theorem dX11_panel_27 : decode cX11_panel 27 = .ok (.getfield 12, 3) := by decide +kernel
theorem dX11_panel_30 : decode cX11_panel 30 = .ok (.getfield 84, 3) := by decide +kernel
theorem dX11_panel_33 : decode cX11_panel 33 = .ok (.aload_n 2, 1) := by decide +kernel
theorem dX11_panel_34 : decode cX11_panel 34 = .ok (.getfield 154, 3) := by decide +kernel
theorem dX11_panel_37 : decode cX11_panel 37 = .ok (.iconst 0, 1) := by decide +kernel
theorem dX11_panel_38 : decode cX11_panel 38 = .ok (.iaload, 1) := by decide +kernel
theorem dX11_panel_39 : decode cX11_panel 39 = .ok (.aaload, 1) := by decide +kernel
theorem dX11_panel_40 : decode cX11_panel 40 = .ok (.getfield 98, 3) := by decide +kernel
theorem dX11_panel_43 : decode cX11_panel 43 = .ok (.ishl, 1) := by decide +kernel
theorem dX11_panel_44 : decode cX11_panel 44 = .ok (.iconst 1, 1) := by decide +kernel
theorem dX11_panel_45 : decode cX11_panel 45 = .ok (.aload_n 0, 1) := by decide +kernel
theorem dX11_panel_46 : decode cX11_panel 46 = .ok (.getfield 12, 3) := by decide +kernel
theorem dX11_panel_49 : decode cX11_panel 49 = .ok (.getfield 84, 3) := by decide +kernel
theorem dX11_panel_52 : decode cX11_panel 52 = .ok (.aload_n 2, 1) := by decide +kernel
theorem dX11_panel_53 : decode cX11_panel 53 = .ok (.getfield 154, 3) := by decide +kernel
theorem dX11_panel_56 : decode cX11_panel 56 = .ok (.iconst 1, 1) := by decide +kernel
theorem dX11_panel_57 : decode cX11_panel 57 = .ok (.iaload, 1) := by decide +kernel
theorem dX11_panel_58 : decode cX11_panel 58 = .ok (.aaload, 1) := by decide +kernel
theorem dX11_panel_59 : decode cX11_panel 59 = .ok (.getfield 98, 3) := by decide +kernel
theorem dX11_panel_62 : decode cX11_panel 62 = .ok (.ishl, 1) := by decide +kernel
theorem dX11_panel_63 : decode cX11_panel 63 = .ok (.ior, 1) := by decide +kernel
theorem dX11_panel_64 : decode cX11_panel 64 = .ok (.istore_n 3, 1) := by decide +kernel
theorem dX11_panel_65 : decode cX11_panel 65 = .ok (.sipush 2047, 3) := by decide +kernel
theorem dX11_panel_68 : decode cX11_panel 68 = .ok (.iload_n 3, 1) := by decide +kernel
theorem dX11_panel_69 : decode cX11_panel 69 = .ok (.iconst (-1), 1) := by decide +kernel
theorem dX11_panel_70 : decode cX11_panel 70 = .ok (.ixor, 1) := by decide +kernel
theorem dX11_panel_71 : decode cX11_panel 71 = .ok (.iand, 1) := by decide +kernel
theorem dX11_panel_72 : decode cX11_panel 72 = .ok (.istore 4, 2) := by decide +kernel
theorem dX11_panel_74 : decode cX11_panel 74 = .ok (.iconst 0, 1) := by decide +kernel
theorem dX11_panel_75 : decode cX11_panel 75 = .ok (.istore 5, 2) := by decide +kernel
theorem dX11_panel_77 : decode cX11_panel 77 = .ok (.iconst 0, 1) := by decide +kernel
theorem dX11_panel_78 : decode cX11_panel 78 = .ok (.istore 6, 2) := by decide +kernel
theorem dX11_panel_80 : decode cX11_panel 80 = .ok (.iload 6, 2) := by decide +kernel
theorem dX11_panel_82 : decode cX11_panel 82 = .ok (.iconst 3, 1) := by decide +kernel
theorem dX11_panel_83 : decode cX11_panel 83 = .ok (.if_icmp .ge 44, 3) := by decide +kernel
theorem dX11_panel_86 : decode cX11_panel 86 = .ok (.iload 4, 2) := by decide +kernel
theorem dX11_panel_88 : decode cX11_panel 88 = .ok (.aload_n 0, 1) := by decide +kernel
theorem dX11_panel_89 : decode cX11_panel 89 = .ok (.getfield 12, 3) := by decide +kernel
theorem dX11_panel_92 : decode cX11_panel 92 = .ok (.iload 4, 2) := by decide +kernel
theorem dX11_panel_94 : decode cX11_panel 94 = .ok (.invokestatic 330, 3) := by decide +kernel
theorem dX11_panel_97 : decode cX11_panel 97 = .ok (.invokevirtual 335, 3) := by decide +kernel
theorem dX11_panel_100 : decode cX11_panel 100 = .ok (.invokestatic 338, 3) := by decide +kernel
theorem dX11_panel_103 : decode cX11_panel 103 = .ok (.istore 7, 2) := by decide +kernel
theorem dX11_panel_105 : decode cX11_panel 105 = .ok (.iload 5, 2) := by decide +kernel
theorem dX11_panel_107 : decode cX11_panel 107 = .ok (.iload 7, 2) := by decide +kernel
theorem dX11_panel_109 : decode cX11_panel 109 = .ok (.ior, 1) := by decide +kernel
theorem dX11_panel_110 : decode cX11_panel 110 = .ok (.istore 5, 2) := by decide +kernel
theorem dX11_panel_112 : decode cX11_panel 112 = .ok (.iload 4, 2) := by decide +kernel
theorem dX11_panel_114 : decode cX11_panel 114 = .ok (.iload 7, 2) := by decide +kernel
theorem dX11_panel_116 : decode cX11_panel 116 = .ok (.iconst (-1), 1) := by decide +kernel
theorem dX11_panel_117 : decode cX11_panel 117 = .ok (.ixor, 1) := by decide +kernel
theorem dX11_panel_118 : decode cX11_panel 118 = .ok (.iand, 1) := by decide +kernel
theorem dX11_panel_119 : decode cX11_panel 119 = .ok (.istore 4, 2) := by decide +kernel
theorem dX11_panel_121 : decode cX11_panel 121 = .ok (.iinc 6 1, 3) := by decide +kernel
theorem dX11_panel_124 : decode cX11_panel 124 = .ok (.goto (-44), 3) := by decide +kernel
theorem dX11_panel_127 : decode cX11_panel 127 = .ok (.iload 5, 2) := by decide +kernel
theorem dX11_panel_129 : decode cX11_panel 129 = .ok (.ireturn, 1) := by decide +kernel
theorem dX11_like_0 : decode cX11_like 0 = .ok (.aload_n 0, 1) := by decide +kernel
theorem dX11_like_1 : decode cX11_like 1 = .ok (.iload_n 1, 1) := by decide +kernel
theorem dX11_like_2 : decode cX11_like 2 = .ok (.invokevirtual 151, 3) := by decide +kernel
theorem dX11_like_5 : decode cX11_like 5 = .ok (.ifCond .ne 16, 3) := by decide +kernel
theorem dX11_like_8 : decode cX11_like 8 = .ok (.iload_n 2, 1) := by decide +kernel
theorem dX11_like_9 : decode cX11_like 9 = .ok (.ifCond .lt 12, 3) := by decide +kernel
theorem dX11_like_12 : decode cX11_like 12 = .ok (.iload_n 3, 1) := by decide +kernel
theorem dX11_like_13 : decode cX11_like 13 = .ok (.iconst 0, 1) := by decide +kernel
theorem dX11_like_14 : decode cX11_like 14 = .ok (.iconst 1, 1) := by decide +kernel
theorem dX11_like_15 : decode cX11_like 15 = .ok (.invokestatic 69, 3) := by decide +kernel
theorem dX11_like_18 : decode cX11_like 18 = .ok (.ifCond .eq 10, 3) := by decide +kernel
theorem dX11_like_21 : decode cX11_like 21 = .ok (.aload_n 0, 1) := by decide +kernel
theorem dX11_like_22 : decode cX11_like 22 = .ok (.ldc 74, 2) := by decide +kernel
theorem dX11_like_24 : decode cX11_like 24 = .ok (.invokevirtual 75, 3) := by decide +kernel
theorem dX11_like_27 : decode cX11_like 27 = .ok (.ireturn, 1) := by decide +kernel
theorem dX11_like_28 : decode cX11_like 28 = .ok (.iload_n 2, 1) := by decide +kernel
theorem dX11_like_29 : decode cX11_like 29 = .ok (.iload_n 1, 1) := by decide +kernel
theorem dX11_like_30 : decode cX11_like 30 = .ok (.if_icmp .lt 10, 3) := by decide +kernel
theorem dX11_like_33 : decode cX11_like 33 = .ok (.aload_n 0, 1) := by decide +kernel
theorem dX11_like_34 : decode cX11_like 34 = .ok (.ldc 248, 2) := by decide +kernel
theorem dX11_like_36 : decode cX11_like 36 = .ok (.invokevirtual 75, 3) := by decide +kernel
theorem dX11_like_39 : decode cX11_like 39 = .ok (.ireturn, 1) := by decide +kernel
theorem dX11_like_40 : decode cX11_like 40 = .ok (.aload_n 0, 1) := by decide +kernel
theorem dX11_like_41 : decode cX11_like 41 = .ok (.getfield 47, 3) := by decide +kernel
theorem dX11_like_44 : decode cX11_like 44 = .ok (.iload_n 1, 1) := by decide +kernel
theorem dX11_like_45 : decode cX11_like 45 = .ok (.iload_n 2, 1) := by decide +kernel
theorem dX11_like_46 : decode cX11_like 46 = .ok (.invokevirtual 341, 3) := by decide +kernel
theorem dX11_like_49 : decode cX11_like 49 = .ok (.istore 4, 2) := by decide +kernel
theorem dX11_like_51 : decode cX11_like 51 = .ok (.iload_n 3, 1) := by decide +kernel
theorem dX11_like_52 : decode cX11_like 52 = .ok (.ifCond .ne 8, 3) := by decide +kernel
theorem dX11_like_55 : decode cX11_like 55 = .ok (.iload 4, 2) := by decide +kernel
theorem dX11_like_57 : decode cX11_like 57 = .ok (.goto 13, 3) := by decide +kernel
theorem dX11_like_60 : decode cX11_like 60 = .ok (.aload_n 0, 1) := by decide +kernel
theorem dX11_like_61 : decode cX11_like 61 = .ok (.getfield 47, 3) := by decide +kernel
theorem dX11_like_64 : decode cX11_like 64 = .ok (.iload_n 1, 1) := by decide +kernel
theorem dX11_like_65 : decode cX11_like 65 = .ok (.iload 4, 2) := by decide +kernel
theorem dX11_like_67 : decode cX11_like 67 = .ok (.invokevirtual 344, 3) := by decide +kernel
theorem dX11_like_70 : decode cX11_like 70 = .ok (.ireturn, 1) := by decide +kernel
theorem dX11_ring_0 : decode cX11_ring 0 = .ok (.aload_n 0, 1) := by decide +kernel
theorem dX11_ring_1 : decode cX11_ring 1 = .ok (.iload_n 1, 1) := by decide +kernel
theorem dX11_ring_2 : decode cX11_ring 2 = .ok (.invokevirtual 151, 3) := by decide +kernel
theorem dX11_ring_5 : decode cX11_ring 5 = .ok (.ifCond .eq 10, 3) := by decide +kernel
theorem dX11_ring_8 : decode cX11_ring 8 = .ok (.aload_n 0, 1) := by decide +kernel
theorem dX11_ring_9 : decode cX11_ring 9 = .ok (.ldc 74, 2) := by decide +kernel
theorem dX11_ring_11 : decode cX11_ring 11 = .ok (.invokevirtual 75, 3) := by decide +kernel
theorem dX11_ring_14 : decode cX11_ring 14 = .ok (.ireturn, 1) := by decide +kernel
theorem dX11_ring_15 : decode cX11_ring 15 = .ok (.aload_n 0, 1) := by decide +kernel
theorem dX11_ring_16 : decode cX11_ring 16 = .ok (.getfield 47, 3) := by decide +kernel
theorem dX11_ring_19 : decode cX11_ring 19 = .ok (.invokevirtual 347, 3) := by decide +kernel
theorem dX11_ring_22 : decode cX11_ring 22 = .ok (.aload_n 0, 1) := by decide +kernel
theorem dX11_ring_23 : decode cX11_ring 23 = .ok (.getfield 47, 3) := by decide +kernel
theorem dX11_ring_26 : decode cX11_ring 26 = .ok (.iload_n 1, 1) := by decide +kernel
theorem dX11_ring_27 : decode cX11_ring 27 = .ok (.invokevirtual 350, 3) := by decide +kernel
theorem dX11_ring_30 : decode cX11_ring 30 = .ok (.ireturn, 1) := by decide +kernel
theorem dX11_rings_0 : decode cX11_rings 0 = .ok (.iload_n 1, 1) := by decide +kernel
theorem dX11_rings_1 : decode cX11_rings 1 = .ok (.iconst 1, 1) := by decide +kernel
theorem dX11_rings_2 : decode cX11_rings 2 = .ok (.bipush 20, 2) := by decide +kernel
theorem dX11_rings_4 : decode cX11_rings 4 = .ok (.invokestatic 69, 3) := by decide +kernel
theorem dX11_rings_7 : decode cX11_rings 7 = .ok (.ifCond .eq 10, 3) := by decide +kernel
theorem dX11_rings_10 : decode cX11_rings 10 = .ok (.aload_n 0, 1) := by decide +kernel
theorem dX11_rings_11 : decode cX11_rings 11 = .ok (.ldc 74, 2) := by decide +kernel
theorem dX11_rings_13 : decode cX11_rings 13 = .ok (.invokevirtual 75, 3) := by decide +kernel
theorem dX11_rings_16 : decode cX11_rings 16 = .ok (.ireturn, 1) := by decide +kernel
theorem dX11_rings_17 : decode cX11_rings 17 = .ok (.aload_n 0, 1) := by decide +kernel
theorem dX11_rings_18 : decode cX11_rings 18 = .ok (.getfield 47, 3) := by decide +kernel
theorem dX11_rings_21 : decode cX11_rings 21 = .ok (.invokevirtual 347, 3) := by decide +kernel
theorem dX11_rings_24 : decode cX11_rings 24 = .ok (.aload_n 0, 1) := by decide +kernel
theorem dX11_rings_25 : decode cX11_rings 25 = .ok (.getfield 47, 3) := by decide +kernel
theorem dX11_rings_28 : decode cX11_rings 28 = .ok (.iload_n 1, 1) := by decide +kernel
theorem dX11_rings_29 : decode cX11_rings 29 = .ok (.invokevirtual 353, 3) := by decide +kernel
theorem dX11_rings_32 : decode cX11_rings 32 = .ok (.ireturn, 1) := by decide +kernel
theorem dX11_core_0 : decode cX11_core 0 = .ok (.aload_n 0, 1) := by decide +kernel
theorem dX11_core_1 : decode cX11_core 1 = .ok (.getfield 47, 3) := by decide +kernel
theorem dX11_core_4 : decode cX11_core 4 = .ok (.invokevirtual 347, 3) := by decide +kernel
theorem dX11_core_7 : decode cX11_core 7 = .ok (.aload_n 0, 1) := by decide +kernel
theorem dX11_core_8 : decode cX11_core 8 = .ok (.getfield 47, 3) := by decide +kernel
theorem dX11_core_11 : decode cX11_core 11 = .ok (.invokevirtual 356, 3) := by decide +kernel
theorem dX11_core_14 : decode cX11_core 14 = .ok (.ireturn, 1) := by decide +kernel
theorem dX11_chain_0 : decode cX11_chain 0 = .ok (.iload_n 1, 1) := by decide +kernel
theorem dX11_chain_1 : decode cX11_chain 1 = .ok (.iconst 0, 1) := by decide +kernel
theorem dX11_chain_2 : decode cX11_chain 2 = .ok (.iconst 3, 1) := by decide +kernel
theorem dX11_chain_3 : decode cX11_chain 3 = .ok (.invokestatic 69, 3) := by decide +kernel
theorem dX11_chain_6 : decode cX11_chain 6 = .ok (.ifCond .ne 18, 3) := by decide +kernel
theorem dX11_chain_9 : decode cX11_chain 9 = .ok (.iload_n 2, 1) := by decide +kernel
theorem dX11_chain_10 : decode cX11_chain 10 = .ok (.iconst 0, 1) := by decide +kernel
theorem dX11_chain_11 : decode cX11_chain 11 = .ok (.sipush 999, 3) := by decide +kernel
theorem dX11_chain_14 : decode cX11_chain 14 = .ok (.invokestatic 69, 3) := by decide +kernel
theorem dX11_chain_17 : decode cX11_chain 17 = .ok (.ifCond .ne 7, 3) := by decide +kernel
theorem dX11_chain_20 : decode cX11_chain 20 = .ok (.iload_n 3, 1) := by decide +kernel
theorem dX11_chain_21 : decode cX11_chain 21 = .ok (.ifCond .ge 10, 3) := by decide +kernel
theorem dX11_chain_24 : decode cX11_chain 24 = .ok (.aload_n 0, 1) := by decide +kernel
theorem dX11_chain_25 : decode cX11_chain 25 = .ok (.ldc 74, 2) := by decide +kernel
theorem dX11_chain_27 : decode cX11_chain 27 = .ok (.invokevirtual 75, 3) := by decide +kernel
theorem dX11_chain_30 : decode cX11_chain 30 = .ok (.ireturn, 1) := by decide +kernel
theorem dX11_chain_31 : decode cX11_chain 31 = .ok (.aload_n 0, 1) := by decide +kernel
theorem dX11_chain_32 : decode cX11_chain 32 = .ok (.getfield 60, 3) := by decide +kernel
theorem dX11_chain_35 : decode cX11_chain 35 = .ok (.iload_n 1, 1) := by decide +kernel
theorem dX11_chain_36 : decode cX11_chain 36 = .ok (.aaload, 1) := by decide +kernel
theorem dX11_chain_37 : decode cX11_chain 37 = .ok (.astore 4, 2) := by decide +kernel
theorem dX11_chain_39 : decode cX11_chain 39 = .ok (.aload 4, 2) := by decide +kernel
theorem dX11_chain_41 : decode cX11_chain 41 = .ok (.getfield 359, 3) := by decide +kernel
theorem dX11_chain_44 : decode cX11_chain 44 = .ok (.ifCond .ne 10, 3) := by decide +kernel
theorem dX11_chain_47 : decode cX11_chain 47 = .ok (.aload_n 0, 1) := by decide +kernel
theorem dX11_chain_48 : decode cX11_chain 48 = .ok (.ldc 248, 2) := by decide +kernel
theorem dX11_chain_50 : decode cX11_chain 50 = .ok (.invokevirtual 75, 3) := by decide +kernel
theorem dX11_chain_53 : decode cX11_chain 53 = .ok (.ireturn, 1) := by decide +kernel
theorem dX11_chain_54 : decode cX11_chain 54 = .ok (.aload 4, 2) := by decide +kernel
theorem dX11_chain_56 : decode cX11_chain 56 = .ok (.getfield 362, 3) := by decide +kernel
theorem dX11_chain_59 : decode cX11_chain 59 = .ok (.iconst 2, 1) := by decide +kernel
theorem dX11_chain_60 : decode cX11_chain 60 = .ok (.irem, 1) := by decide +kernel
theorem dX11_chain_61 : decode cX11_chain 61 = .ok (.ifCond .ne 19, 3) := by decide +kernel
theorem dX11_chain_64 : decode cX11_chain 64 = .ok (.aload 4, 2) := by decide +kernel
theorem dX11_chain_66 : decode cX11_chain 66 = .ok (.getfield 362, 3) := by decide +kernel
theorem dX11_chain_69 : decode cX11_chain 69 = .ok (.iconst 2, 1) := by decide +kernel
theorem dX11_chain_70 : decode cX11_chain 70 = .ok (.idiv, 1) := by decide +kernel
theorem dX11_chain_71 : decode cX11_chain 71 = .ok (.iconst 1, 1) := by decide +kernel
theorem dX11_chain_72 : decode cX11_chain 72 = .ok (.bipush 6, 2) := by decide +kernel
theorem dX11_chain_74 : decode cX11_chain 74 = .ok (.invokestatic 69, 3) := by decide +kernel
theorem dX11_chain_77 : decode cX11_chain 77 = .ok (.ifCond .eq 10, 3) := by decide +kernel
theorem dX11_chain_80 : decode cX11_chain 80 = .ok (.aload_n 0, 1) := by decide +kernel
theorem dX11_chain_81 : decode cX11_chain 81 = .ok (.ldc 133, 2) := by decide +kernel
theorem dX11_chain_83 : decode cX11_chain 83 = .ok (.invokevirtual 75, 3) := by decide +kernel
theorem dX11_chain_86 : decode cX11_chain 86 = .ok (.ireturn, 1) := by decide +kernel
theorem dX11_chain_87 : decode cX11_chain 87 = .ok (.aload 4, 2) := by decide +kernel
theorem dX11_chain_89 : decode cX11_chain 89 = .ok (.iload_n 2, 1) := by decide +kernel
theorem dX11_chain_90 : decode cX11_chain 90 = .ok (.invokevirtual 365, 3) := by decide +kernel
theorem dX11_chain_93 : decode cX11_chain 93 = .ok (.istore 5, 2) := by decide +kernel
theorem dX11_chain_95 : decode cX11_chain 95 = .ok (.iload_n 3, 1) := by decide +kernel
theorem dX11_chain_96 : decode cX11_chain 96 = .ok (.ifCond .ne 6, 3) := by decide +kernel
theorem dX11_chain_99 : decode cX11_chain 99 = .ok (.iload 5, 2) := by decide +kernel
theorem dX11_chain_101 : decode cX11_chain 101 = .ok (.ireturn, 1) := by decide +kernel
theorem dX11_chain_102 : decode cX11_chain 102 = .ok (.iload 5, 2) := by decide +kernel
theorem dX11_chain_104 : decode cX11_chain 104 = .ok (.ifCond .eq 14, 3) := by decide +kernel
theorem dX11_chain_107 : decode cX11_chain 107 = .ok (.iload_n 3, 1) := by decide +kernel
theorem dX11_chain_108 : decode cX11_chain 108 = .ok (.aload 4, 2) := by decide +kernel
theorem dX11_chain_110 : decode cX11_chain 110 = .ok (.getfield 362, 3) := by decide +kernel
theorem dX11_chain_113 : decode cX11_chain 113 = .ok (.iconst 2, 1) := by decide +kernel
theorem dX11_chain_114 : decode cX11_chain 114 = .ok (.idiv, 1) := by decide +kernel
theorem dX11_chain_115 : decode cX11_chain 115 = .ok (.if_icmp .le 10, 3) := by decide +kernel
theorem dX11_chain_118 : decode cX11_chain 118 = .ok (.aload_n 0, 1) := by decide +kernel
theorem dX11_chain_119 : decode cX11_chain 119 = .ok (.ldc 248, 2) := by decide +kernel
theorem dX11_chain_121 : decode cX11_chain 121 = .ok (.invokevirtual 75, 3) := by decide +kernel
theorem dX11_chain_124 : decode cX11_chain 124 = .ok (.ireturn, 1) := by decide +kernel
theorem dX11_chain_125 : decode cX11_chain 125 = .ok (.aload 4, 2) := by decide +kernel
theorem dX11_chain_127 : decode cX11_chain 127 = .ok (.iload_n 3, 1) := by decide +kernel
theorem dX11_chain_128 : decode cX11_chain 128 = .ok (.iconst 1, 1) := by decide +kernel
theorem dX11_chain_129 : decode cX11_chain 129 = .ok (.isub, 1) := by decide +kernel
theorem dX11_chain_130 : decode cX11_chain 130 = .ok (.iload_n 2, 1) := by decide +kernel
theorem dX11_chain_131 : decode cX11_chain 131 = .ok (.invokevirtual 368, 3) := by decide +kernel
theorem dX11_chain_134 : decode cX11_chain 134 = .ok (.ireturn, 1) := by decide +kernel
theorem dX11_voice_0 : decode cX11_voice 0 = .ok (.aload_n 0, 1) := by decide +kernel
theorem dX11_voice_1 : decode cX11_voice 1 = .ok (.iload_n 1, 1) := by decide +kernel
theorem dX11_voice_2 : decode cX11_voice 2 = .ok (.invokevirtual 273, 3) := by decide +kernel
theorem dX11_voice_5 : decode cX11_voice 5 = .ok (.ifCond .ne 12, 3) := by decide +kernel
theorem dX11_voice_8 : decode cX11_voice 8 = .ok (.iload_n 2, 1) := by decide +kernel
theorem dX11_voice_9 : decode cX11_voice 9 = .ok (.iconst 0, 1) := by decide +kernel
theorem dX11_voice_10 : decode cX11_voice 10 = .ok (.iconst 3, 1) := by decide +kernel
theorem dX11_voice_11 : decode cX11_voice 11 = .ok (.invokestatic 69, 3) := by decide +kernel
theorem dX11_voice_14 : decode cX11_voice 14 = .ok (.ifCond .eq 10, 3) := by decide +kernel
theorem dX11_voice_17 : decode cX11_voice 17 = .ok (.aload_n 0, 1) := by decide +kernel
theorem dX11_voice_18 : decode cX11_voice 18 = .ok (.ldc 74, 2) := by decide +kernel
theorem dX11_voice_20 : decode cX11_voice 20 = .ok (.invokevirtual 75, 3) := by decide +kernel
theorem dX11_voice_23 : decode cX11_voice 23 = .ok (.ireturn, 1) := by decide +kernel
theorem dX11_voice_24 : decode cX11_voice 24 = .ok (.aload_n 0, 1) := by decide +kernel
theorem dX11_voice_25 : decode cX11_voice 25 = .ok (.getfield 54, 3) := by decide +kernel
theorem dX11_voice_28 : decode cX11_voice 28 = .ok (.iload_n 1, 1) := by decide +kernel
theorem dX11_voice_29 : decode cX11_voice 29 = .ok (.aload_n 0, 1) := by decide +kernel
theorem dX11_voice_30 : decode cX11_voice 30 = .ok (.getfield 12, 3) := by decide +kernel
theorem dX11_voice_33 : decode cX11_voice 33 = .ok (.getfield 259, 3) := by decide +kernel
theorem dX11_voice_36 : decode cX11_voice 36 = .ok (.iload_n 1, 1) := by decide +kernel
theorem dX11_voice_37 : decode cX11_voice 37 = .ok (.aaload, 1) := by decide +kernel
theorem dX11_voice_38 : decode cX11_voice 38 = .ok (.getfield 285, 3) := by decide +kernel
theorem dX11_voice_41 : decode cX11_voice 41 = .ok (.aload_n 0, 1) := by decide +kernel
theorem dX11_voice_42 : decode cX11_voice 42 = .ok (.getfield 24, 3) := by decide +kernel
theorem dX11_voice_45 : decode cX11_voice 45 = .ok (.iload_n 1, 1) := by decide +kernel
theorem dX11_voice_46 : decode cX11_voice 46 = .ok (.invokevirtual 293, 3) := by decide +kernel
theorem dX11_voice_49 : decode cX11_voice 49 = .ok (.invokevirtual 371, 3) := by decide +kernel
theorem dX11_voice_52 : decode cX11_voice 52 = .ok (.aload_n 0, 1) := by decide +kernel
theorem dX11_voice_53 : decode cX11_voice 53 = .ok (.getfield 54, 3) := by decide +kernel
theorem dX11_voice_56 : decode cX11_voice 56 = .ok (.iload_n 2, 1) := by decide +kernel
theorem dX11_voice_57 : decode cX11_voice 57 = .ok (.iload_n 3, 1) := by decide +kernel
theorem dX11_voice_58 : decode cX11_voice 58 = .ok (.invokevirtual 375, 3) := by decide +kernel
theorem dX11_voice_61 : decode cX11_voice 61 = .ok (.istore 4, 2) := by decide +kernel
theorem dX11_voice_63 : decode cX11_voice 63 = .ok (.aload_n 0, 1) := by decide +kernel
theorem dX11_voice_64 : decode cX11_voice 64 = .ok (.getfield 54, 3) := by decide +kernel
theorem dX11_voice_67 : decode cX11_voice 67 = .ok (.getfield 378, 3) := by decide +kernel
theorem dX11_voice_70 : decode cX11_voice 70 = .ok (.ifCond .eq 13, 3) := by decide +kernel
theorem dX11_voice_73 : decode cX11_voice 73 = .ok (.aload_n 0, 1) := by decide +kernel
theorem dX11_voice_74 : decode cX11_voice 74 = .ok (.ldc_w 381, 3) := by decide +kernel
theorem dX11_voice_77 : decode cX11_voice 77 = .ok (.invokevirtual 75, 3) := by decide +kernel
theorem dX11_voice_80 : decode cX11_voice 80 = .ok (.goto 5, 3) := by decide +kernel
theorem dX11_voice_83 : decode cX11_voice 83 = .ok (.iload 4, 2) := by decide +kernel
theorem dX11_voice_85 : decode cX11_voice 85 = .ok (.ireturn, 1) := by decide +kernel
theorem dX11_trace_0 : decode cX11_trace 0 = .ok (.iload_n 1, 1) := by decide +kernel
theorem dX11_trace_1 : decode cX11_trace 1 = .ok (.iconst 0, 1) := by decide +kernel
theorem dX11_trace_2 : decode cX11_trace 2 = .ok (.aload_n 0, 1) := by decide +kernel
theorem dX11_trace_3 : decode cX11_trace 3 = .ok (.getfield 54, 3) := by decide +kernel
theorem dX11_trace_6 : decode cX11_trace 6 = .ok (.getfield 382, 3) := by decide +kernel
theorem dX11_trace_9 : decode cX11_trace 9 = .ok (.iconst 1, 1) := by decide +kernel
theorem dX11_trace_10 : decode cX11_trace 10 = .ok (.isub, 1) := by decide +kernel
theorem dX11_trace_11 : decode cX11_trace 11 = .ok (.invokestatic 69, 3) := by decide +kernel
theorem dX11_trace_14 : decode cX11_trace 14 = .ok (.ifCond .eq 10, 3) := by decide +kernel
theorem dX11_trace_17 : decode cX11_trace 17 = .ok (.aload_n 0, 1) := by decide +kernel
theorem dX11_trace_18 : decode cX11_trace 18 = .ok (.ldc 248, 2) := by decide +kernel
theorem dX11_trace_20 : decode cX11_trace 20 = .ok (.invokevirtual 75, 3) := by decide +kernel
theorem dX11_trace_23 : decode cX11_trace 23 = .ok (.ireturn, 1) := by decide +kernel
theorem dX11_trace_24 : decode cX11_trace 24 = .ok (.aload_n 0, 1) := by decide +kernel
theorem dX11_trace_25 : decode cX11_trace 25 = .ok (.getfield 54, 3) := by decide +kernel
theorem dX11_trace_28 : decode cX11_trace 28 = .ok (.getfield 385, 3) := by decide +kernel
theorem dX11_trace_31 : decode cX11_trace 31 = .ok (.iload_n 1, 1) := by decide +kernel
theorem dX11_trace_32 : decode cX11_trace 32 = .ok (.iaload, 1) := by decide +kernel
theorem dX11_trace_33 : decode cX11_trace 33 = .ok (.ireturn, 1) := by decide +kernel
theorem dX11_sheet_0 : decode cX11_sheet 0 = .ok (.iload_n 1, 1) := by decide +kernel
theorem dX11_sheet_1 : decode cX11_sheet 1 = .ok (.iconst 0, 1) := by decide +kernel
theorem dX11_sheet_2 : decode cX11_sheet 2 = .ok (.iconst 3, 1) := by decide +kernel
theorem dX11_sheet_3 : decode cX11_sheet 3 = .ok (.invokestatic 69, 3) := by decide +kernel
theorem dX11_sheet_6 : decode cX11_sheet 6 = .ok (.ifCond .ne 25, 3) := by decide +kernel
theorem dX11_sheet_9 : decode cX11_sheet 9 = .ok (.iload_n 2, 1) := by decide +kernel
theorem dX11_sheet_10 : decode cX11_sheet 10 = .ok (.ifCond .eq 28, 3) := by decide +kernel
theorem dX11_sheet_13 : decode cX11_sheet 13 = .ok (.iload_n 2, 1) := by decide +kernel
theorem dX11_sheet_14 : decode cX11_sheet 14 = .ok (.bipush 8, 2) := by decide +kernel
theorem dX11_sheet_16 : decode cX11_sheet 16 = .ok (.if_icmp .eq 22, 3) := by decide +kernel
theorem dX11_sheet_19 : decode cX11_sheet 19 = .ok (.iload_n 2, 1) := by decide +kernel
theorem dX11_sheet_20 : decode cX11_sheet 20 = .ok (.bipush 16, 2) := by decide +kernel
theorem dX11_sheet_22 : decode cX11_sheet 22 = .ok (.if_icmp .eq 16, 3) := by decide +kernel
theorem dX11_sheet_25 : decode cX11_sheet 25 = .ok (.iload_n 2, 1) := by decide +kernel
theorem dX11_sheet_26 : decode cX11_sheet 26 = .ok (.bipush 32, 2) := by decide +kernel
theorem dX11_sheet_28 : decode cX11_sheet 28 = .ok (.if_icmp .eq 10, 3) := by decide +kernel
theorem dX11_sheet_31 : decode cX11_sheet 31 = .ok (.aload_n 0, 1) := by decide +kernel
theorem dX11_sheet_32 : decode cX11_sheet 32 = .ok (.ldc 74, 2) := by decide +kernel
theorem dX11_sheet_34 : decode cX11_sheet 34 = .ok (.invokevirtual 75, 3) := by decide +kernel
theorem dX11_sheet_37 : decode cX11_sheet 37 = .ok (.ireturn, 1) := by decide +kernel
theorem dX11_sheet_38 : decode cX11_sheet 38 = .ok (.iload_n 2, 1) := by decide +kernel
theorem dX11_sheet_39 : decode cX11_sheet 39 = .ok (.ifCond .ne 16, 3) := by decide +kernel
theorem dX11_sheet_42 : decode cX11_sheet 42 = .ok (.aload_n 0, 1) := by decide +kernel
theorem dX11_sheet_43 : decode cX11_sheet 43 = .ok (.getfield 60, 3) := by decide +kernel
theorem dX11_sheet_46 : decode cX11_sheet 46 = .ok (.iload_n 1, 1) := by decide +kernel
theorem dX11_sheet_47 : decode cX11_sheet 47 = .ok (.aaload, 1) := by decide +kernel
theorem dX11_sheet_48 : decode cX11_sheet 48 = .ok (.iconst 0, 1) := by decide +kernel
theorem dX11_sheet_49 : decode cX11_sheet 49 = .ok (.iconst 0, 1) := by decide +kernel
theorem dX11_sheet_50 : decode cX11_sheet 50 = .ok (.invokevirtual 388, 3) := by decide +kernel
theorem dX11_sheet_53 : decode cX11_sheet 53 = .ok (.iconst 1, 1) := by decide +kernel
theorem dX11_sheet_54 : decode cX11_sheet 54 = .ok (.ireturn, 1) := by decide +kernel
theorem dX11_sheet_55 : decode cX11_sheet 55 = .ok (.iload_n 3, 1) := by decide +kernel
theorem dX11_sheet_56 : decode cX11_sheet 56 = .ok (.ifCond .ge 11, 3) := by decide +kernel
theorem dX11_sheet_59 : decode cX11_sheet 59 = .ok (.aload_n 0, 1) := by decide +kernel
theorem dX11_sheet_60 : decode cX11_sheet 60 = .ok (.ldc_w 389, 3) := by decide +kernel
theorem dX11_sheet_63 : decode cX11_sheet 63 = .ok (.invokevirtual 75, 3) := by decide +kernel
theorem dX11_sheet_66 : decode cX11_sheet 66 = .ok (.ireturn, 1) := by decide +kernel
theorem dX11_sheet_67 : decode cX11_sheet 67 = .ok (.iload_n 3, 1) := by decide +kernel
theorem dX11_sheet_68 : decode cX11_sheet 68 = .ok (.bipush 24, 2) := by decide +kernel
theorem dX11_sheet_70 : decode cX11_sheet 70 = .ok (.if_icmp .le 10, 3) := by decide +kernel
theorem dX11_sheet_73 : decode cX11_sheet 73 = .ok (.aload_n 0, 1) := by decide +kernel
theorem dX11_sheet_74 : decode cX11_sheet 74 = .ok (.ldc 74, 2) := by decide +kernel
theorem dX11_sheet_76 : decode cX11_sheet 76 = .ok (.invokevirtual 75, 3) := by decide +kernel
theorem dX11_sheet_79 : decode cX11_sheet 79 = .ok (.ireturn, 1) := by decide +kernel
theorem dX11_sheet_80 : decode cX11_sheet 80 = .ok (.aload_n 0, 1) := by decide +kernel
theorem dX11_sheet_81 : decode cX11_sheet 81 = .ok (.getfield 60, 3) := by decide +kernel
theorem dX11_sheet_84 : decode cX11_sheet 84 = .ok (.iload_n 1, 1) := by decide +kernel
theorem dX11_sheet_85 : decode cX11_sheet 85 = .ok (.aaload, 1) := by decide +kernel
theorem dX11_sheet_86 : decode cX11_sheet 86 = .ok (.iload_n 2, 1) := by decide +kernel
theorem dX11_sheet_87 : decode cX11_sheet 87 = .ok (.iload_n 3, 1) := by decide +kernel
theorem dX11_sheet_88 : decode cX11_sheet 88 = .ok (.invokevirtual 388, 3) := by decide +kernel
theorem dX11_sheet_91 : decode cX11_sheet 91 = .ok (.iconst 1, 1) := by decide +kernel
theorem dX11_sheet_92 : decode cX11_sheet 92 = .ok (.ireturn, 1) := by decide +kernel
theorem dX11_put_0 : decode cX11_put 0 = .ok (.iload_n 1, 1) := by decide +kernel
theorem dX11_put_1 : decode cX11_put 1 = .ok (.iconst 0, 1) := by decide +kernel
theorem dX11_put_2 : decode cX11_put 2 = .ok (.iconst 3, 1) := by decide +kernel
theorem dX11_put_3 : decode cX11_put 3 = .ok (.invokestatic 69, 3) := by decide +kernel
theorem dX11_put_6 : decode cX11_put 6 = .ok (.ifCond .eq 10, 3) := by decide +kernel
theorem dX11_put_9 : decode cX11_put 9 = .ok (.aload_n 0, 1) := by decide +kernel
theorem dX11_put_10 : decode cX11_put 10 = .ok (.ldc 74, 2) := by decide +kernel
theorem dX11_put_12 : decode cX11_put 12 = .ok (.invokevirtual 75, 3) := by decide +kernel
theorem dX11_put_15 : decode cX11_put 15 = .ok (.ireturn, 1) := by decide +kernel
theorem dX11_put_16 : decode cX11_put 16 = .ok (.aload_n 0, 1) := by decide +kernel
theorem dX11_put_17 : decode cX11_put 17 = .ok (.getfield 60, 3) := by decide +kernel
theorem dX11_put_20 : decode cX11_put 20 = .ok (.iload_n 1, 1) := by decide +kernel
theorem dX11_put_21 : decode cX11_put 21 = .ok (.aaload, 1) := by decide +kernel
theorem dX11_put_22 : decode cX11_put 22 = .ok (.astore 4, 2) := by decide +kernel
theorem dX11_put_24 : decode cX11_put 24 = .ok (.aload 4, 2) := by decide +kernel
theorem dX11_put_26 : decode cX11_put 26 = .ok (.getfield 359, 3) := by decide +kernel
theorem dX11_put_29 : decode cX11_put 29 = .ok (.ifCond .ne 10, 3) := by decide +kernel
theorem dX11_put_32 : decode cX11_put 32 = .ok (.aload_n 0, 1) := by decide +kernel
theorem dX11_put_33 : decode cX11_put 33 = .ok (.ldc 248, 2) := by decide +kernel
theorem dX11_put_35 : decode cX11_put 35 = .ok (.invokevirtual 75, 3) := by decide +kernel
theorem dX11_put_38 : decode cX11_put 38 = .ok (.ireturn, 1) := by decide +kernel
theorem dX11_put_39 : decode cX11_put 39 = .ok (.iload_n 2, 1) := by decide +kernel
theorem dX11_put_40 : decode cX11_put 40 = .ok (.iconst 0, 1) := by decide +kernel
theorem dX11_put_41 : decode cX11_put 41 = .ok (.aload 4, 2) := by decide +kernel
theorem dX11_put_43 : decode cX11_put 43 = .ok (.getfield 362, 3) := by decide +kernel
theorem dX11_put_46 : decode cX11_put 46 = .ok (.iconst 1, 1) := by decide +kernel
theorem dX11_put_47 : decode cX11_put 47 = .ok (.isub, 1) := by decide +kernel
theorem dX11_put_48 : decode cX11_put 48 = .ok (.invokestatic 69, 3) := by decide +kernel
theorem dX11_put_51 : decode cX11_put 51 = .ok (.ifCond .eq 10, 3) := by decide +kernel
theorem dX11_put_54 : decode cX11_put 54 = .ok (.aload_n 0, 1) := by decide +kernel
theorem dX11_put_55 : decode cX11_put 55 = .ok (.ldc 74, 2) := by decide +kernel
theorem dX11_put_57 : decode cX11_put 57 = .ok (.invokevirtual 75, 3) := by decide +kernel
theorem dX11_put_60 : decode cX11_put 60 = .ok (.ireturn, 1) := by decide +kernel
theorem dX11_put_61 : decode cX11_put 61 = .ok (.aload 4, 2) := by decide +kernel
theorem dX11_put_63 : decode cX11_put 63 = .ok (.getfield 390, 3) := by decide +kernel
theorem dX11_put_66 : decode cX11_put 66 = .ok (.iload_n 2, 1) := by decide +kernel
theorem dX11_put_67 : decode cX11_put 67 = .ok (.aload 4, 2) := by decide +kernel
theorem dX11_put_69 : decode cX11_put 69 = .ok (.iload_n 3, 1) := by decide +kernel
theorem dX11_put_70 : decode cX11_put 70 = .ok (.invokevirtual 393, 3) := by decide +kernel
theorem dX11_put_73 : decode cX11_put 73 = .ok (.iastore, 1) := by decide +kernel
theorem dX11_put_74 : decode cX11_put 74 = .ok (.iconst 1, 1) := by decide +kernel
theorem dX11_put_75 : decode cX11_put 75 = .ok (.ireturn, 1) := by decide +kernel
theorem dX11_move_0 : decode cX11_move 0 = .ok (.iload_n 1, 1) := by decide +kernel
theorem dX11_move_1 : decode cX11_move 1 = .ok (.iconst 0, 1) := by decide +kernel
theorem dX11_move_2 : decode cX11_move 2 = .ok (.iconst 3, 1) := by decide +kernel
theorem dX11_move_3 : decode cX11_move 3 = .ok (.invokestatic 69, 3) := by decide +kernel
theorem dX11_move_6 : decode cX11_move 6 = .ok (.ifCond .ne 12, 3) := by decide +kernel
theorem dX11_move_9 : decode cX11_move 9 = .ok (.iload_n 3, 1) := by decide +kernel
theorem dX11_move_10 : decode cX11_move 10 = .ok (.iconst 0, 1) := by decide +kernel
theorem dX11_move_11 : decode cX11_move 11 = .ok (.iconst 3, 1) := by decide +kernel
theorem dX11_move_12 : decode cX11_move 12 = .ok (.invokestatic 69, 3) := by decide +kernel
theorem dX11_move_15 : decode cX11_move 15 = .ok (.ifCond .eq 10, 3) := by decide +kernel
theorem dX11_move_18 : decode cX11_move 18 = .ok (.aload_n 0, 1) := by decide +kernel
theorem dX11_move_19 : decode cX11_move 19 = .ok (.ldc 74, 2) := by decide +kernel
theorem dX11_move_21 : decode cX11_move 21 = .ok (.invokevirtual 75, 3) := by decide +kernel
theorem dX11_move_24 : decode cX11_move 24 = .ok (.ireturn, 1) := by decide +kernel
theorem dX11_move_25 : decode cX11_move 25 = .ok (.aload_n 0, 1) := by decide +kernel
theorem dX11_move_26 : decode cX11_move 26 = .ok (.getfield 60, 3) := by decide +kernel
theorem dX11_move_29 : decode cX11_move 29 = .ok (.iload_n 1, 1) := by decide +kernel
theorem dX11_move_30 : decode cX11_move 30 = .ok (.aaload, 1) := by decide +kernel
theorem dX11_move_31 : decode cX11_move 31 = .ok (.astore 6, 2) := by decide +kernel
theorem dX11_move_33 : decode cX11_move 33 = .ok (.aload_n 0, 1) := by decide +kernel
theorem dX11_move_34 : decode cX11_move 34 = .ok (.getfield 60, 3) := by decide +kernel
theorem dX11_move_37 : decode cX11_move 37 = .ok (.iload_n 3, 1) := by decide +kernel
theorem dX11_move_38 : decode cX11_move 38 = .ok (.aaload, 1) := by decide +kernel
theorem dX11_move_39 : decode cX11_move 39 = .ok (.astore 7, 2) := by decide +kernel
theorem dX11_move_41 : decode cX11_move 41 = .ok (.aload 6, 2) := by decide +kernel
theorem dX11_move_43 : decode cX11_move 43 = .ok (.getfield 359, 3) := by decide +kernel
theorem dX11_move_46 : decode cX11_move 46 = .ok (.ifCond .eq 11, 3) := by decide +kernel
theorem dX11_move_49 : decode cX11_move 49 = .ok (.aload 7, 2) := by decide +kernel
theorem dX11_move_51 : decode cX11_move 51 = .ok (.getfield 359, 3) := by decide +kernel
theorem dX11_move_54 : decode cX11_move 54 = .ok (.ifCond .ne 10, 3) := by decide +kernel
theorem dX11_move_57 : decode cX11_move 57 = .ok (.aload_n 0, 1) := by decide +kernel
theorem dX11_move_58 : decode cX11_move 58 = .ok (.ldc 248, 2) := by decide +kernel
theorem dX11_move_60 : decode cX11_move 60 = .ok (.invokevirtual 75, 3) := by decide +kernel
theorem dX11_move_63 : decode cX11_move 63 = .ok (.ireturn, 1) := by decide +kernel
theorem dX11_move_64 : decode cX11_move 64 = .ok (.aload 6, 2) := by decide +kernel
theorem dX11_move_66 : decode cX11_move 66 = .ok (.getfield 359, 3) := by decide +kernel
theorem dX11_move_69 : decode cX11_move 69 = .ok (.aload 7, 2) := by decide +kernel
theorem dX11_move_71 : decode cX11_move 71 = .ok (.getfield 359, 3) := by decide +kernel
theorem dX11_move_74 : decode cX11_move 74 = .ok (.if_icmp .eq 10, 3) := by decide +kernel
theorem dX11_move_77 : decode cX11_move 77 = .ok (.aload_n 0, 1) := by decide +kernel
theorem dX11_move_78 : decode cX11_move 78 = .ok (.ldc 133, 2) := by decide +kernel
theorem dX11_move_80 : decode cX11_move 80 = .ok (.invokevirtual 75, 3) := by decide +kernel
theorem dX11_move_83 : decode cX11_move 83 = .ok (.ireturn, 1) := by decide +kernel
theorem dX11_move_84 : decode cX11_move 84 = .ok (.aload 6, 2) := by decide +kernel
theorem dX11_move_86 : decode cX11_move 86 = .ok (.iload_n 2, 1) := by decide +kernel
theorem dX11_move_87 : decode cX11_move 87 = .ok (.iload 5, 2) := by decide +kernel
theorem dX11_move_89 : decode cX11_move 89 = .ok (.invokevirtual 396, 3) := by decide +kernel
theorem dX11_move_92 : decode cX11_move 92 = .ok (.ifCond .ne 15, 3) := by decide +kernel
theorem dX11_move_95 : decode cX11_move 95 = .ok (.aload 7, 2) := by decide +kernel
theorem dX11_move_97 : decode cX11_move 97 = .ok (.iload 4, 2) := by decide +kernel
theorem dX11_move_99 : decode cX11_move 99 = .ok (.iload 5, 2) := by decide +kernel
theorem dX11_move_101 : decode cX11_move 101 = .ok (.invokevirtual 396, 3) := by decide +kernel
theorem dX11_move_104 : decode cX11_move 104 = .ok (.ifCond .eq 10, 3) := by decide +kernel
theorem dX11_move_107 : decode cX11_move 107 = .ok (.aload_n 0, 1) := by decide +kernel
theorem dX11_move_108 : decode cX11_move 108 = .ok (.ldc 74, 2) := by decide +kernel
theorem dX11_move_110 : decode cX11_move 110 = .ok (.invokevirtual 75, 3) := by decide +kernel
theorem dX11_move_113 : decode cX11_move 113 = .ok (.ireturn, 1) := by decide +kernel
theorem dX11_move_114 : decode cX11_move 114 = .ok (.aload 6, 2) := by decide +kernel
theorem dX11_move_116 : decode cX11_move 116 = .ok (.getfield 390, 3) := by decide +kernel
theorem dX11_move_119 : decode cX11_move 119 = .ok (.iload_n 2, 1) := by decide +kernel
theorem dX11_move_120 : decode cX11_move 120 = .ok (.aload 7, 2) := by decide +kernel
theorem dX11_move_122 : decode cX11_move 122 = .ok (.getfield 390, 3) := by decide +kernel
theorem dX11_move_125 : decode cX11_move 125 = .ok (.iload 4, 2) := by decide +kernel
theorem dX11_move_127 : decode cX11_move 127 = .ok (.iload 5, 2) := by decide +kernel
theorem dX11_move_129 : decode cX11_move 129 = .ok (.invokestatic 399, 3) := by decide +kernel
theorem dX11_move_132 : decode cX11_move 132 = .ok (.iload 5, 2) := by decide +kernel
theorem dX11_move_134 : decode cX11_move 134 = .ok (.ireturn, 1) := by decide +kernel
theorem dX11_image_0 : decode cX11_image 0 = .ok (.aload_n 0, 1) := by decide +kernel
theorem dX11_image_1 : decode cX11_image 1 = .ok (.getfield 16, 3) := by decide +kernel
theorem dX11_image_4 : decode cX11_image 4 = .ok (.aload_n 0, 1) := by decide +kernel
theorem dX11_image_5 : decode cX11_image 5 = .ok (.getfield 12, 3) := by decide +kernel
theorem dX11_image_8 : decode cX11_image 8 = .ok (.invokevirtual 405, 3) := by decide +kernel
theorem dX11_image_11 : decode cX11_image 11 = .ok (.aload_n 0, 1) := by decide +kernel
theorem dX11_image_12 : decode cX11_image 12 = .ok (.dup, 1) := by decide +kernel
theorem dX11_image_13 : decode cX11_image 13 = .ok (.getfield 408, 3) := by decide +kernel
theorem dX11_image_16 : decode cX11_image 16 = .ok (.iconst 1, 1) := by decide +kernel
theorem dX11_image_17 : decode cX11_image 17 = .ok (.iadd, 1) := by decide +kernel
theorem dX11_image_18 : decode cX11_image 18 = .ok (.putfield 408, 3) := by decide +kernel
theorem dX11_image_21 : decode cX11_image 21 = .ok (.aload_n 0, 1) := by decide +kernel
theorem dX11_image_22 : decode cX11_image 22 = .ok (.getfield 408, 3) := by decide +kernel
theorem dX11_image_25 : decode cX11_image 25 = .ok (.ireturn, 1) := by decide +kernel
theorem dX11_restore_0 : decode cX11_restore 0 = .ok (.aload_n 0, 1) := by decide +kernel
theorem dX11_restore_1 : decode cX11_restore 1 = .ok (.getfield 408, 3) := by decide +kernel
theorem dX11_restore_4 : decode cX11_restore 4 = .ok (.ifCond .ne 10, 3) := by decide +kernel
theorem dX11_restore_7 : decode cX11_restore 7 = .ok (.aload_n 0, 1) := by decide +kernel
theorem dX11_restore_8 : decode cX11_restore 8 = .ok (.ldc 248, 2) := by decide +kernel
theorem dX11_restore_10 : decode cX11_restore 10 = .ok (.invokevirtual 75, 3) := by decide +kernel
theorem dX11_restore_13 : decode cX11_restore 13 = .ok (.ireturn, 1) := by decide +kernel
theorem dX11_restore_14 : decode cX11_restore 14 = .ok (.aload_n 0, 1) := by decide +kernel
theorem dX11_restore_15 : decode cX11_restore 15 = .ok (.getfield 12, 3) := by decide +kernel
theorem dX11_restore_18 : decode cX11_restore 18 = .ok (.aload_n 0, 1) := by decide +kernel
theorem dX11_restore_19 : decode cX11_restore 19 = .ok (.getfield 16, 3) := by decide +kernel
theorem dX11_restore_22 : decode cX11_restore 22 = .ok (.invokevirtual 405, 3) := by decide +kernel
theorem dX11_restore_25 : decode cX11_restore 25 = .ok (.aload_n 0, 1) := by decide +kernel
theorem dX11_restore_26 : decode cX11_restore 26 = .ok (.getfield 12, 3) := by decide +kernel
theorem dX11_restore_29 : decode cX11_restore 29 = .ok (.getfield 134, 3) := by decide +kernel
theorem dX11_restore_32 : decode cX11_restore 32 = .ok (.ireturn, 1) := by decide +kernel
theorem dX11_tell_0 : decode cX11_tell 0 = .ok (.aload_n 0, 1) := by decide +kernel
theorem dX11_tell_1 : decode cX11_tell 1 = .ok (.getfield 12, 3) := by decide +kernel
theorem dX11_tell_4 : decode cX11_tell 4 = .ok (.getfield 411, 3) := by decide +kernel
theorem dX11_tell_7 : decode cX11_tell 7 = .ok (.bipush 33, 2) := by decide +kernel
theorem dX11_tell_9 : decode cX11_tell 9 = .ok (.if_icmp .lt 10, 3) := by decide +kernel
theorem dX11_tell_12 : decode cX11_tell 12 = .ok (.aload_n 0, 1) := by decide +kernel
theorem dX11_tell_13 : decode cX11_tell 13 = .ok (.ldc 83, 2) := by decide +kernel
theorem dX11_tell_15 : decode cX11_tell 15 = .ok (.invokevirtual 75, 3) := by decide +kernel
theorem dX11_tell_18 : decode cX11_tell 18 = .ok (.ireturn, 1) := by decide +kernel
theorem dX11_tell_19 : decode cX11_tell 19 = .ok (.aload_n 0, 1) := by decide +kernel
theorem dX11_tell_20 : decode cX11_tell 20 = .ok (.getfield 12, 3) := by decide +kernel
theorem dX11_tell_23 : decode cX11_tell 23 = .ok (.getfield 414, 3) := by decide +kernel
theorem dX11_tell_26 : decode cX11_tell 26 = .ok (.aload_n 0, 1) := by decide +kernel
theorem dX11_tell_27 : decode cX11_tell 27 = .ok (.getfield 12, 3) := by decide +kernel
theorem dX11_tell_30 : decode cX11_tell 30 = .ok (.getfield 411, 3) := by decide +kernel
theorem dX11_tell_33 : decode cX11_tell 33 = .ok (.iload_n 1, 1) := by decide +kernel
theorem dX11_tell_34 : decode cX11_tell 34 = .ok (.iastore, 1) := by decide +kernel
theorem dX11_tell_35 : decode cX11_tell 35 = .ok (.aload_n 0, 1) := by decide +kernel
theorem dX11_tell_36 : decode cX11_tell 36 = .ok (.getfield 12, 3) := by decide +kernel
theorem dX11_tell_39 : decode cX11_tell 39 = .ok (.dup, 1) := by decide +kernel
theorem dX11_tell_40 : decode cX11_tell 40 = .ok (.getfield 411, 3) := by decide +kernel
theorem dX11_tell_43 : decode cX11_tell 43 = .ok (.iconst 1, 1) := by decide +kernel
theorem dX11_tell_44 : decode cX11_tell 44 = .ok (.iadd, 1) := by decide +kernel
theorem dX11_tell_45 : decode cX11_tell 45 = .ok (.putfield 411, 3) := by decide +kernel
theorem dX11_tell_48 : decode cX11_tell 48 = .ok (.aload_n 0, 1) := by decide +kernel
theorem dX11_tell_49 : decode cX11_tell 49 = .ok (.getfield 12, 3) := by decide +kernel
theorem dX11_tell_52 : decode cX11_tell 52 = .ok (.getfield 411, 3) := by decide +kernel
theorem dX11_tell_55 : decode cX11_tell 55 = .ok (.ireturn, 1) := by decide +kernel
theorem dX11_check_0 : decode cX11_check 0 = .ok (.aload_n 0, 1) := by decide +kernel
theorem dX11_check_1 : decode cX11_check 1 = .ok (.getfield 12, 3) := by decide +kernel
theorem dX11_check_4 : decode cX11_check 4 = .ok (.getfield 411, 3) := by decide +kernel
theorem dX11_check_7 : decode cX11_check 7 = .ok (.istore_n 2, 1) := by decide +kernel
theorem dX11_check_8 : decode cX11_check 8 = .ok (.aload_n 0, 1) := by decide +kernel
theorem dX11_check_9 : decode cX11_check 9 = .ok (.getfield 12, 3) := by decide +kernel
theorem dX11_check_12 : decode cX11_check 12 = .ok (.iconst 0, 1) := by decide +kernel
theorem dX11_check_13 : decode cX11_check 13 = .ok (.putfield 411, 3) := by decide +kernel
theorem dX11_check_16 : decode cX11_check 16 = .ok (.iload_n 1, 1) := by decide +kernel
theorem dX11_check_17 : decode cX11_check 17 = .ok (.iconst 0, 1) := by decide +kernel
theorem dX11_check_18 : decode cX11_check 18 = .ok (.bipush 33, 2) := by decide +kernel
theorem dX11_check_20 : decode cX11_check 20 = .ok (.invokestatic 69, 3) := by decide +kernel
theorem dX11_check_23 : decode cX11_check 23 = .ok (.ifCond .eq 10, 3) := by decide +kernel
theorem dX11_check_26 : decode cX11_check 26 = .ok (.aload_n 0, 1) := by decide +kernel
theorem dX11_check_27 : decode cX11_check 27 = .ok (.ldc 74, 2) := by decide +kernel
theorem dX11_check_29 : decode cX11_check 29 = .ok (.invokevirtual 75, 3) := by decide +kernel
theorem dX11_check_32 : decode cX11_check 32 = .ok (.ireturn, 1) := by decide +kernel
theorem dX11_check_33 : decode cX11_check 33 = .ok (.aload_n 0, 1) := by decide +kernel
theorem dX11_check_34 : decode cX11_check 34 = .ok (.getfield 40, 3) := by decide +kernel
theorem dX11_check_37 : decode cX11_check 37 = .ok (.aload_n 0, 1) := by decide +kernel
theorem dX11_check_38 : decode cX11_check 38 = .ok (.getfield 12, 3) := by decide +kernel
theorem dX11_check_41 : decode cX11_check 41 = .ok (.getfield 414, 3) := by decide +kernel
theorem dX11_check_44 : decode cX11_check 44 = .ok (.iload_n 2, 1) := by decide +kernel
theorem dX11_check_45 : decode cX11_check 45 = .ok (.invokevirtual 417, 3) := by decide +kernel
theorem dX11_check_48 : decode cX11_check 48 = .ok (.istore_n 3, 1) := by decide +kernel
theorem dX11_check_49 : decode cX11_check 49 = .ok (.iload_n 3, 1) := by decide +kernel
theorem dX11_check_50 : decode cX11_check 50 = .ok (.ifCond .lt 7, 3) := by decide +kernel
theorem dX11_check_53 : decode cX11_check 53 = .ok (.iconst 1, 1) := by decide +kernel
theorem dX11_check_54 : decode cX11_check 54 = .ok (.iload_n 3, 1) := by decide +kernel
theorem dX11_check_55 : decode cX11_check 55 = .ok (.iadd, 1) := by decide +kernel
theorem dX11_check_56 : decode cX11_check 56 = .ok (.ireturn, 1) := by decide +kernel
theorem dX11_check_57 : decode cX11_check 57 = .ok (.aload_n 0, 1) := by decide +kernel
theorem dX11_check_58 : decode cX11_check 58 = .ok (.getfield 40, 3) := by decide +kernel
theorem dX11_check_61 : decode cX11_check 61 = .ok (.iload_n 1, 1) := by decide +kernel
theorem dX11_check_62 : decode cX11_check 62 = .ok (.invokevirtual 312, 3) := by decide +kernel
theorem dX11_check_65 : decode cX11_check 65 = .ok (.aload_n 0, 1) := by decide +kernel
theorem dX11_check_66 : decode cX11_check 66 = .ok (.getfield 40, 3) := by decide +kernel
theorem dX11_check_69 : decode cX11_check 69 = .ok (.aload_n 0, 1) := by decide +kernel
theorem dX11_check_70 : decode cX11_check 70 = .ok (.getfield 12, 3) := by decide +kernel
theorem dX11_check_73 : decode cX11_check 73 = .ok (.getfield 414, 3) := by decide +kernel
theorem dX11_check_76 : decode cX11_check 76 = .ok (.iload_n 2, 1) := by decide +kernel
theorem dX11_check_77 : decode cX11_check 77 = .ok (.invokevirtual 421, 3) := by decide +kernel
theorem dX11_check_80 : decode cX11_check 80 = .ok (.aload_n 0, 1) := by decide +kernel
theorem dX11_check_81 : decode cX11_check 81 = .ok (.getfield 40, 3) := by decide +kernel
theorem dX11_check_84 : decode cX11_check 84 = .ok (.invokevirtual 425, 3) := by decide +kernel
theorem dX11_check_87 : decode cX11_check 87 = .ok (.ifCond .eq 7, 3) := by decide +kernel
theorem dX11_check_90 : decode cX11_check 90 = .ok (.iconst 0, 1) := by decide +kernel
theorem dX11_check_91 : decode cX11_check 91 = .ok (.goto 6, 3) := by decide +kernel
theorem dX11_check_94 : decode cX11_check 94 = .ok (.iconst 1, 1) := by decide +kernel
theorem dX11_check_95 : decode cX11_check 95 = .ok (.iload_n 2, 1) := by decide +kernel
theorem dX11_check_96 : decode cX11_check 96 = .ok (.iadd, 1) := by decide +kernel
theorem dX11_check_97 : decode cX11_check 97 = .ok (.ireturn, 1) := by decide +kernel
theorem dX11_count_0 : decode cX11_count 0 = .ok (.iload_n 1, 1) := by decide +kernel
theorem dX11_count_1 : decode cX11_count 1 = .ok (.tableswitch 123 0 8 #[51, 59, 67, 75, 83, 91, 99, 107, 115], 51) := by decide +kernel
theorem dX11_count_52 : decode cX11_count 52 = .ok (.aload_n 0, 1) := by decide +kernel
theorem dX11_count_53 : decode cX11_count 53 = .ok (.getfield 12, 3) := by decide +kernel
theorem dX11_count_56 : decode cX11_count 56 = .ok (.getfield 79, 3) := by decide +kernel
theorem dX11_count_59 : decode cX11_count 59 = .ok (.ireturn, 1) := by decide +kernel
theorem dX11_count_60 : decode cX11_count 60 = .ok (.aload_n 0, 1) := by decide +kernel
theorem dX11_count_61 : decode cX11_count 61 = .ok (.getfield 12, 3) := by decide +kernel
