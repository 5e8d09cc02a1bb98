theorem dX5_named_95 : decode cX5_named 95 = .ok (.iload_n 2, 1) := by decide +kernel
theorem dX5_named_96 : decode cX5_named 96 = .ok (.isub, 1) := by decide +kernel
theorem dX5_named_97 : decode cX5_named 97 = .ok (.invokevirtual 68, 3) := by decide +kernel
theorem dX5_named_100 : decode cX5_named 100 = .ok (.return_, 1) := by decide +kernel
theorem dX5_isWord_0 : decode cX5_isWord 0 = .ok (.aload_n 0, 1) := by decide +kernel
theorem dX5_isWord_1 : decode cX5_isWord 1 = .ok (.getfield 29, 3) := by decide +kernel
theorem dX5_isWord_4 : decode cX5_isWord 4 = .ok (.aload_n 0, 1) := by decide +kernel
theorem dX5_isWord_5 : decode cX5_isWord 5 = .ok (.getfield 48, 3) := by decide +kernel
theorem dX5_isWord_8 : decode cX5_isWord 8 = .ok (.isub, 1) := by decide +kernel
theorem dX5_isWord_9 : decode cX5_isWord 9 = .ok (.iconst 3, 1) := by decide +kernel
theorem dX5_isWord_10 : decode cX5_isWord 10 = .ok (.if_icmp .ne 50, 3) := by decide +kernel
theorem dX5_isWord_13 : decode cX5_isWord 13 = .ok (.aload_n 0, 1) := by decide +kernel
theorem dX5_isWord_14 : decode cX5_isWord 14 = .ok (.getfield 9, 3) := by decide +kernel
theorem dX5_isWord_17 : decode cX5_isWord 17 = .ok (.aload_n 0, 1) := by decide +kernel
theorem dX5_isWord_18 : decode cX5_isWord 18 = .ok (.getfield 48, 3) := by decide +kernel
theorem dX5_isWord_21 : decode cX5_isWord 21 = .ok (.iaload, 1) := by decide +kernel
theorem dX5_isWord_22 : decode cX5_isWord 22 = .ok (.iload_n 1, 1) := by decide +kernel
theorem dX5_isWord_23 : decode cX5_isWord 23 = .ok (.if_icmp .ne 37, 3) := by decide +kernel
theorem dX5_isWord_26 : decode cX5_isWord 26 = .ok (.aload_n 0, 1) := by decide +kernel
theorem dX5_isWord_27 : decode cX5_isWord 27 = .ok (.getfield 9, 3) := by decide +kernel
theorem dX5_isWord_30 : decode cX5_isWord 30 = .ok (.aload_n 0, 1) := by decide +kernel
theorem dX5_isWord_31 : decode cX5_isWord 31 = .ok (.getfield 48, 3) := by decide +kernel
theorem dX5_isWord_34 : decode cX5_isWord 34 = .ok (.iconst 1, 1) := by decide +kernel
theorem dX5_isWord_35 : decode cX5_isWord 35 = .ok (.iadd, 1) := by decide +kernel
theorem dX5_isWord_36 : decode cX5_isWord 36 = .ok (.iaload, 1) := by decide +kernel
theorem dX5_isWord_37 : decode cX5_isWord 37 = .ok (.iload_n 2, 1) := by decide +kernel
theorem dX5_isWord_38 : decode cX5_isWord 38 = .ok (.if_icmp .ne 22, 3) := by decide +kernel
theorem dX5_isWord_41 : decode cX5_isWord 41 = .ok (.aload_n 0, 1) := by decide +kernel
theorem dX5_isWord_42 : decode cX5_isWord 42 = .ok (.getfield 9, 3) := by decide +kernel
theorem dX5_isWord_45 : decode cX5_isWord 45 = .ok (.aload_n 0, 1) := by decide +kernel
theorem dX5_isWord_46 : decode cX5_isWord 46 = .ok (.getfield 48, 3) := by decide +kernel
theorem dX5_isWord_49 : decode cX5_isWord 49 = .ok (.iconst 2, 1) := by decide +kernel
theorem dX5_isWord_50 : decode cX5_isWord 50 = .ok (.iadd, 1) := by decide +kernel
theorem dX5_isWord_51 : decode cX5_isWord 51 = .ok (.iaload, 1) := by decide +kernel
theorem dX5_isWord_52 : decode cX5_isWord 52 = .ok (.iload_n 3, 1) := by decide +kernel
theorem dX5_isWord_53 : decode cX5_isWord 53 = .ok (.if_icmp .ne 7, 3) := by decide +kernel
theorem dX5_isWord_56 : decode cX5_isWord 56 = .ok (.iconst 1, 1) := by decide +kernel
theorem dX5_isWord_57 : decode cX5_isWord 57 = .ok (.goto 4, 3) := by decide +kernel
theorem dX5_isWord_60 : decode cX5_isWord 60 = .ok (.iconst 0, 1) := by decide +kernel
theorem dX5_isWord_61 : decode cX5_isWord 61 = .ok (.ireturn, 1) := by decide +kernel
theorem dX5_name_0 : decode cX5_name 0 = .ok (.aload_n 0, 1) := by decide +kernel
theorem dX5_name_1 : decode cX5_name 1 = .ok (.getfield 25, 3) := by decide +kernel
theorem dX5_name_4 : decode cX5_name 4 = .ok (.getfield 90, 3) := by decide +kernel
theorem dX5_name_7 : decode cX5_name 7 = .ok (.iconst 4, 1) := by decide +kernel
theorem dX5_name_8 : decode cX5_name 8 = .ok (.imul, 1) := by decide +kernel
theorem dX5_name_9 : decode cX5_name 9 = .ok (.istore_n 1, 1) := by decide +kernel
theorem dX5_name_10 : decode cX5_name 10 = .ok (.iconst 0, 1) := by decide +kernel
theorem dX5_name_11 : decode cX5_name 11 = .ok (.istore_n 2, 1) := by decide +kernel
theorem dX5_name_12 : decode cX5_name 12 = .ok (.iload_n 2, 1) := by decide +kernel
theorem dX5_name_13 : decode cX5_name 13 = .ok (.iconst 4, 1) := by decide +kernel
theorem dX5_name_14 : decode cX5_name 14 = .ok (.if_icmp .ge 66, 3) := by decide +kernel
theorem dX5_name_17 : decode cX5_name 17 = .ok (.aload_n 0, 1) := by decide +kernel
theorem dX5_name_18 : decode cX5_name 18 = .ok (.getfield 29, 3) := by decide +kernel
theorem dX5_name_21 : decode cX5_name 21 = .ok (.aload_n 0, 1) := by decide +kernel
theorem dX5_name_22 : decode cX5_name 22 = .ok (.getfield 48, 3) := by decide +kernel
theorem dX5_name_25 : decode cX5_name 25 = .ok (.isub, 1) := by decide +kernel
theorem dX5_name_26 : decode cX5_name 26 = .ok (.iconst 1, 1) := by decide +kernel
theorem dX5_name_27 : decode cX5_name 27 = .ok (.if_icmp .ne 53, 3) := by decide +kernel
theorem dX5_name_30 : decode cX5_name 30 = .ok (.iload_n 1, 1) := by decide +kernel
theorem dX5_name_31 : decode cX5_name 31 = .ok (.iload_n 2, 1) := by decide +kernel
theorem dX5_name_32 : decode cX5_name 32 = .ok (.iadd, 1) := by decide +kernel
theorem dX5_name_33 : decode cX5_name 33 = .ok (.getstatic 93, 3) := by decide +kernel
theorem dX5_name_36 : decode cX5_name 36 = .ok (.arraylength, 1) := by decide +kernel
theorem dX5_name_37 : decode cX5_name 37 = .ok (.if_icmp .ge 43, 3) := by decide +kernel
theorem dX5_name_40 : decode cX5_name 40 = .ok (.aload_n 0, 1) := by decide +kernel
theorem dX5_name_41 : decode cX5_name 41 = .ok (.getfield 9, 3) := by decide +kernel
theorem dX5_name_44 : decode cX5_name 44 = .ok (.aload_n 0, 1) := by decide +kernel
theorem dX5_name_45 : decode cX5_name 45 = .ok (.getfield 48, 3) := by decide +kernel
theorem dX5_name_48 : decode cX5_name 48 = .ok (.iaload, 1) := by decide +kernel
theorem dX5_name_49 : decode cX5_name 49 = .ok (.getstatic 93, 3) := by decide +kernel
theorem dX5_name_52 : decode cX5_name 52 = .ok (.iload_n 1, 1) := by decide +kernel
theorem dX5_name_53 : decode cX5_name 53 = .ok (.iload_n 2, 1) := by decide +kernel
theorem dX5_name_54 : decode cX5_name 54 = .ok (.iadd, 1) := by decide +kernel
theorem dX5_name_55 : decode cX5_name 55 = .ok (.caload, 1) := by decide +kernel
theorem dX5_name_56 : decode cX5_name 56 = .ok (.if_icmp .ne 18, 3) := by decide +kernel
theorem dX5_name_59 : decode cX5_name 59 = .ok (.aload_n 0, 1) := by decide +kernel
theorem dX5_name_60 : decode cX5_name 60 = .ok (.getfield 25, 3) := by decide +kernel
theorem dX5_name_63 : decode cX5_name 63 = .ok (.iconst (-1), 1) := by decide +kernel
theorem dX5_name_64 : decode cX5_name 64 = .ok (.iload_n 2, 1) := by decide +kernel
theorem dX5_name_65 : decode cX5_name 65 = .ok (.isub, 1) := by decide +kernel
theorem dX5_name_66 : decode cX5_name 66 = .ok (.invokevirtual 68, 3) := by decide +kernel
theorem dX5_name_69 : decode cX5_name 69 = .ok (.aload_n 0, 1) := by decide +kernel
theorem dX5_name_70 : decode cX5_name 70 = .ok (.invokevirtual 35, 3) := by decide +kernel
theorem dX5_name_73 : decode cX5_name 73 = .ok (.return_, 1) := by decide +kernel
theorem dX5_name_74 : decode cX5_name 74 = .ok (.iinc 2 1, 3) := by decide +kernel
theorem dX5_name_77 : decode cX5_name 77 = .ok (.goto (-65), 3) := by decide +kernel
theorem dX5_name_80 : decode cX5_name 80 = .ok (.aload_n 0, 1) := by decide +kernel
theorem dX5_name_81 : decode cX5_name 81 = .ok (.invokevirtual 45, 3) := by decide +kernel
theorem dX5_name_84 : decode cX5_name 84 = .ok (.return_, 1) := by decide +kernel
theorem dX5_expect_0 : decode cX5_expect 0 = .ok (.aload_n 0, 1) := by decide +kernel
theorem dX5_expect_1 : decode cX5_expect 1 = .ok (.getfield 32, 3) := by decide +kernel
theorem dX5_expect_4 : decode cX5_expect 4 = .ok (.ifCond .ge 23, 3) := by decide +kernel
theorem dX5_expect_7 : decode cX5_expect 7 = .ok (.aload_n 0, 1) := by decide +kernel
theorem dX5_expect_8 : decode cX5_expect 8 = .ok (.getfield 42, 3) := by decide +kernel
theorem dX5_expect_11 : decode cX5_expect 11 = .ok (.iload_n 1, 1) := by decide +kernel
theorem dX5_expect_12 : decode cX5_expect 12 = .ok (.if_icmp .ne 15, 3) := by decide +kernel
theorem dX5_expect_15 : decode cX5_expect 15 = .ok (.iload_n 2, 1) := by decide +kernel
theorem dX5_expect_16 : decode cX5_expect 16 = .ok (.iconst 5, 1) := by decide +kernel
theorem dX5_expect_17 : decode cX5_expect 17 = .ok (.if_icmp .ge 10, 3) := by decide +kernel
theorem dX5_expect_20 : decode cX5_expect 20 = .ok (.aload_n 0, 1) := by decide +kernel
theorem dX5_expect_21 : decode cX5_expect 21 = .ok (.invokevirtual 35, 3) := by decide +kernel
theorem dX5_expect_24 : decode cX5_expect 24 = .ok (.goto 7, 3) := by decide +kernel
theorem dX5_expect_27 : decode cX5_expect 27 = .ok (.aload_n 0, 1) := by decide +kernel
theorem dX5_expect_28 : decode cX5_expect 28 = .ok (.invokevirtual 45, 3) := by decide +kernel
theorem dX5_expect_31 : decode cX5_expect 31 = .ok (.return_, 1) := by decide +kernel
theorem dX6_init_0 : decode cX6_init 0 = .ok (.aload_n 0, 1) := by decide +kernel
theorem dX6_init_1 : decode cX6_init 1 = .ok (.invokespecial 3, 3) := by decide +kernel
theorem dX6_init_4 : decode cX6_init 4 = .ok (.aload_n 0, 1) := by decide +kernel
theorem dX6_init_5 : decode cX6_init 5 = .ok (.bipush 24, 2) := by decide +kernel
theorem dX6_init_7 : decode cX6_init 7 = .ok (.newarray .int, 2) := by decide +kernel
theorem dX6_init_9 : decode cX6_init 9 = .ok (.putfield 9, 3) := by decide +kernel
theorem dX6_init_12 : decode cX6_init 12 = .ok (.aload_n 0, 1) := by decide +kernel
theorem dX6_init_13 : decode cX6_init 13 = .ok (.sipush 384, 3) := by decide +kernel
theorem dX6_init_16 : decode cX6_init 16 = .ok (.newarray .int, 2) := by decide +kernel
theorem dX6_init_18 : decode cX6_init 18 = .ok (.putfield 15, 3) := by decide +kernel
theorem dX6_init_21 : decode cX6_init 21 = .ok (.return_, 1) := by decide +kernel
theorem dX6_become_0 : decode cX6_become 0 = .ok (.aload_n 0, 1) := by decide +kernel
theorem dX6_become_1 : decode cX6_become 1 = .ok (.iload_n 1, 1) := by decide +kernel
theorem dX6_become_2 : decode cX6_become 2 = .ok (.putfield 18, 3) := by decide +kernel
theorem dX6_become_5 : decode cX6_become 5 = .ok (.aload_n 0, 1) := by decide +kernel
theorem dX6_become_6 : decode cX6_become 6 = .ok (.iload_n 2, 1) := by decide +kernel
theorem dX6_become_7 : decode cX6_become 7 = .ok (.putfield 22, 3) := by decide +kernel
theorem dX6_become_10 : decode cX6_become 10 = .ok (.aload_n 0, 1) := by decide +kernel
theorem dX6_become_11 : decode cX6_become 11 = .ok (.getfield 9, 3) := by decide +kernel
theorem dX6_become_14 : decode cX6_become 14 = .ok (.iconst 0, 1) := by decide +kernel
theorem dX6_become_15 : decode cX6_become 15 = .ok (.invokestatic 25, 3) := by decide +kernel
theorem dX6_become_18 : decode cX6_become 18 = .ok (.return_, 1) := by decide +kernel
theorem dX6_cut_0 : decode cX6_cut 0 = .ok (.aload_n 0, 1) := by decide +kernel
theorem dX6_cut_1 : decode cX6_cut 1 = .ok (.getfield 18, 3) := by decide +kernel
theorem dX6_cut_4 : decode cX6_cut 4 = .ok (.lookupswitch 34 #[(8, 28), (16, 31)], 28) := by decide +kernel
theorem dX6_cut_32 : decode cX6_cut 32 = .ok (.iload_n 1, 1) := by decide +kernel
theorem dX6_cut_33 : decode cX6_cut 33 = .ok (.i2b, 1) := by decide +kernel
theorem dX6_cut_34 : decode cX6_cut 34 = .ok (.ireturn, 1) := by decide +kernel
theorem dX6_cut_35 : decode cX6_cut 35 = .ok (.iload_n 1, 1) := by decide +kernel
theorem dX6_cut_36 : decode cX6_cut 36 = .ok (.i2s, 1) := by decide +kernel
theorem dX6_cut_37 : decode cX6_cut 37 = .ok (.ireturn, 1) := by decide +kernel
theorem dX6_cut_38 : decode cX6_cut 38 = .ok (.iload_n 1, 1) := by decide +kernel
theorem dX6_cut_39 : decode cX6_cut 39 = .ok (.ireturn, 1) := by decide +kernel
theorem dX6_lacks_0 : decode cX6_lacks 0 = .ok (.iload_n 1, 1) := by decide +kernel
theorem dX6_lacks_1 : decode cX6_lacks 1 = .ok (.ifCond .lt 25, 3) := by decide +kernel
theorem dX6_lacks_4 : decode cX6_lacks 4 = .ok (.iload_n 2, 1) := by decide +kernel
theorem dX6_lacks_5 : decode cX6_lacks 5 = .ok (.ifCond .lt 21, 3) := by decide +kernel
theorem dX6_lacks_8 : decode cX6_lacks 8 = .ok (.iload_n 2, 1) := by decide +kernel
theorem dX6_lacks_9 : decode cX6_lacks 9 = .ok (.aload_n 0, 1) := by decide +kernel
theorem dX6_lacks_10 : decode cX6_lacks 10 = .ok (.getfield 22, 3) := by decide +kernel
theorem dX6_lacks_13 : decode cX6_lacks 13 = .ok (.if_icmp .gt 13, 3) := by decide +kernel
theorem dX6_lacks_16 : decode cX6_lacks 16 = .ok (.iload_n 1, 1) := by decide +kernel
theorem dX6_lacks_17 : decode cX6_lacks 17 = .ok (.aload_n 0, 1) := by decide +kernel
theorem dX6_lacks_18 : decode cX6_lacks 18 = .ok (.getfield 22, 3) := by decide +kernel
theorem dX6_lacks_21 : decode cX6_lacks 21 = .ok (.iload_n 2, 1) := by decide +kernel
theorem dX6_lacks_22 : decode cX6_lacks 22 = .ok (.isub, 1) := by decide +kernel
theorem dX6_lacks_23 : decode cX6_lacks 23 = .ok (.if_icmp .le 7, 3) := by decide +kernel
theorem dX6_lacks_26 : decode cX6_lacks 26 = .ok (.iconst 1, 1) := by decide +kernel
theorem dX6_lacks_27 : decode cX6_lacks 27 = .ok (.goto 4, 3) := by decide +kernel
theorem dX6_lacks_30 : decode cX6_lacks 30 = .ok (.iconst 0, 1) := by decide +kernel
theorem dX6_lacks_31 : decode cX6_lacks 31 = .ok (.ireturn, 1) := by decide +kernel
theorem dX6_cars_0 : decode cX6_cars 0 = .ok (.aload_n 0, 1) := by decide +kernel
theorem dX6_cars_1 : decode cX6_cars 1 = .ok (.getfield 22, 3) := by decide +kernel
theorem dX6_cars_4 : decode cX6_cars 4 = .ok (.iconst 2, 1) := by decide +kernel
theorem dX6_cars_5 : decode cX6_cars 5 = .ok (.idiv, 1) := by decide +kernel
theorem dX6_cars_6 : decode cX6_cars 6 = .ok (.bipush 6, 2) := by decide +kernel
theorem dX6_cars_8 : decode cX6_cars 8 = .ok (.invokestatic 31, 3) := by decide +kernel
theorem dX6_cars_11 : decode cX6_cars 11 = .ok (.ireturn, 1) := by decide +kernel
theorem dX6_orders_0 : decode cX6_orders 0 = .ok (.aload_n 0, 1) := by decide +kernel
theorem dX6_orders_1 : decode cX6_orders 1 = .ok (.invokevirtual 37, 3) := by decide +kernel
theorem dX6_orders_4 : decode cX6_orders 4 = .ok (.istore_n 2, 1) := by decide +kernel
theorem dX6_orders_5 : decode cX6_orders 5 = .ok (.iconst 1, 1) := by decide +kernel
theorem dX6_orders_6 : decode cX6_orders 6 = .ok (.iload_n 2, 1) := by decide +kernel
theorem dX6_orders_7 : decode cX6_orders 7 = .ok (.ishl, 1) := by decide +kernel
theorem dX6_orders_8 : decode cX6_orders 8 = .ok (.iconst 1, 1) := by decide +kernel
theorem dX6_orders_9 : decode cX6_orders 9 = .ok (.isub, 1) := by decide +kernel
theorem dX6_orders_10 : decode cX6_orders 10 = .ok (.istore_n 3, 1) := by decide +kernel
theorem dX6_orders_11 : decode cX6_orders 11 = .ok (.iload_n 3, 1) := by decide +kernel
theorem dX6_orders_12 : decode cX6_orders 12 = .ok (.ifCond .le 45, 3) := by decide +kernel
theorem dX6_orders_15 : decode cX6_orders 15 = .ok (.iconst 0, 1) := by decide +kernel
theorem dX6_orders_16 : decode cX6_orders 16 = .ok (.istore 4, 2) := by decide +kernel
theorem dX6_orders_18 : decode cX6_orders 18 = .ok (.iload 4, 2) := by decide +kernel
theorem dX6_orders_20 : decode cX6_orders 20 = .ok (.iload_n 2, 1) := by decide +kernel
theorem dX6_orders_21 : decode cX6_orders 21 = .ok (.if_icmp .ge 30, 3) := by decide +kernel
theorem dX6_orders_24 : decode cX6_orders 24 = .ok (.aload_n 0, 1) := by decide +kernel
theorem dX6_orders_25 : decode cX6_orders 25 = .ok (.getfield 15, 3) := by decide +kernel
theorem dX6_orders_28 : decode cX6_orders 28 = .ok (.iload_n 3, 1) := by decide +kernel
theorem dX6_orders_29 : decode cX6_orders 29 = .ok (.bipush 6, 2) := by decide +kernel
theorem dX6_orders_31 : decode cX6_orders 31 = .ok (.imul, 1) := by decide +kernel
theorem dX6_orders_32 : decode cX6_orders 32 = .ok (.iload 4, 2) := by decide +kernel
theorem dX6_orders_34 : decode cX6_orders 34 = .ok (.iadd, 1) := by decide +kernel
theorem dX6_orders_35 : decode cX6_orders 35 = .ok (.aload_n 0, 1) := by decide +kernel
theorem dX6_orders_36 : decode cX6_orders 36 = .ok (.iload_n 3, 1) := by decide +kernel
theorem dX6_orders_37 : decode cX6_orders 37 = .ok (.iload 4, 2) := by decide +kernel
theorem dX6_orders_39 : decode cX6_orders 39 = .ok (.iload_n 2, 1) := by decide +kernel
theorem dX6_orders_40 : decode cX6_orders 40 = .ok (.iload_n 1, 1) := by decide +kernel
theorem dX6_orders_41 : decode cX6_orders 41 = .ok (.invokevirtual 41, 3) := by decide +kernel
theorem dX6_orders_44 : decode cX6_orders 44 = .ok (.iastore, 1) := by decide +kernel
theorem dX6_orders_45 : decode cX6_orders 45 = .ok (.iinc 4 1, 3) := by decide +kernel
theorem dX6_orders_48 : decode cX6_orders 48 = .ok (.goto (-30), 3) := by decide +kernel
theorem dX6_orders_51 : decode cX6_orders 51 = .ok (.iinc 3 (-1), 3) := by decide +kernel
theorem dX6_orders_54 : decode cX6_orders 54 = .ok (.goto (-43), 3) := by decide +kernel
theorem dX6_orders_57 : decode cX6_orders 57 = .ok (.iconst 0, 1) := by decide +kernel
theorem dX6_orders_58 : decode cX6_orders 58 = .ok (.istore_n 3, 1) := by decide +kernel
theorem dX6_orders_59 : decode cX6_orders 59 = .ok (.iconst 0, 1) := by decide +kernel
theorem dX6_orders_60 : decode cX6_orders 60 = .ok (.istore 4, 2) := by decide +kernel
theorem dX6_orders_62 : decode cX6_orders 62 = .ok (.iload 4, 2) := by decide +kernel
theorem dX6_orders_64 : decode cX6_orders 64 = .ok (.iload_n 2, 1) := by decide +kernel
theorem dX6_orders_65 : decode cX6_orders 65 = .ok (.if_icmp .ge 27, 3) := by decide +kernel
theorem dX6_orders_68 : decode cX6_orders 68 = .ok (.iload_n 3, 1) := by decide +kernel
theorem dX6_orders_69 : decode cX6_orders 69 = .ok (.aload_n 0, 1) := by decide +kernel
theorem dX6_orders_70 : decode cX6_orders 70 = .ok (.getfield 15, 3) := by decide +kernel
theorem dX6_orders_73 : decode cX6_orders 73 = .ok (.iconst 1, 1) := by decide +kernel
theorem dX6_orders_74 : decode cX6_orders 74 = .ok (.iload 4, 2) := by decide +kernel
theorem dX6_orders_76 : decode cX6_orders 76 = .ok (.ishl, 1) := by decide +kernel
theorem dX6_orders_77 : decode cX6_orders 77 = .ok (.bipush 6, 2) := by decide +kernel
theorem dX6_orders_79 : decode cX6_orders 79 = .ok (.imul, 1) := by decide +kernel
theorem dX6_orders_80 : decode cX6_orders 80 = .ok (.iload 4, 2) := by decide +kernel
theorem dX6_orders_82 : decode cX6_orders 82 = .ok (.iadd, 1) := by decide +kernel
theorem dX6_orders_83 : decode cX6_orders 83 = .ok (.iaload, 1) := by decide +kernel
theorem dX6_orders_84 : decode cX6_orders 84 = .ok (.iadd, 1) := by decide +kernel
theorem dX6_orders_85 : decode cX6_orders 85 = .ok (.istore_n 3, 1) := by decide +kernel
theorem dX6_orders_86 : decode cX6_orders 86 = .ok (.iinc 4 1, 3) := by decide +kernel
theorem dX6_orders_89 : decode cX6_orders 89 = .ok (.goto (-27), 3) := by decide +kernel
theorem dX6_orders_92 : decode cX6_orders 92 = .ok (.iload_n 3, 1) := by decide +kernel
theorem dX6_orders_93 : decode cX6_orders 93 = .ok (.ireturn, 1) := by decide +kernel
theorem dX6_waysBehind_0 : decode cX6_waysBehind 0 = .ok (.iload_n 1, 1) := by decide +kernel
theorem dX6_waysBehind_1 : decode cX6_waysBehind 1 = .ok (.iconst 1, 1) := by decide +kernel
theorem dX6_waysBehind_2 : decode cX6_waysBehind 2 = .ok (.iload_n 3, 1) := by decide +kernel
theorem dX6_waysBehind_3 : decode cX6_waysBehind 3 = .ok (.ishl, 1) := by decide +kernel
theorem dX6_waysBehind_4 : decode cX6_waysBehind 4 = .ok (.iconst 1, 1) := by decide +kernel
theorem dX6_waysBehind_5 : decode cX6_waysBehind 5 = .ok (.isub, 1) := by decide +kernel
theorem dX6_waysBehind_6 : decode cX6_waysBehind 6 = .ok (.if_icmp .ne 5, 3) := by decide +kernel
theorem dX6_waysBehind_9 : decode cX6_waysBehind 9 = .ok (.iconst 1, 1) := by decide +kernel
theorem dX6_waysBehind_10 : decode cX6_waysBehind 10 = .ok (.ireturn, 1) := by decide +kernel
theorem dX6_waysBehind_11 : decode cX6_waysBehind 11 = .ok (.iconst 0, 1) := by decide +kernel
theorem dX6_waysBehind_12 : decode cX6_waysBehind 12 = .ok (.istore 5, 2) := by decide +kernel
theorem dX6_waysBehind_14 : decode cX6_waysBehind 14 = .ok (.iconst 0, 1) := by decide +kernel
theorem dX6_waysBehind_15 : decode cX6_waysBehind 15 = .ok (.istore 6, 2) := by decide +kernel
theorem dX6_waysBehind_17 : decode cX6_waysBehind 17 = .ok (.iload 6, 2) := by decide +kernel
theorem dX6_waysBehind_19 : decode cX6_waysBehind 19 = .ok (.iload_n 3, 1) := by decide +kernel
theorem dX6_waysBehind_20 : decode cX6_waysBehind 20 = .ok (.if_icmp .ge 52, 3) := by decide +kernel
theorem dX6_waysBehind_23 : decode cX6_waysBehind 23 = .ok (.iload_n 1, 1) := by decide +kernel
theorem dX6_waysBehind_24 : decode cX6_waysBehind 24 = .ok (.iload 6, 2) := by decide +kernel
theorem dX6_waysBehind_26 : decode cX6_waysBehind 26 = .ok (.ishr, 1) := by decide +kernel
theorem dX6_waysBehind_27 : decode cX6_waysBehind 27 = .ok (.iconst 1, 1) := by decide +kernel
theorem dX6_waysBehind_28 : decode cX6_waysBehind 28 = .ok (.iand, 1) := by decide +kernel
theorem dX6_waysBehind_29 : decode cX6_waysBehind 29 = .ok (.ifCond .ne 37, 3) := by decide +kernel
theorem dX6_waysBehind_32 : decode cX6_waysBehind 32 = .ok (.aload_n 0, 1) := by decide +kernel
theorem dX6_waysBehind_33 : decode cX6_waysBehind 33 = .ok (.iload_n 2, 1) := by decide +kernel
theorem dX6_waysBehind_34 : decode cX6_waysBehind 34 = .ok (.iload 6, 2) := by decide +kernel
theorem dX6_waysBehind_36 : decode cX6_waysBehind 36 = .ok (.iload 4, 2) := by decide +kernel
theorem dX6_waysBehind_38 : decode cX6_waysBehind 38 = .ok (.invokevirtual 45, 3) := by decide +kernel
theorem dX6_waysBehind_41 : decode cX6_waysBehind 41 = .ok (.ifCond .eq 25, 3) := by decide +kernel
theorem dX6_waysBehind_44 : decode cX6_waysBehind 44 = .ok (.iload 5, 2) := by decide +kernel
theorem dX6_waysBehind_46 : decode cX6_waysBehind 46 = .ok (.aload_n 0, 1) := by decide +kernel
theorem dX6_waysBehind_47 : decode cX6_waysBehind 47 = .ok (.getfield 15, 3) := by decide +kernel
theorem dX6_waysBehind_50 : decode cX6_waysBehind 50 = .ok (.iload_n 1, 1) := by decide +kernel
theorem dX6_waysBehind_51 : decode cX6_waysBehind 51 = .ok (.iconst 1, 1) := by decide +kernel
theorem dX6_waysBehind_52 : decode cX6_waysBehind 52 = .ok (.iload 6, 2) := by decide +kernel
theorem dX6_waysBehind_54 : decode cX6_waysBehind 54 = .ok (.ishl, 1) := by decide +kernel
theorem dX6_waysBehind_55 : decode cX6_waysBehind 55 = .ok (.ior, 1) := by decide +kernel
theorem dX6_waysBehind_56 : decode cX6_waysBehind 56 = .ok (.bipush 6, 2) := by decide +kernel
theorem dX6_waysBehind_58 : decode cX6_waysBehind 58 = .ok (.imul, 1) := by decide +kernel
theorem dX6_waysBehind_59 : decode cX6_waysBehind 59 = .ok (.iload 6, 2) := by decide +kernel
theorem dX6_waysBehind_61 : decode cX6_waysBehind 61 = .ok (.iadd, 1) := by decide +kernel
theorem dX6_waysBehind_62 : decode cX6_waysBehind 62 = .ok (.iaload, 1) := by decide +kernel
theorem dX6_waysBehind_63 : decode cX6_waysBehind 63 = .ok (.iadd, 1) := by decide +kernel
theorem dX6_waysBehind_64 : decode cX6_waysBehind 64 = .ok (.istore 5, 2) := by decide +kernel
theorem dX6_waysBehind_66 : decode cX6_waysBehind 66 = .ok (.iinc 6 1, 3) := by decide +kernel
theorem dX6_waysBehind_69 : decode cX6_waysBehind 69 = .ok (.goto (-52), 3) := by decide +kernel
theorem dX6_waysBehind_72 : decode cX6_waysBehind 72 = .ok (.iload 5, 2) := by decide +kernel
theorem dX6_waysBehind_74 : decode cX6_waysBehind 74 = .ok (.ireturn, 1) := by decide +kernel
theorem dX6_drivesInto_0 : decode cX6_drivesInto 0 = .ok (.aload_n 0, 1) := by decide +kernel
theorem dX6_drivesInto_1 : decode cX6_drivesInto 1 = .ok (.getfield 9, 3) := by decide +kernel
theorem dX6_drivesInto_4 : decode cX6_drivesInto 4 = .ok (.iconst 2, 1) := by decide +kernel
theorem dX6_drivesInto_5 : decode cX6_drivesInto 5 = .ok (.iload_n 1, 1) := by decide +kernel
theorem dX6_drivesInto_6 : decode cX6_drivesInto 6 = .ok (.imul, 1) := by decide +kernel
theorem dX6_drivesInto_7 : decode cX6_drivesInto 7 = .ok (.iaload, 1) := by decide +kernel
theorem dX6_drivesInto_8 : decode cX6_drivesInto 8 = .ok (.i2l, 1) := by decide +kernel
theorem dX6_drivesInto_9 : decode cX6_drivesInto 9 = .ok (.aload_n 0, 1) := by decide +kernel
theorem dX6_drivesInto_10 : decode cX6_drivesInto 10 = .ok (.getfield 9, 3) := by decide +kernel
theorem dX6_drivesInto_13 : decode cX6_drivesInto 13 = .ok (.iconst 2, 1) := by decide +kernel
theorem dX6_drivesInto_14 : decode cX6_drivesInto 14 = .ok (.iload_n 2, 1) := by decide +kernel
theorem dX6_drivesInto_15 : decode cX6_drivesInto 15 = .ok (.imul, 1) := by decide +kernel
theorem dX6_drivesInto_16 : decode cX6_drivesInto 16 = .ok (.iconst 1, 1) := by decide +kernel
theorem dX6_drivesInto_17 : decode cX6_drivesInto 17 = .ok (.iadd, 1) := by decide +kernel
theorem dX6_drivesInto_18 : decode cX6_drivesInto 18 = .ok (.iaload, 1) := by decide +kernel
theorem dX6_drivesInto_19 : decode cX6_drivesInto 19 = .ok (.i2l, 1) := by decide +kernel
theorem dX6_drivesInto_20 : decode cX6_drivesInto 20 = .ok (.lsub, 1) := by decide +kernel
theorem dX6_drivesInto_21 : decode cX6_drivesInto 21 = .ok (.invokestatic 49, 3) := by decide +kernel
theorem dX6_drivesInto_24 : decode cX6_drivesInto 24 = .ok (.iload_n 3, 1) := by decide +kernel
theorem dX6_drivesInto_25 : decode cX6_drivesInto 25 = .ok (.i2l, 1) := by decide +kernel
theorem dX6_drivesInto_26 : decode cX6_drivesInto 26 = .ok (.lcmp, 1) := by decide +kernel
theorem dX6_drivesInto_27 : decode cX6_drivesInto 27 = .ok (.ifCond .gt 7, 3) := by decide +kernel
theorem dX6_drivesInto_30 : decode cX6_drivesInto 30 = .ok (.iconst 1, 1) := by decide +kernel
theorem dX6_drivesInto_31 : decode cX6_drivesInto 31 = .ok (.goto 4, 3) := by decide +kernel
theorem dX6_drivesInto_34 : decode cX6_drivesInto 34 = .ok (.iconst 0, 1) := by decide +kernel
theorem dX6_drivesInto_35 : decode cX6_drivesInto 35 = .ok (.ireturn, 1) := by decide +kernel
theorem dX6_carAt_0 : decode cX6_carAt 0 = .ok (.iconst 0, 1) := by decide +kernel
theorem dX6_carAt_1 : decode cX6_carAt 1 = .ok (.istore_n 3, 1) := by decide +kernel
theorem dX6_carAt_2 : decode cX6_carAt 2 = .ok (.iconst (-1), 1) := by decide +kernel
theorem dX6_carAt_3 : decode cX6_carAt 3 = .ok (.istore 4, 2) := by decide +kernel
theorem dX6_carAt_5 : decode cX6_carAt 5 = .ok (.iconst 0, 1) := by decide +kernel
theorem dX6_carAt_6 : decode cX6_carAt 6 = .ok (.istore 5, 2) := by decide +kernel
theorem dX6_carAt_8 : decode cX6_carAt 8 = .ok (.iload 5, 2) := by decide +kernel
theorem dX6_carAt_10 : decode cX6_carAt 10 = .ok (.iload_n 1, 1) := by decide +kernel
theorem dX6_carAt_11 : decode cX6_carAt 11 = .ok (.if_icmp .gt 33, 3) := by decide +kernel
theorem dX6_carAt_14 : decode cX6_carAt 14 = .ok (.iload 5, 2) := by decide +kernel
theorem dX6_carAt_16 : decode cX6_carAt 16 = .ok (.bipush 6, 2) := by decide +kernel
theorem dX6_carAt_18 : decode cX6_carAt 18 = .ok (.if_icmp .ge 26, 3) := by decide +kernel
theorem dX6_carAt_21 : decode cX6_carAt 21 = .ok (.aload_n 0, 1) := by decide +kernel
theorem dX6_carAt_22 : decode cX6_carAt 22 = .ok (.iload_n 3, 1) := by decide +kernel
theorem dX6_carAt_23 : decode cX6_carAt 23 = .ok (.iload 4, 2) := by decide +kernel
theorem dX6_carAt_25 : decode cX6_carAt 25 = .ok (.iload_n 2, 1) := by decide +kernel
theorem dX6_carAt_26 : decode cX6_carAt 26 = .ok (.invokevirtual 53, 3) := by decide +kernel
theorem dX6_carAt_29 : decode cX6_carAt 29 = .ok (.istore 4, 2) := by decide +kernel
theorem dX6_carAt_31 : decode cX6_carAt 31 = .ok (.iload_n 3, 1) := by decide +kernel
theorem dX6_carAt_32 : decode cX6_carAt 32 = .ok (.iconst 1, 1) := by decide +kernel
theorem dX6_carAt_33 : decode cX6_carAt 33 = .ok (.iload 4, 2) := by decide +kernel
theorem dX6_carAt_35 : decode cX6_carAt 35 = .ok (.ishl, 1) := by decide +kernel
theorem dX6_carAt_36 : decode cX6_carAt 36 = .ok (.ior, 1) := by decide +kernel
theorem dX6_carAt_37 : decode cX6_carAt 37 = .ok (.istore_n 3, 1) := by decide +kernel
theorem dX6_carAt_38 : decode cX6_carAt 38 = .ok (.iinc 5 1, 3) := by decide +kernel
theorem dX6_carAt_41 : decode cX6_carAt 41 = .ok (.goto (-33), 3) := by decide +kernel
theorem dX6_carAt_44 : decode cX6_carAt 44 = .ok (.iload 4, 2) := by decide +kernel
theorem dX6_carAt_46 : decode cX6_carAt 46 = .ok (.ireturn, 1) := by decide +kernel
theorem dX6_firstBehind_0 : decode cX6_firstBehind 0 = .ok (.iconst 0, 1) := by decide +kernel
theorem dX6_firstBehind_1 : decode cX6_firstBehind 1 = .ok (.istore 4, 2) := by decide +kernel
theorem dX6_firstBehind_3 : decode cX6_firstBehind 3 = .ok (.iload 4, 2) := by decide +kernel
theorem dX6_firstBehind_5 : decode cX6_firstBehind 5 = .ok (.aload_n 0, 1) := by decide +kernel
theorem dX6_firstBehind_6 : decode cX6_firstBehind 6 = .ok (.invokevirtual 37, 3) := by decide +kernel
theorem dX6_firstBehind_9 : decode cX6_firstBehind 9 = .ok (.if_icmp .ge 56, 3) := by decide +kernel
theorem dX6_firstBehind_12 : decode cX6_firstBehind 12 = .ok (.iload_n 1, 1) := by decide +kernel
theorem dX6_firstBehind_13 : decode cX6_firstBehind 13 = .ok (.iload 4, 2) := by decide +kernel
theorem dX6_firstBehind_15 : decode cX6_firstBehind 15 = .ok (.ishr, 1) := by decide +kernel
theorem dX6_firstBehind_16 : decode cX6_firstBehind 16 = .ok (.iconst 1, 1) := by decide +kernel
theorem dX6_firstBehind_17 : decode cX6_firstBehind 17 = .ok (.iand, 1) := by decide +kernel
theorem dX6_firstBehind_18 : decode cX6_firstBehind 18 = .ok (.ifCond .ne 41, 3) := by decide +kernel
theorem dX6_firstBehind_21 : decode cX6_firstBehind 21 = .ok (.iload_n 2, 1) := by decide +kernel
theorem dX6_firstBehind_22 : decode cX6_firstBehind 22 = .ok (.ifCond .lt 14, 3) := by decide +kernel
theorem dX6_firstBehind_25 : decode cX6_firstBehind 25 = .ok (.aload_n 0, 1) := by decide +kernel
theorem dX6_firstBehind_26 : decode cX6_firstBehind 26 = .ok (.iload_n 2, 1) := by decide +kernel
theorem dX6_firstBehind_27 : decode cX6_firstBehind 27 = .ok (.iload 4, 2) := by decide +kernel
theorem dX6_firstBehind_29 : decode cX6_firstBehind 29 = .ok (.iload_n 3, 1) := by decide +kernel
theorem dX6_firstBehind_30 : decode cX6_firstBehind 30 = .ok (.invokevirtual 45, 3) := by decide +kernel
theorem dX6_firstBehind_33 : decode cX6_firstBehind 33 = .ok (.ifCond .eq 26, 3) := by decide +kernel
theorem dX6_firstBehind_36 : decode cX6_firstBehind 36 = .ok (.aload_n 0, 1) := by decide +kernel
theorem dX6_firstBehind_37 : decode cX6_firstBehind 37 = .ok (.getfield 15, 3) := by decide +kernel
theorem dX6_firstBehind_40 : decode cX6_firstBehind 40 = .ok (.iload_n 1, 1) := by decide +kernel
theorem dX6_firstBehind_41 : decode cX6_firstBehind 41 = .ok (.iconst 1, 1) := by decide +kernel
theorem dX6_firstBehind_42 : decode cX6_firstBehind 42 = .ok (.iload 4, 2) := by decide +kernel
theorem dX6_firstBehind_44 : decode cX6_firstBehind 44 = .ok (.ishl, 1) := by decide +kernel
theorem dX6_firstBehind_45 : decode cX6_firstBehind 45 = .ok (.ior, 1) := by decide +kernel
theorem dX6_firstBehind_46 : decode cX6_firstBehind 46 = .ok (.bipush 6, 2) := by decide +kernel
theorem dX6_firstBehind_48 : decode cX6_firstBehind 48 = .ok (.imul, 1) := by decide +kernel
theorem dX6_firstBehind_49 : decode cX6_firstBehind 49 = .ok (.iload 4, 2) := by decide +kernel
theorem dX6_firstBehind_51 : decode cX6_firstBehind 51 = .ok (.iadd, 1) := by decide +kernel
theorem dX6_firstBehind_52 : decode cX6_firstBehind 52 = .ok (.iaload, 1) := by decide +kernel
theorem dX6_firstBehind_53 : decode cX6_firstBehind 53 = .ok (.ifCond .le 6, 3) := by decide +kernel
theorem dX6_firstBehind_56 : decode cX6_firstBehind 56 = .ok (.iload 4, 2) := by decide +kernel
theorem dX6_firstBehind_58 : decode cX6_firstBehind 58 = .ok (.ireturn, 1) := by decide +kernel
theorem dX6_firstBehind_59 : decode cX6_firstBehind 59 = .ok (.iinc 4 1, 3) := by decide +kernel
theorem dX6_firstBehind_62 : decode cX6_firstBehind 62 = .ok (.goto (-59), 3) := by decide +kernel
theorem dX6_firstBehind_65 : decode cX6_firstBehind 65 = .ok (.iconst 0, 1) := by decide +kernel
theorem dX6_firstBehind_66 : decode cX6_firstBehind 66 = .ok (.ireturn, 1) := by decide +kernel
theorem dX7_init_0 : decode cX7_init 0 = .ok (.aload_n 0, 1) := by decide +kernel
theorem dX7_init_1 : decode cX7_init 1 = .ok (.invokespecial 3, 3) := by decide +kernel
theorem dX7_init_4 : decode cX7_init 4 = .ok (.aload_n 0, 1) := by decide +kernel
theorem dX7_init_5 : decode cX7_init 5 = .ok (.bipush 30, 2) := by decide +kernel
theorem dX7_init_7 : decode cX7_init 7 = .ok (.anewarray 9, 3) := by decide +kernel
theorem dX7_init_10 : decode cX7_init 10 = .ok (.putfield 11, 3) := by decide +kernel
theorem dX7_init_13 : decode cX7_init 13 = .ok (.aload_n 0, 1) := by decide +kernel
theorem dX7_init_14 : decode cX7_init 14 = .ok (.bipush 16, 2) := by decide +kernel
theorem dX7_init_16 : decode cX7_init 16 = .ok (.newarray .int, 2) := by decide +kernel
theorem dX7_init_18 : decode cX7_init 18 = .ok (.putfield 17, 3) := by decide +kernel
theorem dX7_init_21 : decode cX7_init 21 = .ok (.aload_n 0, 1) := by decide +kernel
theorem dX7_init_22 : decode cX7_init 22 = .ok (.bipush 16, 2) := by decide +kernel
theorem dX7_init_24 : decode cX7_init 24 = .ok (.newarray .int, 2) := by decide +kernel
theorem dX7_init_26 : decode cX7_init 26 = .ok (.putfield 21, 3) := by decide +kernel
theorem dX7_init_29 : decode cX7_init 29 = .ok (.aload_n 0, 1) := by decide +kernel
theorem dX7_init_30 : decode cX7_init 30 = .ok (.bipush 16, 2) := by decide +kernel
theorem dX7_init_32 : decode cX7_init 32 = .ok (.newarray .int, 2) := by decide +kernel
theorem dX7_init_34 : decode cX7_init 34 = .ok (.putfield 24, 3) := by decide +kernel
theorem dX7_init_37 : decode cX7_init 37 = .ok (.aload_n 0, 1) := by decide +kernel
theorem dX7_init_38 : decode cX7_init 38 = .ok (.bipush 20, 2) := by decide +kernel
theorem dX7_init_40 : decode cX7_init 40 = .ok (.anewarray 27, 3) := by decide +kernel
theorem dX7_init_43 : decode cX7_init 43 = .ok (.putfield 29, 3) := by decide +kernel
theorem dX7_init_46 : decode cX7_init 46 = .ok (.aload_n 0, 1) := by decide +kernel
theorem dX7_init_47 : decode cX7_init 47 = .ok (.bipush 10, 2) := by decide +kernel
theorem dX7_init_49 : decode cX7_init 49 = .ok (.anewarray 33, 3) := by decide +kernel
theorem dX7_init_52 : decode cX7_init 52 = .ok (.putfield 35, 3) := by decide +kernel
theorem dX7_init_55 : decode cX7_init 55 = .ok (.aload_n 0, 1) := by decide +kernel
theorem dX7_init_56 : decode cX7_init 56 = .ok (.bipush 40, 2) := by decide +kernel
theorem dX7_init_58 : decode cX7_init 58 = .ok (.anewarray 39, 3) := by decide +kernel
theorem dX7_init_61 : decode cX7_init 61 = .ok (.putfield 41, 3) := by decide +kernel
theorem dX7_init_64 : decode cX7_init 64 = .ok (.aload_n 0, 1) := by decide +kernel
theorem dX7_init_65 : decode cX7_init 65 = .ok (.bipush 24, 2) := by decide +kernel
theorem dX7_init_67 : decode cX7_init 67 = .ok (.newarray .int, 2) := by decide +kernel
theorem dX7_init_69 : decode cX7_init 69 = .ok (.putfield 45, 3) := by decide +kernel
theorem dX7_init_72 : decode cX7_init 72 = .ok (.aload_n 0, 1) := by decide +kernel
theorem dX7_init_73 : decode cX7_init 73 = .ok (.getstatic 48, 3) := by decide +kernel
theorem dX7_init_76 : decode cX7_init 76 = .ok (.invokevirtual 51, 3) := by decide +kernel
theorem dX7_init_79 : decode cX7_init 79 = .ok (.checkcast 52, 3) := by decide +kernel
theorem dX7_init_82 : decode cX7_init 82 = .ok (.putfield 56, 3) := by decide +kernel
theorem dX7_init_85 : decode cX7_init 85 = .ok (.aload_n 0, 1) := by decide +kernel
theorem dX7_init_86 : decode cX7_init 86 = .ok (.bipush 60, 2) := by decide +kernel
theorem dX7_init_88 : decode cX7_init 88 = .ok (.newarray .int, 2) := by decide +kernel
theorem dX7_init_90 : decode cX7_init 90 = .ok (.putfield 59, 3) := by decide +kernel
theorem dX7_init_93 : decode cX7_init 93 = .ok (.aload_n 0, 1) := by decide +kernel
theorem dX7_init_94 : decode cX7_init 94 = .ok (.bipush 33, 2) := by decide +kernel
theorem dX7_init_96 : decode cX7_init 96 = .ok (.newarray .int, 2) := by decide +kernel
theorem dX7_init_98 : decode cX7_init 98 = .ok (.putfield 62, 3) := by decide +kernel
theorem dX7_init_101 : decode cX7_init 101 = .ok (.aload_n 0, 1) := by decide +kernel
theorem dX7_init_102 : decode cX7_init 102 = .ok (.iconst 1, 1) := by decide +kernel
theorem dX7_init_103 : decode cX7_init 103 = .ok (.putfield 65, 3) := by decide +kernel
theorem dX7_init_106 : decode cX7_init 106 = .ok (.iconst 0, 1) := by decide +kernel
theorem dX7_init_107 : decode cX7_init 107 = .ok (.istore_n 1, 1) := by decide +kernel
theorem dX7_init_108 : decode cX7_init 108 = .ok (.iload_n 1, 1) := by decide +kernel
theorem dX7_init_109 : decode cX7_init 109 = .ok (.bipush 30, 2) := by decide +kernel
theorem dX7_init_111 : decode cX7_init 111 = .ok (.if_icmp .ge 22, 3) := by decide +kernel
theorem dX7_init_114 : decode cX7_init 114 = .ok (.aload_n 0, 1) := by decide +kernel
theorem dX7_init_115 : decode cX7_init 115 = .ok (.getfield 11, 3) := by decide +kernel
theorem dX7_init_118 : decode cX7_init 118 = .ok (.iload_n 1, 1) := by decide +kernel
theorem dX7_init_119 : decode cX7_init 119 = .ok (.new 9, 3) := by decide +kernel
theorem dX7_init_122 : decode cX7_init 122 = .ok (.dup, 1) := by decide +kernel
theorem dX7_init_123 : decode cX7_init 123 = .ok (.invokespecial 69, 3) := by decide +kernel
theorem dX7_init_126 : decode cX7_init 126 = .ok (.aastore, 1) := by decide +kernel
theorem dX7_init_127 : decode cX7_init 127 = .ok (.iinc 1 1, 3) := by decide +kernel
theorem dX7_init_130 : decode cX7_init 130 = .ok (.goto (-22), 3) := by decide +kernel
theorem dX7_init_133 : decode cX7_init 133 = .ok (.iconst 0, 1) := by decide +kernel
theorem dX7_init_134 : decode cX7_init 134 = .ok (.istore_n 1, 1) := by decide +kernel
theorem dX7_init_135 : decode cX7_init 135 = .ok (.iload_n 1, 1) := by decide +kernel
theorem dX7_init_136 : decode cX7_init 136 = .ok (.bipush 20, 2) := by decide +kernel
theorem dX7_init_138 : decode cX7_init 138 = .ok (.if_icmp .ge 22, 3) := by decide +kernel
theorem dX7_init_141 : decode cX7_init 141 = .ok (.aload_n 0, 1) := by decide +kernel
theorem dX7_init_142 : decode cX7_init 142 = .ok (.getfield 29, 3) := by decide +kernel
theorem dX7_init_145 : decode cX7_init 145 = .ok (.iload_n 1, 1) := by decide +kernel
theorem dX7_init_146 : decode cX7_init 146 = .ok (.new 27, 3) := by decide +kernel
theorem dX7_init_149 : decode cX7_init 149 = .ok (.dup, 1) := by decide +kernel
theorem dX7_init_150 : decode cX7_init 150 = .ok (.invokespecial 70, 3) := by decide +kernel
theorem dX7_init_153 : decode cX7_init 153 = .ok (.aastore, 1) := by decide +kernel
theorem dX7_init_154 : decode cX7_init 154 = .ok (.iinc 1 1, 3) := by decide +kernel
theorem dX7_init_157 : decode cX7_init 157 = .ok (.goto (-22), 3) := by decide +kernel
theorem dX7_init_160 : decode cX7_init 160 = .ok (.iconst 0, 1) := by decide +kernel
theorem dX7_init_161 : decode cX7_init 161 = .ok (.istore_n 1, 1) := by decide +kernel
theorem dX7_init_162 : decode cX7_init 162 = .ok (.iload_n 1, 1) := by decide +kernel
theorem dX7_init_163 : decode cX7_init 163 = .ok (.bipush 10, 2) := by decide +kernel
theorem dX7_init_165 : decode cX7_init 165 = .ok (.if_icmp .ge 22, 3) := by decide +kernel
theorem dX7_init_168 : decode cX7_init 168 = .ok (.aload_n 0, 1) := by decide +kernel
theorem dX7_init_169 : decode cX7_init 169 = .ok (.getfield 35, 3) := by decide +kernel
theorem dX7_init_172 : decode cX7_init 172 = .ok (.iload_n 1, 1) := by decide +kernel
theorem dX7_init_173 : decode cX7_init 173 = .ok (.new 33, 3) := by decide +kernel
theorem dX7_init_176 : decode cX7_init 176 = .ok (.dup, 1) := by decide +kernel
theorem dX7_init_177 : decode cX7_init 177 = .ok (.invokespecial 71, 3) := by decide +kernel
theorem dX7_init_180 : decode cX7_init 180 = .ok (.aastore, 1) := by decide +kernel
theorem dX7_init_181 : decode cX7_init 181 = .ok (.iinc 1 1, 3) := by decide +kernel
theorem dX7_init_184 : decode cX7_init 184 = .ok (.goto (-22), 3) := by decide +kernel
theorem dX7_init_187 : decode cX7_init 187 = .ok (.iconst 0, 1) := by decide +kernel
theorem dX7_init_188 : decode cX7_init 188 = .ok (.istore_n 1, 1) := by decide +kernel
theorem dX7_init_189 : decode cX7_init 189 = .ok (.iload_n 1, 1) := by decide +kernel
theorem dX7_init_190 : decode cX7_init 190 = .ok (.bipush 40, 2) := by decide +kernel
theorem dX7_init_192 : decode cX7_init 192 = .ok (.if_icmp .ge 22, 3) := by decide +kernel
theorem dX7_init_195 : decode cX7_init 195 = .ok (.aload_n 0, 1) := by decide +kernel
theorem dX7_init_196 : decode cX7_init 196 = .ok (.getfield 41, 3) := by decide +kernel
theorem dX7_init_199 : decode cX7_init 199 = .ok (.iload_n 1, 1) := by decide +kernel
theorem dX7_init_200 : decode cX7_init 200 = .ok (.new 39, 3) := by decide +kernel
theorem dX7_init_203 : decode cX7_init 203 = .ok (.dup, 1) := by decide +kernel
theorem dX7_init_204 : decode cX7_init 204 = .ok (.invokespecial 72, 3) := by decide +kernel
theorem dX7_init_207 : decode cX7_init 207 = .ok (.aastore, 1) := by decide +kernel
theorem dX7_init_208 : decode cX7_init 208 = .ok (.iinc 1 1, 3) := by decide +kernel
theorem dX7_init_211 : decode cX7_init 211 = .ok (.goto (-22), 3) := by decide +kernel
theorem dX7_init_214 : decode cX7_init 214 = .ok (.return_, 1) := by decide +kernel
theorem dX7_copyFrom_0 : decode cX7_copyFrom 0 = .ok (.aload_n 0, 1) := by decide +kernel
theorem dX7_copyFrom_1 : decode cX7_copyFrom 1 = .ok (.aload_n 1, 1) := by decide +kernel
theorem dX7_copyFrom_2 : decode cX7_copyFrom 2 = .ok (.invokevirtual 73, 3) := by decide +kernel
theorem dX7_copyFrom_5 : decode cX7_copyFrom 5 = .ok (.iconst 0, 1) := by decide +kernel
theorem dX7_copyFrom_6 : decode cX7_copyFrom 6 = .ok (.istore_n 2, 1) := by decide +kernel
theorem dX7_copyFrom_7 : decode cX7_copyFrom 7 = .ok (.iload_n 2, 1) := by decide +kernel
theorem dX7_copyFrom_8 : decode cX7_copyFrom 8 = .ok (.aload_n 0, 1) := by decide +kernel
theorem dX7_copyFrom_9 : decode cX7_copyFrom 9 = .ok (.getfield 77, 3) := by decide +kernel
theorem dX7_copyFrom_12 : decode cX7_copyFrom 12 = .ok (.if_icmp .ge 24, 3) := by decide +kernel
theorem dX7_copyFrom_15 : decode cX7_copyFrom 15 = .ok (.aload_n 0, 1) := by decide +kernel
theorem dX7_copyFrom_16 : decode cX7_copyFrom 16 = .ok (.getfield 11, 3) := by decide +kernel
theorem dX7_copyFrom_19 : decode cX7_copyFrom 19 = .ok (.iload_n 2, 1) := by decide +kernel
theorem dX7_copyFrom_20 : decode cX7_copyFrom 20 = .ok (.aaload, 1) := by decide +kernel
theorem dX7_copyFrom_21 : decode cX7_copyFrom 21 = .ok (.aload_n 1, 1) := by decide +kernel
theorem dX7_copyFrom_22 : decode cX7_copyFrom 22 = .ok (.getfield 11, 3) := by decide +kernel
theorem dX7_copyFrom_25 : decode cX7_copyFrom 25 = .ok (.iload_n 2, 1) := by decide +kernel
theorem dX7_copyFrom_26 : decode cX7_copyFrom 26 = .ok (.aaload, 1) := by decide +kernel
theorem dX7_copyFrom_27 : decode cX7_copyFrom 27 = .ok (.invokevirtual 80, 3) := by decide +kernel
theorem dX7_copyFrom_30 : decode cX7_copyFrom 30 = .ok (.iinc 2 1, 3) := by decide +kernel
theorem dX7_copyFrom_33 : decode cX7_copyFrom 33 = .ok (.goto (-26), 3) := by decide +kernel
theorem dX7_copyFrom_36 : decode cX7_copyFrom 36 = .ok (.iconst 0, 1) := by decide +kernel
theorem dX7_copyFrom_37 : decode cX7_copyFrom 37 = .ok (.istore_n 2, 1) := by decide +kernel
theorem dX7_copyFrom_38 : decode cX7_copyFrom 38 = .ok (.iload_n 2, 1) := by decide +kernel
theorem dX7_copyFrom_39 : decode cX7_copyFrom 39 = .ok (.aload_n 0, 1) := by decide +kernel
theorem dX7_copyFrom_40 : decode cX7_copyFrom 40 = .ok (.getfield 84, 3) := by decide +kernel
theorem dX7_copyFrom_43 : decode cX7_copyFrom 43 = .ok (.if_icmp .ge 24, 3) := by decide +kernel
theorem dX7_copyFrom_46 : decode cX7_copyFrom 46 = .ok (.aload_n 0, 1) := by decide +kernel
theorem dX7_copyFrom_47 : decode cX7_copyFrom 47 = .ok (.getfield 29, 3) := by decide +kernel
theorem dX7_copyFrom_50 : decode cX7_copyFrom 50 = .ok (.iload_n 2, 1) := by decide +kernel
theorem dX7_copyFrom_51 : decode cX7_copyFrom 51 = .ok (.aaload, 1) := by decide +kernel
theorem dX7_copyFrom_52 : decode cX7_copyFrom 52 = .ok (.aload_n 1, 1) := by decide +kernel
theorem dX7_copyFrom_53 : decode cX7_copyFrom 53 = .ok (.getfield 29, 3) := by decide +kernel
theorem dX7_copyFrom_56 : decode cX7_copyFrom 56 = .ok (.iload_n 2, 1) := by decide +kernel
theorem dX7_copyFrom_57 : decode cX7_copyFrom 57 = .ok (.aaload, 1) := by decide +kernel
theorem dX7_copyFrom_58 : decode cX7_copyFrom 58 = .ok (.invokevirtual 87, 3) := by decide +kernel
theorem dX7_copyFrom_61 : decode cX7_copyFrom 61 = .ok (.iinc 2 1, 3) := by decide +kernel
theorem dX7_copyFrom_64 : decode cX7_copyFrom 64 = .ok (.goto (-26), 3) := by decide +kernel
theorem dX7_copyFrom_67 : decode cX7_copyFrom 67 = .ok (.iconst 0, 1) := by decide +kernel
theorem dX7_copyFrom_68 : decode cX7_copyFrom 68 = .ok (.istore_n 2, 1) := by decide +kernel
theorem dX7_copyFrom_69 : decode cX7_copyFrom 69 = .ok (.iload_n 2, 1) := by decide +kernel
theorem dX7_copyFrom_70 : decode cX7_copyFrom 70 = .ok (.aload_n 0, 1) := by decide +kernel
theorem dX7_copyFrom_71 : decode cX7_copyFrom 71 = .ok (.getfield 90, 3) := by decide +kernel
theorem dX7_copyFrom_74 : decode cX7_copyFrom 74 = .ok (.if_icmp .ge 24, 3) := by decide +kernel
theorem dX7_copyFrom_77 : decode cX7_copyFrom 77 = .ok (.aload_n 0, 1) := by decide +kernel
theorem dX7_copyFrom_78 : decode cX7_copyFrom 78 = .ok (.getfield 35, 3) := by decide +kernel
theorem dX7_copyFrom_81 : decode cX7_copyFrom 81 = .ok (.iload_n 2, 1) := by decide +kernel
theorem dX7_copyFrom_82 : decode cX7_copyFrom 82 = .ok (.aaload, 1) := by decide +kernel
theorem dX7_copyFrom_83 : decode cX7_copyFrom 83 = .ok (.aload_n 1, 1) := by decide +kernel
theorem dX7_copyFrom_84 : decode cX7_copyFrom 84 = .ok (.getfield 35, 3) := by decide +kernel
theorem dX7_copyFrom_87 : decode cX7_copyFrom 87 = .ok (.iload_n 2, 1) := by decide +kernel
theorem dX7_copyFrom_88 : decode cX7_copyFrom 88 = .ok (.aaload, 1) := by decide +kernel
theorem dX7_copyFrom_89 : decode cX7_copyFrom 89 = .ok (.invokevirtual 93, 3) := by decide +kernel
theorem dX7_copyFrom_92 : decode cX7_copyFrom 92 = .ok (.iinc 2 1, 3) := by decide +kernel
theorem dX7_copyFrom_95 : decode cX7_copyFrom 95 = .ok (.goto (-26), 3) := by decide +kernel
theorem dX7_copyFrom_98 : decode cX7_copyFrom 98 = .ok (.iconst 0, 1) := by decide +kernel
theorem dX7_copyFrom_99 : decode cX7_copyFrom 99 = .ok (.istore_n 2, 1) := by decide +kernel
theorem dX7_copyFrom_100 : decode cX7_copyFrom 100 = .ok (.iload_n 2, 1) := by decide +kernel
theorem dX7_copyFrom_101 : decode cX7_copyFrom 101 = .ok (.aload_n 0, 1) := by decide +kernel
theorem dX7_copyFrom_102 : decode cX7_copyFrom 102 = .ok (.getfield 96, 3) := by decide +kernel
theorem dX7_copyFrom_105 : decode cX7_copyFrom 105 = .ok (.if_icmp .ge 24, 3) := by decide +kernel
theorem dX7_copyFrom_108 : decode cX7_copyFrom 108 = .ok (.aload_n 0, 1) := by decide +kernel
theorem dX7_copyFrom_109 : decode cX7_copyFrom 109 = .ok (.getfield 41, 3) := by decide +kernel
theorem dX7_copyFrom_112 : decode cX7_copyFrom 112 = .ok (.iload_n 2, 1) := by decide +kernel
theorem dX7_copyFrom_113 : decode cX7_copyFrom 113 = .ok (.aaload, 1) := by decide +kernel
theorem dX7_copyFrom_114 : decode cX7_copyFrom 114 = .ok (.aload_n 1, 1) := by decide +kernel
theorem dX7_copyFrom_115 : decode cX7_copyFrom 115 = .ok (.getfield 41, 3) := by decide +kernel
theorem dX7_copyFrom_118 : decode cX7_copyFrom 118 = .ok (.iload_n 2, 1) := by decide +kernel
theorem dX7_copyFrom_119 : decode cX7_copyFrom 119 = .ok (.aaload, 1) := by decide +kernel
theorem dX7_copyFrom_120 : decode cX7_copyFrom 120 = .ok (.invokevirtual 99, 3) := by decide +kernel
theorem dX7_copyFrom_123 : decode cX7_copyFrom 123 = .ok (.iinc 2 1, 3) := by decide +kernel
theorem dX7_copyFrom_126 : decode cX7_copyFrom 126 = .ok (.goto (-26), 3) := by decide +kernel
theorem dX7_copyFrom_129 : decode cX7_copyFrom 129 = .ok (.aload_n 1, 1) := by decide +kernel
theorem dX7_copyFrom_130 : decode cX7_copyFrom 130 = .ok (.getfield 17, 3) := by decide +kernel
theorem dX7_copyFrom_133 : decode cX7_copyFrom 133 = .ok (.iconst 0, 1) := by decide +kernel
theorem dX7_copyFrom_134 : decode cX7_copyFrom 134 = .ok (.aload_n 0, 1) := by decide +kernel
theorem dX7_copyFrom_135 : decode cX7_copyFrom 135 = .ok (.getfield 17, 3) := by decide +kernel
theorem dX7_copyFrom_138 : decode cX7_copyFrom 138 = .ok (.iconst 0, 1) := by decide +kernel
theorem dX7_copyFrom_139 : decode cX7_copyFrom 139 = .ok (.bipush 16, 2) := by decide +kernel
theorem dX7_copyFrom_141 : decode cX7_copyFrom 141 = .ok (.invokestatic 102, 3) := by decide +kernel
theorem dX7_copyFrom_144 : decode cX7_copyFrom 144 = .ok (.aload_n 1, 1) := by decide +kernel
theorem dX7_copyFrom_145 : decode cX7_copyFrom 145 = .ok (.getfield 21, 3) := by decide +kernel
theorem dX7_copyFrom_148 : decode cX7_copyFrom 148 = .ok (.iconst 0, 1) := by decide +kernel
theorem dX7_copyFrom_149 : decode cX7_copyFrom 149 = .ok (.aload_n 0, 1) := by decide +kernel
theorem dX7_copyFrom_150 : decode cX7_copyFrom 150 = .ok (.getfield 21, 3) := by decide +kernel
theorem dX7_copyFrom_153 : decode cX7_copyFrom 153 = .ok (.iconst 0, 1) := by decide +kernel
theorem dX7_copyFrom_154 : decode cX7_copyFrom 154 = .ok (.bipush 16, 2) := by decide +kernel
theorem dX7_copyFrom_156 : decode cX7_copyFrom 156 = .ok (.invokestatic 102, 3) := by decide +kernel
theorem dX7_copyFrom_159 : decode cX7_copyFrom 159 = .ok (.aload_n 1, 1) := by decide +kernel
theorem dX7_copyFrom_160 : decode cX7_copyFrom 160 = .ok (.getfield 24, 3) := by decide +kernel
theorem dX7_copyFrom_163 : decode cX7_copyFrom 163 = .ok (.iconst 0, 1) := by decide +kernel
theorem dX7_copyFrom_164 : decode cX7_copyFrom 164 = .ok (.aload_n 0, 1) := by decide +kernel
theorem dX7_copyFrom_165 : decode cX7_copyFrom 165 = .ok (.getfield 24, 3) := by decide +kernel
theorem dX7_copyFrom_168 : decode cX7_copyFrom 168 = .ok (.iconst 0, 1) := by decide +kernel
theorem dX7_copyFrom_169 : decode cX7_copyFrom 169 = .ok (.bipush 16, 2) := by decide +kernel
theorem dX7_copyFrom_171 : decode cX7_copyFrom 171 = .ok (.invokestatic 102, 3) := by decide +kernel
theorem dX7_copyFrom_174 : decode cX7_copyFrom 174 = .ok (.aload_n 1, 1) := by decide +kernel
theorem dX7_copyFrom_175 : decode cX7_copyFrom 175 = .ok (.getfield 45, 3) := by decide +kernel
theorem dX7_copyFrom_178 : decode cX7_copyFrom 178 = .ok (.iconst 0, 1) := by decide +kernel
theorem dX7_copyFrom_179 : decode cX7_copyFrom 179 = .ok (.aload_n 0, 1) := by decide +kernel
theorem dX7_copyFrom_180 : decode cX7_copyFrom 180 = .ok (.getfield 45, 3) := by decide +kernel
theorem dX7_copyFrom_183 : decode cX7_copyFrom 183 = .ok (.iconst 0, 1) := by decide +kernel
theorem dX7_copyFrom_184 : decode cX7_copyFrom 184 = .ok (.bipush 24, 2) := by decide +kernel
theorem dX7_copyFrom_186 : decode cX7_copyFrom 186 = .ok (.invokestatic 102, 3) := by decide +kernel
theorem dX7_copyFrom_189 : decode cX7_copyFrom 189 = .ok (.aload_n 1, 1) := by decide +kernel
theorem dX7_copyFrom_190 : decode cX7_copyFrom 190 = .ok (.getfield 56, 3) := by decide +kernel
theorem dX7_copyFrom_193 : decode cX7_copyFrom 193 = .ok (.iconst 0, 1) := by decide +kernel
theorem dX7_copyFrom_194 : decode cX7_copyFrom 194 = .ok (.aload_n 0, 1) := by decide +kernel
theorem dX7_copyFrom_195 : decode cX7_copyFrom 195 = .ok (.getfield 56, 3) := by decide +kernel
theorem dX7_copyFrom_198 : decode cX7_copyFrom 198 = .ok (.iconst 0, 1) := by decide +kernel
theorem dX7_copyFrom_199 : decode cX7_copyFrom 199 = .ok (.bipush 7, 2) := by decide +kernel
theorem dX7_copyFrom_201 : decode cX7_copyFrom 201 = .ok (.invokestatic 102, 3) := by decide +kernel
theorem dX7_copyFrom_204 : decode cX7_copyFrom 204 = .ok (.aload_n 1, 1) := by decide +kernel
theorem dX7_copyFrom_205 : decode cX7_copyFrom 205 = .ok (.getfield 59, 3) := by decide +kernel
theorem dX7_copyFrom_208 : decode cX7_copyFrom 208 = .ok (.iconst 0, 1) := by decide +kernel
theorem dX7_copyFrom_209 : decode cX7_copyFrom 209 = .ok (.aload_n 0, 1) := by decide +kernel
theorem dX7_copyFrom_210 : decode cX7_copyFrom 210 = .ok (.getfield 59, 3) := by decide +kernel
theorem dX7_copyFrom_213 : decode cX7_copyFrom 213 = .ok (.iconst 0, 1) := by decide +kernel
theorem dX7_copyFrom_214 : decode cX7_copyFrom 214 = .ok (.bipush 60, 2) := by decide +kernel
theorem dX7_copyFrom_216 : decode cX7_copyFrom 216 = .ok (.invokestatic 102, 3) := by decide +kernel
theorem dX7_copyFrom_219 : decode cX7_copyFrom 219 = .ok (.aload_n 1, 1) := by decide +kernel
theorem dX7_copyFrom_220 : decode cX7_copyFrom 220 = .ok (.getfield 62, 3) := by decide +kernel
theorem dX7_copyFrom_223 : decode cX7_copyFrom 223 = .ok (.iconst 0, 1) := by decide +kernel
theorem dX7_copyFrom_224 : decode cX7_copyFrom 224 = .ok (.aload_n 0, 1) := by decide +kernel
theorem dX7_copyFrom_225 : decode cX7_copyFrom 225 = .ok (.getfield 62, 3) := by decide +kernel
theorem dX7_copyFrom_228 : decode cX7_copyFrom 228 = .ok (.iconst 0, 1) := by decide +kernel
theorem dX7_copyFrom_229 : decode cX7_copyFrom 229 = .ok (.bipush 33, 2) := by decide +kernel
theorem dX7_copyFrom_231 : decode cX7_copyFrom 231 = .ok (.invokestatic 102, 3) := by decide +kernel
theorem dX7_copyFrom_234 : decode cX7_copyFrom 234 = .ok (.return_, 1) := by decide +kernel
theorem dX7_copyCounts_0 : decode cX7_copyCounts 0 = .ok (.aload_n 0, 1) := by decide +kernel
theorem dX7_copyCounts_1 : decode cX7_copyCounts 1 = .ok (.aload_n 1, 1) := by decide +kernel
theorem dX7_copyCounts_2 : decode cX7_copyCounts 2 = .ok (.getfield 77, 3) := by decide +kernel
theorem dX7_copyCounts_5 : decode cX7_copyCounts 5 = .ok (.putfield 77, 3) := by decide +kernel
theorem dX7_copyCounts_8 : decode cX7_copyCounts 8 = .ok (.aload_n 0, 1) := by decide +kernel
theorem dX7_copyCounts_9 : decode cX7_copyCounts 9 = .ok (.aload_n 1, 1) := by decide +kernel
theorem dX7_copyCounts_10 : decode cX7_copyCounts 10 = .ok (.getfield 108, 3) := by decide +kernel
theorem dX7_copyCounts_13 : decode cX7_copyCounts 13 = .ok (.putfield 108, 3) := by decide +kernel
theorem dX7_copyCounts_16 : decode cX7_copyCounts 16 = .ok (.aload_n 0, 1) := by decide +kernel
theorem dX7_copyCounts_17 : decode cX7_copyCounts 17 = .ok (.aload_n 1, 1) := by decide +kernel
theorem dX7_copyCounts_18 : decode cX7_copyCounts 18 = .ok (.getfield 84, 3) := by decide +kernel
theorem dX7_copyCounts_21 : decode cX7_copyCounts 21 = .ok (.putfield 84, 3) := by decide +kernel
theorem dX7_copyCounts_24 : decode cX7_copyCounts 24 = .ok (.aload_n 0, 1) := by decide +kernel
theorem dX7_copyCounts_25 : decode cX7_copyCounts 25 = .ok (.aload_n 1, 1) := by decide +kernel
theorem dX7_copyCounts_26 : decode cX7_copyCounts 26 = .ok (.getfield 90, 3) := by decide +kernel
theorem dX7_copyCounts_29 : decode cX7_copyCounts 29 = .ok (.putfield 90, 3) := by decide +kernel
theorem dX7_copyCounts_32 : decode cX7_copyCounts 32 = .ok (.aload_n 0, 1) := by decide +kernel
theorem dX7_copyCounts_33 : decode cX7_copyCounts 33 = .ok (.aload_n 1, 1) := by decide +kernel
theorem dX7_copyCounts_34 : decode cX7_copyCounts 34 = .ok (.getfield 96, 3) := by decide +kernel
theorem dX7_copyCounts_37 : decode cX7_copyCounts 37 = .ok (.putfield 96, 3) := by decide +kernel
theorem dX7_copyCounts_40 : decode cX7_copyCounts 40 = .ok (.aload_n 0, 1) := by decide +kernel
theorem dX7_copyCounts_41 : decode cX7_copyCounts 41 = .ok (.aload_n 1, 1) := by decide +kernel
theorem dX7_copyCounts_42 : decode cX7_copyCounts 42 = .ok (.getfield 111, 3) := by decide +kernel
theorem dX7_copyCounts_45 : decode cX7_copyCounts 45 = .ok (.putfield 111, 3) := by decide +kernel
theorem dX7_copyCounts_48 : decode cX7_copyCounts 48 = .ok (.aload_n 0, 1) := by decide +kernel
theorem dX7_copyCounts_49 : decode cX7_copyCounts 49 = .ok (.aload_n 1, 1) := by decide +kernel
theorem dX7_copyCounts_50 : decode cX7_copyCounts 50 = .ok (.getfield 114, 3) := by decide +kernel
theorem dX7_copyCounts_53 : decode cX7_copyCounts 53 = .ok (.putfield 114, 3) := by decide +kernel
theorem dX7_copyCounts_56 : decode cX7_copyCounts 56 = .ok (.aload_n 0, 1) := by decide +kernel
theorem dX7_copyCounts_57 : decode cX7_copyCounts 57 = .ok (.aload_n 1, 1) := by decide +kernel
theorem dX7_copyCounts_58 : decode cX7_copyCounts 58 = .ok (.getfield 65, 3) := by decide +kernel
theorem dX7_copyCounts_61 : decode cX7_copyCounts 61 = .ok (.putfield 65, 3) := by decide +kernel
theorem dX7_copyCounts_64 : decode cX7_copyCounts 64 = .ok (.return_, 1) := by decide +kernel
theorem dX7_firstEntry_0 : decode cX7_firstEntry 0 = .ok (.iconst 0, 1) := by decide +kernel
theorem dX7_firstEntry_1 : decode cX7_firstEntry 1 = .ok (.istore 4, 2) := by decide +kernel
theorem dX7_firstEntry_3 : decode cX7_firstEntry 3 = .ok (.iload 4, 2) := by decide +kernel
theorem dX7_firstEntry_5 : decode cX7_firstEntry 5 = .ok (.iload_n 3, 1) := by decide +kernel
theorem dX7_firstEntry_6 : decode cX7_firstEntry 6 = .ok (.if_icmp .ge 47, 3) := by decide +kernel
theorem dX7_firstEntry_9 : decode cX7_firstEntry 9 = .ok (.iload 4, 2) := by decide +kernel
theorem dX7_firstEntry_11 : decode cX7_firstEntry 11 = .ok (.bipush 40, 2) := by decide +kernel
theorem dX7_firstEntry_13 : decode cX7_firstEntry 13 = .ok (.if_icmp .ge 40, 3) := by decide +kernel
theorem dX7_firstEntry_16 : decode cX7_firstEntry 16 = .ok (.aload_n 0, 1) := by decide +kernel
theorem dX7_firstEntry_17 : decode cX7_firstEntry 17 = .ok (.getfield 41, 3) := by decide +kernel
theorem dX7_firstEntry_20 : decode cX7_firstEntry 20 = .ok (.iload 4, 2) := by decide +kernel
theorem dX7_firstEntry_22 : decode cX7_firstEntry 22 = .ok (.aaload, 1) := by decide +kernel
theorem dX7_firstEntry_23 : decode cX7_firstEntry 23 = .ok (.getfield 117, 3) := by decide +kernel
theorem dX7_firstEntry_26 : decode cX7_firstEntry 26 = .ok (.iload_n 1, 1) := by decide +kernel
theorem dX7_firstEntry_27 : decode cX7_firstEntry 27 = .ok (.if_icmp .ne 20, 3) := by decide +kernel
theorem dX7_firstEntry_30 : decode cX7_firstEntry 30 = .ok (.aload_n 0, 1) := by decide +kernel
theorem dX7_firstEntry_31 : decode cX7_firstEntry 31 = .ok (.getfield 41, 3) := by decide +kernel
theorem dX7_firstEntry_34 : decode cX7_firstEntry 34 = .ok (.iload 4, 2) := by decide +kernel
theorem dX7_firstEntry_36 : decode cX7_firstEntry 36 = .ok (.aaload, 1) := by decide +kernel
theorem dX7_firstEntry_37 : decode cX7_firstEntry 37 = .ok (.getfield 120, 3) := by decide +kernel
theorem dX7_firstEntry_40 : decode cX7_firstEntry 40 = .ok (.iload_n 2, 1) := by decide +kernel
theorem dX7_firstEntry_41 : decode cX7_firstEntry 41 = .ok (.if_icmp .ne 6, 3) := by decide +kernel
theorem dX7_firstEntry_44 : decode cX7_firstEntry 44 = .ok (.iload 4, 2) := by decide +kernel
theorem dX7_firstEntry_46 : decode cX7_firstEntry 46 = .ok (.ireturn, 1) := by decide +kernel
theorem dX7_firstEntry_47 : decode cX7_firstEntry 47 = .ok (.iinc 4 1, 3) := by decide +kernel
theorem dX7_firstEntry_50 : decode cX7_firstEntry 50 = .ok (.goto (-47), 3) := by decide +kernel
theorem dX7_firstEntry_53 : decode cX7_firstEntry 53 = .ok (.iload_n 3, 1) := by decide +kernel
theorem dX7_firstEntry_54 : decode cX7_firstEntry 54 = .ok (.ireturn, 1) := by decide +kernel
theorem dX7_entriesThatCount_0 : decode cX7_entriesThatCount 0 = .ok (.iconst 0, 1) := by decide +kernel
theorem dX7_entriesThatCount_1 : decode cX7_entriesThatCount 1 = .ok (.istore_n 1, 1) := by decide +kernel
theorem dX7_entriesThatCount_2 : decode cX7_entriesThatCount 2 = .ok (.iconst 0, 1) := by decide +kernel
theorem dX7_entriesThatCount_3 : decode cX7_entriesThatCount 3 = .ok (.istore_n 2, 1) := by decide +kernel
theorem dX7_entriesThatCount_4 : decode cX7_entriesThatCount 4 = .ok (.iload_n 2, 1) := by decide +kernel
theorem dX7_entriesThatCount_5 : decode cX7_entriesThatCount 5 = .ok (.aload_n 0, 1) := by decide +kernel
theorem dX7_entriesThatCount_6 : decode cX7_entriesThatCount 6 = .ok (.getfield 96, 3) := by decide +kernel
theorem dX7_entriesThatCount_9 : decode cX7_entriesThatCount 9 = .ok (.if_icmp .ge 25, 3) := by decide +kernel
theorem dX7_entriesThatCount_12 : decode cX7_entriesThatCount 12 = .ok (.aload_n 0, 1) := by decide +kernel
theorem dX7_entriesThatCount_13 : decode cX7_entriesThatCount 13 = .ok (.getfield 41, 3) := by decide +kernel
theorem dX7_entriesThatCount_16 : decode cX7_entriesThatCount 16 = .ok (.iload_n 2, 1) := by decide +kernel
theorem dX7_entriesThatCount_17 : decode cX7_entriesThatCount 17 = .ok (.aaload, 1) := by decide +kernel
theorem dX7_entriesThatCount_18 : decode cX7_entriesThatCount 18 = .ok (.getfield 123, 3) := by decide +kernel
theorem dX7_entriesThatCount_21 : decode cX7_entriesThatCount 21 = .ok (.iload_n 2, 1) := by decide +kernel
theorem dX7_entriesThatCount_22 : decode cX7_entriesThatCount 22 = .ok (.if_icmp .ne 6, 3) := by decide +kernel
theorem dX7_entriesThatCount_25 : decode cX7_entriesThatCount 25 = .ok (.iinc 1 1, 3) := by decide +kernel
theorem dX7_entriesThatCount_28 : decode cX7_entriesThatCount 28 = .ok (.iinc 2 1, 3) := by decide +kernel
theorem dX7_entriesThatCount_31 : decode cX7_entriesThatCount 31 = .ok (.goto (-27), 3) := by decide +kernel
theorem dX7_entriesThatCount_34 : decode cX7_entriesThatCount 34 = .ok (.iload_n 1, 1) := by decide +kernel
theorem dX7_entriesThatCount_35 : decode cX7_entriesThatCount 35 = .ok (.ireturn, 1) := by decide +kernel
theorem dX7_draw_0 : decode cX7_draw 0 = .ok (.aload_n 0, 1) := by decide +kernel
theorem dX7_draw_1 : decode cX7_draw 1 = .ok (.aload_n 0, 1) := by decide +kernel
theorem dX7_draw_2 : decode cX7_draw 2 = .ok (.getfield 65, 3) := by decide +kernel
theorem dX7_draw_5 : decode cX7_draw 5 = .ok (.ldc 126, 2) := by decide +kernel
theorem dX7_draw_7 : decode cX7_draw 7 = .ok (.imul, 1) := by decide +kernel
theorem dX7_draw_8 : decode cX7_draw 8 = .ok (.sipush 12345, 3) := by decide +kernel
theorem dX7_draw_11 : decode cX7_draw 11 = .ok (.iadd, 1) := by decide +kernel
theorem dX7_draw_12 : decode cX7_draw 12 = .ok (.putfield 65, 3) := by decide +kernel
theorem dX7_draw_15 : decode cX7_draw 15 = .ok (.iload_n 1, 1) := by decide +kernel
theorem dX7_draw_16 : decode cX7_draw 16 = .ok (.ifCond .gt 7, 3) := by decide +kernel
theorem dX7_draw_19 : decode cX7_draw 19 = .ok (.iconst 0, 1) := by decide +kernel
theorem dX7_draw_20 : decode cX7_draw 20 = .ok (.goto 12, 3) := by decide +kernel
theorem dX7_draw_23 : decode cX7_draw 23 = .ok (.aload_n 0, 1) := by decide +kernel
theorem dX7_draw_24 : decode cX7_draw 24 = .ok (.getfield 65, 3) := by decide +kernel
theorem dX7_draw_27 : decode cX7_draw 27 = .ok (.bipush 16, 2) := by decide +kernel
theorem dX7_draw_29 : decode cX7_draw 29 = .ok (.iushr, 1) := by decide +kernel
theorem dX7_draw_30 : decode cX7_draw 30 = .ok (.iload_n 1, 1) := by decide +kernel
theorem dX7_draw_31 : decode cX7_draw 31 = .ok (.irem, 1) := by decide +kernel
theorem dX7_draw_32 : decode cX7_draw 32 = .ok (.ireturn, 1) := by decide +kernel
theorem dX8_init_0 : decode cX8_init 0 = .ok (.aload_n 0, 1) := by decide +kernel
theorem dX8_init_1 : decode cX8_init 1 = .ok (.invokespecial 3, 3) := by decide +kernel
theorem dX8_init_4 : decode cX8_init 4 = .ok (.aload_n 0, 1) := by decide +kernel
theorem dX8_init_5 : decode cX8_init 5 = .ok (.bipush 20, 2) := by decide +kernel
theorem dX8_init_7 : decode cX8_init 7 = .ok (.newarray .int, 2) := by decide +kernel
theorem dX8_init_9 : decode cX8_init 9 = .ok (.putfield 9, 3) := by decide +kernel
theorem dX8_init_12 : decode cX8_init 12 = .ok (.aload_n 0, 1) := by decide +kernel
theorem dX8_init_13 : decode cX8_init 13 = .ok (.bipush 20, 2) := by decide +kernel
theorem dX8_init_15 : decode cX8_init 15 = .ok (.newarray .int, 2) := by decide +kernel
theorem dX8_init_17 : decode cX8_init 17 = .ok (.putfield 15, 3) := by decide +kernel
theorem dX8_init_20 : decode cX8_init 20 = .ok (.aload_n 0, 1) := by decide +kernel
theorem dX8_init_21 : decode cX8_init 21 = .ok (.aload_n 1, 1) := by decide +kernel
theorem dX8_init_22 : decode cX8_init 22 = .ok (.putfield 18, 3) := by decide +kernel
theorem dX8_init_25 : decode cX8_init 25 = .ok (.return_, 1) := by decide +kernel
theorem dX8_unlike_0 : decode cX8_unlike 0 = .ok (.aload_n 0, 1) := by decide +kernel
theorem dX8_unlike_1 : decode cX8_unlike 1 = .ok (.getfield 18, 3) := by decide +kernel
theorem dX8_unlike_4 : decode cX8_unlike 4 = .ok (.getfield 22, 3) := by decide +kernel
theorem dX8_unlike_7 : decode cX8_unlike 7 = .ok (.iload_n 1, 1) := by decide +kernel
theorem dX8_unlike_8 : decode cX8_unlike 8 = .ok (.aaload, 1) := by decide +kernel
theorem dX8_unlike_9 : decode cX8_unlike 9 = .ok (.astore_n 3, 1) := by decide +kernel
theorem dX8_unlike_10 : decode cX8_unlike 10 = .ok (.aload_n 0, 1) := by decide +kernel
theorem dX8_unlike_11 : decode cX8_unlike 11 = .ok (.getfield 18, 3) := by decide +kernel
theorem dX8_unlike_14 : decode cX8_unlike 14 = .ok (.getfield 22, 3) := by decide +kernel
theorem dX8_unlike_17 : decode cX8_unlike 17 = .ok (.iload_n 2, 1) := by decide +kernel
theorem dX8_unlike_18 : decode cX8_unlike 18 = .ok (.aaload, 1) := by decide +kernel
theorem dX8_unlike_19 : decode cX8_unlike 19 = .ok (.astore 4, 2) := by decide +kernel
theorem dX8_unlike_21 : decode cX8_unlike 21 = .ok (.bipush 10, 2) := by decide +kernel
theorem dX8_unlike_23 : decode cX8_unlike 23 = .ok (.aload_n 3, 1) := by decide +kernel
theorem dX8_unlike_24 : decode cX8_unlike 24 = .ok (.getfield 28, 3) := by decide +kernel
theorem dX8_unlike_27 : decode cX8_unlike 27 = .ok (.aload 4, 2) := by decide +kernel
theorem dX8_unlike_29 : decode cX8_unlike 29 = .ok (.getfield 28, 3) := by decide +kernel
theorem dX8_unlike_32 : decode cX8_unlike 32 = .ok (.ixor, 1) := by decide +kernel
theorem dX8_unlike_33 : decode cX8_unlike 33 = .ok (.invokestatic 34, 3) := by decide +kernel
theorem dX8_unlike_36 : decode cX8_unlike 36 = .ok (.imul, 1) := by decide +kernel
theorem dX8_unlike_37 : decode cX8_unlike 37 = .ok (.aload_n 3, 1) := by decide +kernel
theorem dX8_unlike_38 : decode cX8_unlike 38 = .ok (.getfield 40, 3) := by decide +kernel
theorem dX8_unlike_41 : decode cX8_unlike 41 = .ok (.aload 4, 2) := by decide +kernel
theorem dX8_unlike_43 : decode cX8_unlike 43 = .ok (.getfield 40, 3) := by decide +kernel
theorem dX8_unlike_46 : decode cX8_unlike 46 = .ok (.isub, 1) := by decide +kernel
theorem dX8_unlike_47 : decode cX8_unlike 47 = .ok (.invokestatic 43, 3) := by decide +kernel
theorem dX8_unlike_50 : decode cX8_unlike 50 = .ok (.iadd, 1) := by decide +kernel
theorem dX8_unlike_51 : decode cX8_unlike 51 = .ok (.ireturn, 1) := by decide +kernel
theorem dX8_likest_0 : decode cX8_likest 0 = .ok (.iconst 0, 1) := by decide +kernel
theorem dX8_likest_1 : decode cX8_likest 1 = .ok (.istore_n 3, 1) := by decide +kernel
theorem dX8_likest_2 : decode cX8_likest 2 = .ok (.iload_n 3, 1) := by decide +kernel
theorem dX8_likest_3 : decode cX8_likest 3 = .ok (.iload_n 1, 1) := by decide +kernel
theorem dX8_likest_4 : decode cX8_likest 4 = .ok (.if_icmp .ge 32, 3) := by decide +kernel
theorem dX8_likest_7 : decode cX8_likest 7 = .ok (.iload_n 3, 1) := by decide +kernel
theorem dX8_likest_8 : decode cX8_likest 8 = .ok (.bipush 20, 2) := by decide +kernel
theorem dX8_likest_10 : decode cX8_likest 10 = .ok (.if_icmp .ge 26, 3) := by decide +kernel
theorem dX8_likest_13 : decode cX8_likest 13 = .ok (.aload_n 0, 1) := by decide +kernel
theorem dX8_likest_14 : decode cX8_likest 14 = .ok (.getfield 9, 3) := by decide +kernel
theorem dX8_likest_17 : decode cX8_likest 17 = .ok (.iload_n 3, 1) := by decide +kernel
theorem dX8_likest_18 : decode cX8_likest 18 = .ok (.aload_n 0, 1) := by decide +kernel
theorem dX8_likest_19 : decode cX8_likest 19 = .ok (.iload_n 1, 1) := by decide +kernel
theorem dX8_likest_20 : decode cX8_likest 20 = .ok (.iload_n 3, 1) := by decide +kernel
theorem dX8_likest_21 : decode cX8_likest 21 = .ok (.invokevirtual 48, 3) := by decide +kernel
theorem dX8_likest_24 : decode cX8_likest 24 = .ok (.bipush 20, 2) := by decide +kernel
theorem dX8_likest_26 : decode cX8_likest 26 = .ok (.imul, 1) := by decide +kernel
theorem dX8_likest_27 : decode cX8_likest 27 = .ok (.iload_n 3, 1) := by decide +kernel
theorem dX8_likest_28 : decode cX8_likest 28 = .ok (.iadd, 1) := by decide +kernel
theorem dX8_likest_29 : decode cX8_likest 29 = .ok (.iastore, 1) := by decide +kernel
theorem dX8_likest_30 : decode cX8_likest 30 = .ok (.iinc 3 1, 3) := by decide +kernel
theorem dX8_likest_33 : decode cX8_likest 33 = .ok (.goto (-31), 3) := by decide +kernel
theorem dX8_likest_36 : decode cX8_likest 36 = .ok (.iconst 0, 1) := by decide +kernel
theorem dX8_likest_37 : decode cX8_likest 37 = .ok (.istore_n 3, 1) := by decide +kernel
theorem dX8_likest_38 : decode cX8_likest 38 = .ok (.iload_n 3, 1) := by decide +kernel
theorem dX8_likest_39 : decode cX8_likest 39 = .ok (.iload_n 1, 1) := by decide +kernel
theorem dX8_likest_40 : decode cX8_likest 40 = .ok (.if_icmp .ge 67, 3) := by decide +kernel
theorem dX8_likest_43 : decode cX8_likest 43 = .ok (.iload_n 3, 1) := by decide +kernel
theorem dX8_likest_44 : decode cX8_likest 44 = .ok (.bipush 20, 2) := by decide +kernel
theorem dX8_likest_46 : decode cX8_likest 46 = .ok (.if_icmp .ge 61, 3) := by decide +kernel
theorem dX8_likest_49 : decode cX8_likest 49 = .ok (.iconst 0, 1) := by decide +kernel
theorem dX8_likest_50 : decode cX8_likest 50 = .ok (.istore 4, 2) := by decide +kernel
theorem dX8_likest_52 : decode cX8_likest 52 = .ok (.iconst 0, 1) := by decide +kernel
theorem dX8_likest_53 : decode cX8_likest 53 = .ok (.istore 5, 2) := by decide +kernel
theorem dX8_likest_55 : decode cX8_likest 55 = .ok (.iload 5, 2) := by decide +kernel
theorem dX8_likest_57 : decode cX8_likest 57 = .ok (.iload_n 1, 1) := by decide +kernel
theorem dX8_likest_58 : decode cX8_likest 58 = .ok (.if_icmp .ge 35, 3) := by decide +kernel
theorem dX8_likest_61 : decode cX8_likest 61 = .ok (.iload 5, 2) := by decide +kernel
theorem dX8_likest_63 : decode cX8_likest 63 = .ok (.bipush 20, 2) := by decide +kernel
theorem dX8_likest_65 : decode cX8_likest 65 = .ok (.if_icmp .ge 28, 3) := by decide +kernel
theorem dX8_likest_68 : decode cX8_likest 68 = .ok (.aload_n 0, 1) := by decide +kernel
theorem dX8_likest_69 : decode cX8_likest 69 = .ok (.getfield 9, 3) := by decide +kernel
theorem dX8_likest_72 : decode cX8_likest 72 = .ok (.iload 5, 2) := by decide +kernel
theorem dX8_likest_74 : decode cX8_likest 74 = .ok (.iaload, 1) := by decide +kernel
theorem dX8_likest_75 : decode cX8_likest 75 = .ok (.aload_n 0, 1) := by decide +kernel
theorem dX8_likest_76 : decode cX8_likest 76 = .ok (.getfield 9, 3) := by decide +kernel
theorem dX8_likest_79 : decode cX8_likest 79 = .ok (.iload_n 3, 1) := by decide +kernel
theorem dX8_likest_80 : decode cX8_likest 80 = .ok (.iaload, 1) := by decide +kernel
theorem dX8_likest_81 : decode cX8_likest 81 = .ok (.if_icmp .ge 6, 3) := by decide +kernel
theorem dX8_likest_84 : decode cX8_likest 84 = .ok (.iinc 4 1, 3) := by decide +kernel
theorem dX8_likest_87 : decode cX8_likest 87 = .ok (.iinc 5 1, 3) := by decide +kernel
theorem dX8_likest_90 : decode cX8_likest 90 = .ok (.goto (-35), 3) := by decide +kernel
theorem dX8_likest_93 : decode cX8_likest 93 = .ok (.iload 4, 2) := by decide +kernel
theorem dX8_likest_95 : decode cX8_likest 95 = .ok (.iload_n 2, 1) := by decide +kernel
theorem dX8_likest_96 : decode cX8_likest 96 = .ok (.if_icmp .ne 5, 3) := by decide +kernel
theorem dX8_likest_99 : decode cX8_likest 99 = .ok (.iload_n 3, 1) := by decide +kernel
theorem dX8_likest_100 : decode cX8_likest 100 = .ok (.ireturn, 1) := by decide +kernel
theorem dX8_likest_101 : decode cX8_likest 101 = .ok (.iinc 3 1, 3) := by decide +kernel
theorem dX8_likest_104 : decode cX8_likest 104 = .ok (.goto (-66), 3) := by decide +kernel
theorem dX8_likest_107 : decode cX8_likest 107 = .ok (.iconst 0, 1) := by decide +kernel
theorem dX8_likest_108 : decode cX8_likest 108 = .ok (.ireturn, 1) := by decide +kernel
theorem dX8_tieAll_0 : decode cX8_tieAll 0 = .ok (.aload_n 0, 1) := by decide +kernel
theorem dX8_tieAll_1 : decode cX8_tieAll 1 = .ok (.getfield 15, 3) := by decide +kernel
theorem dX8_tieAll_4 : decode cX8_tieAll 4 = .ok (.iconst 0, 1) := by decide +kernel
theorem dX8_tieAll_5 : decode cX8_tieAll 5 = .ok (.invokestatic 52, 3) := by decide +kernel
theorem dX8_tieAll_8 : decode cX8_tieAll 8 = .ok (.iconst 0, 1) := by decide +kernel
theorem dX8_tieAll_9 : decode cX8_tieAll 9 = .ok (.istore_n 1, 1) := by decide +kernel
theorem dX8_tieAll_10 : decode cX8_tieAll 10 = .ok (.iload_n 1, 1) := by decide +kernel
theorem dX8_tieAll_11 : decode cX8_tieAll 11 = .ok (.aload_n 0, 1) := by decide +kernel
theorem dX8_tieAll_12 : decode cX8_tieAll 12 = .ok (.getfield 18, 3) := by decide +kernel
theorem dX8_tieAll_15 : decode cX8_tieAll 15 = .ok (.getfield 58, 3) := by decide +kernel
theorem dX8_tieAll_18 : decode cX8_tieAll 18 = .ok (.if_icmp .ge 71, 3) := by decide +kernel
theorem dX8_tieAll_21 : decode cX8_tieAll 21 = .ok (.iconst 0, 1) := by decide +kernel
theorem dX8_tieAll_22 : decode cX8_tieAll 22 = .ok (.istore_n 2, 1) := by decide +kernel
theorem dX8_tieAll_23 : decode cX8_tieAll 23 = .ok (.iload_n 2, 1) := by decide +kernel
theorem dX8_tieAll_24 : decode cX8_tieAll 24 = .ok (.iload_n 1, 1) := by decide +kernel
theorem dX8_tieAll_25 : decode cX8_tieAll 25 = .ok (.if_icmp .ge 58, 3) := by decide +kernel
theorem dX8_tieAll_28 : decode cX8_tieAll 28 = .ok (.aload_n 0, 1) := by decide +kernel
theorem dX8_tieAll_29 : decode cX8_tieAll 29 = .ok (.aload_n 0, 1) := by decide +kernel
theorem dX8_tieAll_30 : decode cX8_tieAll 30 = .ok (.getfield 18, 3) := by decide +kernel
theorem dX8_tieAll_33 : decode cX8_tieAll 33 = .ok (.getfield 22, 3) := by decide +kernel
theorem dX8_tieAll_36 : decode cX8_tieAll 36 = .ok (.iload_n 1, 1) := by decide +kernel
theorem dX8_tieAll_37 : decode cX8_tieAll 37 = .ok (.aaload, 1) := by decide +kernel
theorem dX8_tieAll_38 : decode cX8_tieAll 38 = .ok (.aload_n 0, 1) := by decide +kernel
theorem dX8_tieAll_39 : decode cX8_tieAll 39 = .ok (.getfield 18, 3) := by decide +kernel
theorem dX8_tieAll_42 : decode cX8_tieAll 42 = .ok (.getfield 22, 3) := by decide +kernel
theorem dX8_tieAll_45 : decode cX8_tieAll 45 = .ok (.iload_n 2, 1) := by decide +kernel
theorem dX8_tieAll_46 : decode cX8_tieAll 46 = .ok (.aaload, 1) := by decide +kernel
theorem dX8_tieAll_47 : decode cX8_tieAll 47 = .ok (.invokevirtual 61, 3) := by decide +kernel
theorem dX8_tieAll_50 : decode cX8_tieAll 50 = .ok (.ifCond .eq 27, 3) := by decide +kernel
theorem dX8_tieAll_53 : decode cX8_tieAll 53 = .ok (.aload_n 0, 1) := by decide +kernel
theorem dX8_tieAll_54 : decode cX8_tieAll 54 = .ok (.getfield 15, 3) := by decide +kernel
theorem dX8_tieAll_57 : decode cX8_tieAll 57 = .ok (.iload_n 1, 1) := by decide +kernel
theorem dX8_tieAll_58 : decode cX8_tieAll 58 = .ok (.dup2, 1) := by decide +kernel
theorem dX8_tieAll_59 : decode cX8_tieAll 59 = .ok (.iaload, 1) := by decide +kernel
theorem dX8_tieAll_60 : decode cX8_tieAll 60 = .ok (.iconst 1, 1) := by decide +kernel
theorem dX8_tieAll_61 : decode cX8_tieAll 61 = .ok (.iload_n 2, 1) := by decide +kernel
theorem dX8_tieAll_62 : decode cX8_tieAll 62 = .ok (.ishl, 1) := by decide +kernel
theorem dX8_tieAll_63 : decode cX8_tieAll 63 = .ok (.ior, 1) := by decide +kernel
theorem dX8_tieAll_64 : decode cX8_tieAll 64 = .ok (.iastore, 1) := by decide +kernel
theorem dX8_tieAll_65 : decode cX8_tieAll 65 = .ok (.aload_n 0, 1) := by decide +kernel
theorem dX8_tieAll_66 : decode cX8_tieAll 66 = .ok (.getfield 15, 3) := by decide +kernel
theorem dX8_tieAll_69 : decode cX8_tieAll 69 = .ok (.iload_n 2, 1) := by decide +kernel
theorem dX8_tieAll_70 : decode cX8_tieAll 70 = .ok (.dup2, 1) := by decide +kernel
theorem dX8_tieAll_71 : decode cX8_tieAll 71 = .ok (.iaload, 1) := by decide +kernel
theorem dX8_tieAll_72 : decode cX8_tieAll 72 = .ok (.iconst 1, 1) := by decide +kernel
theorem dX8_tieAll_73 : decode cX8_tieAll 73 = .ok (.iload_n 1, 1) := by decide +kernel
theorem dX8_tieAll_74 : decode cX8_tieAll 74 = .ok (.ishl, 1) := by decide +kernel
theorem dX8_tieAll_75 : decode cX8_tieAll 75 = .ok (.ior, 1) := by decide +kernel
theorem dX8_tieAll_76 : decode cX8_tieAll 76 = .ok (.iastore, 1) := by decide +kernel
theorem dX8_tieAll_77 : decode cX8_tieAll 77 = .ok (.iinc 2 1, 3) := by decide +kernel
theorem dX8_tieAll_80 : decode cX8_tieAll 80 = .ok (.goto (-57), 3) := by decide +kernel
theorem dX8_tieAll_83 : decode cX8_tieAll 83 = .ok (.iinc 1 1, 3) := by decide +kernel
theorem dX8_tieAll_86 : decode cX8_tieAll 86 = .ok (.goto (-76), 3) := by decide +kernel
theorem dX8_tieAll_89 : decode cX8_tieAll 89 = .ok (.return_, 1) := by decide +kernel
theorem dX8_areTied_0 : decode cX8_areTied 0 = .ok (.iconst 0, 1) := by decide +kernel
theorem dX8_areTied_1 : decode cX8_areTied 1 = .ok (.istore_n 3, 1) := by decide +kernel
theorem dX8_areTied_2 : decode cX8_areTied 2 = .ok (.iload_n 3, 1) := by decide +kernel
theorem dX8_areTied_3 : decode cX8_areTied 3 = .ok (.iconst 2, 1) := by decide +kernel
theorem dX8_areTied_4 : decode cX8_areTied 4 = .ok (.if_icmp .ge 76, 3) := by decide +kernel
theorem dX8_areTied_7 : decode cX8_areTied 7 = .ok (.iconst 0, 1) := by decide +kernel
theorem dX8_areTied_8 : decode cX8_areTied 8 = .ok (.istore 4, 2) := by decide +kernel
theorem dX8_areTied_10 : decode cX8_areTied 10 = .ok (.iload 4, 2) := by decide +kernel
theorem dX8_areTied_12 : decode cX8_areTied 12 = .ok (.iconst 2, 1) := by decide +kernel
theorem dX8_areTied_13 : decode cX8_areTied 13 = .ok (.if_icmp .ge 61, 3) := by decide +kernel
theorem dX8_areTied_16 : decode cX8_areTied 16 = .ok (.aload_n 1, 1) := by decide +kernel
theorem dX8_areTied_17 : decode cX8_areTied 17 = .ok (.getfield 65, 3) := by decide +kernel
theorem dX8_areTied_20 : decode cX8_areTied 20 = .ok (.iload_n 3, 1) := by decide +kernel
theorem dX8_areTied_21 : decode cX8_areTied 21 = .ok (.iaload, 1) := by decide +kernel
theorem dX8_areTied_22 : decode cX8_areTied 22 = .ok (.istore 5, 2) := by decide +kernel
theorem dX8_areTied_24 : decode cX8_areTied 24 = .ok (.aload_n 2, 1) := by decide +kernel
theorem dX8_areTied_25 : decode cX8_areTied 25 = .ok (.getfield 65, 3) := by decide +kernel
theorem dX8_areTied_28 : decode cX8_areTied 28 = .ok (.iload 4, 2) := by decide +kernel
theorem dX8_areTied_30 : decode cX8_areTied 30 = .ok (.iaload, 1) := by decide +kernel
theorem dX8_areTied_31 : decode cX8_areTied 31 = .ok (.istore 6, 2) := by decide +kernel
theorem dX8_areTied_33 : decode cX8_areTied 33 = .ok (.iload 5, 2) := by decide +kernel
theorem dX8_areTied_35 : decode cX8_areTied 35 = .ok (.iload 6, 2) := by decide +kernel
theorem dX8_areTied_37 : decode cX8_areTied 37 = .ok (.if_icmp .eq 29, 3) := by decide +kernel
theorem dX8_areTied_40 : decode cX8_areTied 40 = .ok (.aload_n 0, 1) := by decide +kernel
theorem dX8_areTied_41 : decode cX8_areTied 41 = .ok (.getfield 18, 3) := by decide +kernel
theorem dX8_areTied_44 : decode cX8_areTied 44 = .ok (.getfield 68, 3) := by decide +kernel
theorem dX8_areTied_47 : decode cX8_areTied 47 = .ok (.iload 5, 2) := by decide +kernel
theorem dX8_areTied_49 : decode cX8_areTied 49 = .ok (.aaload, 1) := by decide +kernel
theorem dX8_areTied_50 : decode cX8_areTied 50 = .ok (.aload_n 0, 1) := by decide +kernel
theorem dX8_areTied_51 : decode cX8_areTied 51 = .ok (.getfield 18, 3) := by decide +kernel
theorem dX8_areTied_54 : decode cX8_areTied 54 = .ok (.getfield 68, 3) := by decide +kernel
theorem dX8_areTied_57 : decode cX8_areTied 57 = .ok (.iload 6, 2) := by decide +kernel
theorem dX8_areTied_59 : decode cX8_areTied 59 = .ok (.aaload, 1) := by decide +kernel
theorem dX8_areTied_60 : decode cX8_areTied 60 = .ok (.invokevirtual 71, 3) := by decide +kernel
theorem dX8_areTied_63 : decode cX8_areTied 63 = .ok (.ifCond .eq 5, 3) := by decide +kernel
theorem dX8_areTied_66 : decode cX8_areTied 66 = .ok (.iconst 1, 1) := by decide +kernel
theorem dX8_areTied_67 : decode cX8_areTied 67 = .ok (.ireturn, 1) := by decide +kernel
theorem dX8_areTied_68 : decode cX8_areTied 68 = .ok (.iinc 4 1, 3) := by decide +kernel
theorem dX8_areTied_71 : decode cX8_areTied 71 = .ok (.goto (-61), 3) := by decide +kernel
theorem dX8_areTied_74 : decode cX8_areTied 74 = .ok (.iinc 3 1, 3) := by decide +kernel
theorem dX8_areTied_77 : decode cX8_areTied 77 = .ok (.goto (-75), 3) := by decide +kernel
theorem dX8_areTied_80 : decode cX8_areTied 80 = .ok (.iconst 0, 1) := by decide +kernel
theorem dX8_areTied_81 : decode cX8_areTied 81 = .ok (.ireturn, 1) := by decide +kernel
theorem dX8_ringOf_0 : decode cX8_ringOf 0 = .ok (.iconst 1, 1) := by decide +kernel
theorem dX8_ringOf_1 : decode cX8_ringOf 1 = .ok (.iload_n 1, 1) := by decide +kernel
theorem dX8_ringOf_2 : decode cX8_ringOf 2 = .ok (.ishl, 1) := by decide +kernel
theorem dX8_ringOf_3 : decode cX8_ringOf 3 = .ok (.istore_n 2, 1) := by decide +kernel
theorem dX8_ringOf_4 : decode cX8_ringOf 4 = .ok (.iconst 0, 1) := by decide +kernel
theorem dX8_ringOf_5 : decode cX8_ringOf 5 = .ok (.istore_n 3, 1) := by decide +kernel
theorem dX8_ringOf_6 : decode cX8_ringOf 6 = .ok (.iconst 0, 1) := by decide +kernel
theorem dX8_ringOf_7 : decode cX8_ringOf 7 = .ok (.istore 4, 2) := by decide +kernel
theorem dX8_ringOf_9 : decode cX8_ringOf 9 = .ok (.iload 4, 2) := by decide +kernel
theorem dX8_ringOf_11 : decode cX8_ringOf 11 = .ok (.bipush 20, 2) := by decide +kernel
theorem dX8_ringOf_13 : decode cX8_ringOf 13 = .ok (.if_icmp .ge 56, 3) := by decide +kernel
theorem dX8_ringOf_16 : decode cX8_ringOf 16 = .ok (.iload_n 2, 1) := by decide +kernel
theorem dX8_ringOf_17 : decode cX8_ringOf 17 = .ok (.iload_n 3, 1) := by decide +kernel
theorem dX8_ringOf_18 : decode cX8_ringOf 18 = .ok (.if_icmp .eq 51, 3) := by decide +kernel
theorem dX8_ringOf_21 : decode cX8_ringOf 21 = .ok (.iload_n 2, 1) := by decide +kernel
theorem dX8_ringOf_22 : decode cX8_ringOf 22 = .ok (.istore_n 3, 1) := by decide +kernel
theorem dX8_ringOf_23 : decode cX8_ringOf 23 = .ok (.iconst 0, 1) := by decide +kernel
theorem dX8_ringOf_24 : decode cX8_ringOf 24 = .ok (.istore 5, 2) := by decide +kernel
theorem dX8_ringOf_26 : decode cX8_ringOf 26 = .ok (.iload 5, 2) := by decide +kernel
theorem dX8_ringOf_28 : decode cX8_ringOf 28 = .ok (.aload_n 0, 1) := by decide +kernel
theorem dX8_ringOf_29 : decode cX8_ringOf 29 = .ok (.getfield 18, 3) := by decide +kernel
theorem dX8_ringOf_32 : decode cX8_ringOf 32 = .ok (.getfield 58, 3) := by decide +kernel
theorem dX8_ringOf_35 : decode cX8_ringOf 35 = .ok (.if_icmp .ge 28, 3) := by decide +kernel
theorem dX8_ringOf_38 : decode cX8_ringOf 38 = .ok (.iload_n 2, 1) := by decide +kernel
theorem dX8_ringOf_39 : decode cX8_ringOf 39 = .ok (.iload 5, 2) := by decide +kernel
theorem dX8_ringOf_41 : decode cX8_ringOf 41 = .ok (.ishr, 1) := by decide +kernel
theorem dX8_ringOf_42 : decode cX8_ringOf 42 = .ok (.iconst 1, 1) := by decide +kernel
theorem dX8_ringOf_43 : decode cX8_ringOf 43 = .ok (.iand, 1) := by decide +kernel
theorem dX8_ringOf_44 : decode cX8_ringOf 44 = .ok (.ifCond .eq 13, 3) := by decide +kernel
theorem dX8_ringOf_47 : decode cX8_ringOf 47 = .ok (.iload_n 2, 1) := by decide +kernel
theorem dX8_ringOf_48 : decode cX8_ringOf 48 = .ok (.aload_n 0, 1) := by decide +kernel
theorem dX8_ringOf_49 : decode cX8_ringOf 49 = .ok (.getfield 15, 3) := by decide +kernel
theorem dX8_ringOf_52 : decode cX8_ringOf 52 = .ok (.iload 5, 2) := by decide +kernel
theorem dX8_ringOf_54 : decode cX8_ringOf 54 = .ok (.iaload, 1) := by decide +kernel
theorem dX8_ringOf_55 : decode cX8_ringOf 55 = .ok (.ior, 1) := by decide +kernel
theorem dX8_ringOf_56 : decode cX8_ringOf 56 = .ok (.istore_n 2, 1) := by decide +kernel
theorem dX8_ringOf_57 : decode cX8_ringOf 57 = .ok (.iinc 5 1, 3) := by decide +kernel
theorem dX8_ringOf_60 : decode cX8_ringOf 60 = .ok (.goto (-34), 3) := by decide +kernel
theorem dX8_ringOf_63 : decode cX8_ringOf 63 = .ok (.iinc 4 1, 3) := by decide +kernel
theorem dX8_ringOf_66 : decode cX8_ringOf 66 = .ok (.goto (-57), 3) := by decide +kernel
theorem dX8_ringOf_69 : decode cX8_ringOf 69 = .ok (.iload_n 2, 1) := by decide +kernel
theorem dX8_ringOf_70 : decode cX8_ringOf 70 = .ok (.ireturn, 1) := by decide +kernel
theorem dX8_ringsFrom_0 : decode cX8_ringsFrom 0 = .ok (.iconst 0, 1) := by decide +kernel
theorem dX8_ringsFrom_1 : decode cX8_ringsFrom 1 = .ok (.istore_n 2, 1) := by decide +kernel
theorem dX8_ringsFrom_2 : decode cX8_ringsFrom 2 = .ok (.iconst 0, 1) := by decide +kernel
theorem dX8_ringsFrom_3 : decode cX8_ringsFrom 3 = .ok (.istore_n 3, 1) := by decide +kernel
theorem dX8_ringsFrom_4 : decode cX8_ringsFrom 4 = .ok (.iconst 0, 1) := by decide +kernel
theorem dX8_ringsFrom_5 : decode cX8_ringsFrom 5 = .ok (.istore 4, 2) := by decide +kernel
theorem dX8_ringsFrom_7 : decode cX8_ringsFrom 7 = .ok (.iload 4, 2) := by decide +kernel
theorem dX8_ringsFrom_9 : decode cX8_ringsFrom 9 = .ok (.aload_n 0, 1) := by decide +kernel
theorem dX8_ringsFrom_10 : decode cX8_ringsFrom 10 = .ok (.getfield 18, 3) := by decide +kernel
theorem dX8_ringsFrom_13 : decode cX8_ringsFrom 13 = .ok (.getfield 58, 3) := by decide +kernel
theorem dX8_ringsFrom_16 : decode cX8_ringsFrom 16 = .ok (.if_icmp .ge 43, 3) := by decide +kernel
theorem dX8_ringsFrom_19 : decode cX8_ringsFrom 19 = .ok (.iload_n 2, 1) := by decide +kernel
theorem dX8_ringsFrom_20 : decode cX8_ringsFrom 20 = .ok (.iload 4, 2) := by decide +kernel
theorem dX8_ringsFrom_22 : decode cX8_ringsFrom 22 = .ok (.ishr, 1) := by decide +kernel
theorem dX8_ringsFrom_23 : decode cX8_ringsFrom 23 = .ok (.iconst 1, 1) := by decide +kernel
theorem dX8_ringsFrom_24 : decode cX8_ringsFrom 24 = .ok (.iand, 1) := by decide +kernel
theorem dX8_ringsFrom_25 : decode cX8_ringsFrom 25 = .ok (.ifCond .ne 28, 3) := by decide +kernel
theorem dX8_ringsFrom_28 : decode cX8_ringsFrom 28 = .ok (.aload_n 0, 1) := by decide +kernel
theorem dX8_ringsFrom_29 : decode cX8_ringsFrom 29 = .ok (.iload 4, 2) := by decide +kernel
theorem dX8_ringsFrom_31 : decode cX8_ringsFrom 31 = .ok (.invokevirtual 77, 3) := by decide +kernel
theorem dX8_ringsFrom_34 : decode cX8_ringsFrom 34 = .ok (.istore 5, 2) := by decide +kernel
theorem dX8_ringsFrom_36 : decode cX8_ringsFrom 36 = .ok (.iload_n 2, 1) := by decide +kernel
theorem dX8_ringsFrom_37 : decode cX8_ringsFrom 37 = .ok (.iload 5, 2) := by decide +kernel
theorem dX8_ringsFrom_39 : decode cX8_ringsFrom 39 = .ok (.ior, 1) := by decide +kernel
theorem dX8_ringsFrom_40 : decode cX8_ringsFrom 40 = .ok (.istore_n 2, 1) := by decide +kernel
theorem dX8_ringsFrom_41 : decode cX8_ringsFrom 41 = .ok (.iload 5, 2) := by decide +kernel
theorem dX8_ringsFrom_43 : decode cX8_ringsFrom 43 = .ok (.invokestatic 34, 3) := by decide +kernel
theorem dX8_ringsFrom_46 : decode cX8_ringsFrom 46 = .ok (.iload_n 1, 1) := by decide +kernel
theorem dX8_ringsFrom_47 : decode cX8_ringsFrom 47 = .ok (.if_icmp .lt 6, 3) := by decide +kernel
theorem dX8_ringsFrom_50 : decode cX8_ringsFrom 50 = .ok (.iinc 3 1, 3) := by decide +kernel
theorem dX8_ringsFrom_53 : decode cX8_ringsFrom 53 = .ok (.iinc 4 1, 3) := by decide +kernel
theorem dX8_ringsFrom_56 : decode cX8_ringsFrom 56 = .ok (.goto (-49), 3) := by decide +kernel
theorem dX8_ringsFrom_59 : decode cX8_ringsFrom 59 = .ok (.iload_n 3, 1) := by decide +kernel
theorem dX8_ringsFrom_60 : decode cX8_ringsFrom 60 = .ok (.ireturn, 1) := by decide +kernel
theorem dX8_greatestCore_0 : decode cX8_greatestCore 0 = .ok (.aload_n 0, 1) := by decide +kernel
theorem dX8_greatestCore_1 : decode cX8_greatestCore 1 = .ok (.iconst 0, 1) := by decide +kernel
theorem dX8_greatestCore_2 : decode cX8_greatestCore 2 = .ok (.putfield 80, 3) := by decide +kernel
theorem dX8_greatestCore_5 : decode cX8_greatestCore 5 = .ok (.aload_n 0, 1) := by decide +kernel
theorem dX8_greatestCore_6 : decode cX8_greatestCore 6 = .ok (.iconst 0, 1) := by decide +kernel
theorem dX8_greatestCore_7 : decode cX8_greatestCore 7 = .ok (.putfield 83, 3) := by decide +kernel
theorem dX8_greatestCore_10 : decode cX8_greatestCore 10 = .ok (.aload_n 0, 1) := by decide +kernel
theorem dX8_greatestCore_11 : decode cX8_greatestCore 11 = .ok (.iconst 0, 1) := by decide +kernel
theorem dX8_greatestCore_12 : decode cX8_greatestCore 12 = .ok (.iconst 0, 1) := by decide +kernel
theorem dX8_greatestCore_13 : decode cX8_greatestCore 13 = .ok (.iconst 1, 1) := by decide +kernel
theorem dX8_greatestCore_14 : decode cX8_greatestCore 14 = .ok (.aload_n 0, 1) := by decide +kernel
theorem dX8_greatestCore_15 : decode cX8_greatestCore 15 = .ok (.getfield 18, 3) := by decide +kernel
theorem dX8_greatestCore_18 : decode cX8_greatestCore 18 = .ok (.getfield 58, 3) := by decide +kernel
theorem dX8_greatestCore_21 : decode cX8_greatestCore 21 = .ok (.ishl, 1) := by decide +kernel
theorem dX8_greatestCore_22 : decode cX8_greatestCore 22 = .ok (.iconst 1, 1) := by decide +kernel
theorem dX8_greatestCore_23 : decode cX8_greatestCore 23 = .ok (.isub, 1) := by decide +kernel
theorem dX8_greatestCore_24 : decode cX8_greatestCore 24 = .ok (.invokevirtual 86, 3) := by decide +kernel
theorem dX8_greatestCore_27 : decode cX8_greatestCore 27 = .ok (.aload_n 0, 1) := by decide +kernel
theorem dX8_greatestCore_28 : decode cX8_greatestCore 28 = .ok (.getfield 80, 3) := by decide +kernel
theorem dX8_greatestCore_31 : decode cX8_greatestCore 31 = .ok (.ireturn, 1) := by decide +kernel
theorem dX8_grow_0 : decode cX8_grow 0 = .ok (.iload_n 2, 1) := by decide +kernel
theorem dX8_grow_1 : decode cX8_grow 1 = .ok (.aload_n 0, 1) := by decide +kernel
theorem dX8_grow_2 : decode cX8_grow 2 = .ok (.getfield 83, 3) := by decide +kernel
theorem dX8_grow_5 : decode cX8_grow 5 = .ok (.if_icmp .le 13, 3) := by decide +kernel
theorem dX8_grow_8 : decode cX8_grow 8 = .ok (.aload_n 0, 1) := by decide +kernel
theorem dX8_grow_9 : decode cX8_grow 9 = .ok (.iload_n 1, 1) := by decide +kernel
theorem dX8_grow_10 : decode cX8_grow 10 = .ok (.putfield 80, 3) := by decide +kernel
theorem dX8_grow_13 : decode cX8_grow 13 = .ok (.aload_n 0, 1) := by decide +kernel
theorem dX8_grow_14 : decode cX8_grow 14 = .ok (.iload_n 2, 1) := by decide +kernel
theorem dX8_grow_15 : decode cX8_grow 15 = .ok (.putfield 83, 3) := by decide +kernel
theorem dX8_grow_18 : decode cX8_grow 18 = .ok (.iload_n 2, 1) := by decide +kernel
theorem dX8_grow_19 : decode cX8_grow 19 = .ok (.bipush 20, 2) := by decide +kernel
theorem dX8_grow_21 : decode cX8_grow 21 = .ok (.if_icmp .lt 4, 3) := by decide +kernel
theorem dX8_grow_24 : decode cX8_grow 24 = .ok (.return_, 1) := by decide +kernel
theorem dX8_grow_25 : decode cX8_grow 25 = .ok (.iconst 0, 1) := by decide +kernel
theorem dX8_grow_26 : decode cX8_grow 26 = .ok (.istore 4, 2) := by decide +kernel
theorem dX8_grow_28 : decode cX8_grow 28 = .ok (.iload 4, 2) := by decide +kernel
theorem dX8_grow_30 : decode cX8_grow 30 = .ok (.aload_n 0, 1) := by decide +kernel
theorem dX8_grow_31 : decode cX8_grow 31 = .ok (.getfield 18, 3) := by decide +kernel
theorem dX8_grow_34 : decode cX8_grow 34 = .ok (.getfield 58, 3) := by decide +kernel
theorem dX8_grow_37 : decode cX8_grow 37 = .ok (.if_icmp .ge 67, 3) := by decide +kernel
theorem dX8_grow_40 : decode cX8_grow 40 = .ok (.iload_n 3, 1) := by decide +kernel
theorem dX8_grow_41 : decode cX8_grow 41 = .ok (.iload 4, 2) := by decide +kernel
theorem dX8_grow_43 : decode cX8_grow 43 = .ok (.ishr, 1) := by decide +kernel
theorem dX8_grow_44 : decode cX8_grow 44 = .ok (.iconst 1, 1) := by decide +kernel
theorem dX8_grow_45 : decode cX8_grow 45 = .ok (.iand, 1) := by decide +kernel
theorem dX8_grow_46 : decode cX8_grow 46 = .ok (.ifCond .eq 52, 3) := by decide +kernel
theorem dX8_grow_49 : decode cX8_grow 49 = .ok (.iload_n 3, 1) := by decide +kernel
theorem dX8_grow_50 : decode cX8_grow 50 = .ok (.aload_n 0, 1) := by decide +kernel
theorem dX8_grow_51 : decode cX8_grow 51 = .ok (.getfield 15, 3) := by decide +kernel
theorem dX8_grow_54 : decode cX8_grow 54 = .ok (.iload 4, 2) := by decide +kernel
theorem dX8_grow_56 : decode cX8_grow 56 = .ok (.iaload, 1) := by decide +kernel
theorem dX8_grow_57 : decode cX8_grow 57 = .ok (.iand, 1) := by decide +kernel
theorem dX8_grow_58 : decode cX8_grow 58 = .ok (.iconst 1, 1) := by decide +kernel
theorem dX8_grow_59 : decode cX8_grow 59 = .ok (.iload 4, 2) := by decide +kernel
theorem dX8_grow_61 : decode cX8_grow 61 = .ok (.ishl, 1) := by decide +kernel
theorem dX8_grow_62 : decode cX8_grow 62 = .ok (.iconst 1, 1) := by decide +kernel
theorem dX8_grow_63 : decode cX8_grow 63 = .ok (.isub, 1) := by decide +kernel
theorem dX8_grow_64 : decode cX8_grow 64 = .ok (.iand, 1) := by decide +kernel
theorem dX8_grow_65 : decode cX8_grow 65 = .ok (.istore 5, 2) := by decide +kernel
theorem dX8_grow_67 : decode cX8_grow 67 = .ok (.iload_n 2, 1) := by decide +kernel
theorem dX8_grow_68 : decode cX8_grow 68 = .ok (.iconst 1, 1) := by decide +kernel
theorem dX8_grow_69 : decode cX8_grow 69 = .ok (.iadd, 1) := by decide +kernel
theorem dX8_grow_70 : decode cX8_grow 70 = .ok (.iload 5, 2) := by decide +kernel
theorem dX8_grow_72 : decode cX8_grow 72 = .ok (.invokestatic 34, 3) := by decide +kernel
theorem dX8_grow_75 : decode cX8_grow 75 = .ok (.iadd, 1) := by decide +kernel
theorem dX8_grow_76 : decode cX8_grow 76 = .ok (.aload_n 0, 1) := by decide +kernel
theorem dX8_grow_77 : decode cX8_grow 77 = .ok (.getfield 83, 3) := by decide +kernel
theorem dX8_grow_80 : decode cX8_grow 80 = .ok (.if_icmp .le 18, 3) := by decide +kernel
theorem dX8_grow_83 : decode cX8_grow 83 = .ok (.aload_n 0, 1) := by decide +kernel
theorem dX8_grow_84 : decode cX8_grow 84 = .ok (.iload_n 1, 1) := by decide +kernel
theorem dX8_grow_85 : decode cX8_grow 85 = .ok (.iconst 1, 1) := by decide +kernel
theorem dX8_grow_86 : decode cX8_grow 86 = .ok (.iload 4, 2) := by decide +kernel
theorem dX8_grow_88 : decode cX8_grow 88 = .ok (.ishl, 1) := by decide +kernel
theorem dX8_grow_89 : decode cX8_grow 89 = .ok (.ior, 1) := by decide +kernel
theorem dX8_grow_90 : decode cX8_grow 90 = .ok (.iload_n 2, 1) := by decide +kernel
theorem dX8_grow_91 : decode cX8_grow 91 = .ok (.iconst 1, 1) := by decide +kernel
theorem dX8_grow_92 : decode cX8_grow 92 = .ok (.iadd, 1) := by decide +kernel
theorem dX8_grow_93 : decode cX8_grow 93 = .ok (.iload 5, 2) := by decide +kernel
theorem dX8_grow_95 : decode cX8_grow 95 = .ok (.invokevirtual 86, 3) := by decide +kernel
theorem dX8_grow_98 : decode cX8_grow 98 = .ok (.iinc 4 1, 3) := by decide +kernel
theorem dX8_grow_101 : decode cX8_grow 101 = .ok (.goto (-73), 3) := by decide +kernel
theorem dX8_grow_104 : decode cX8_grow 104 = .ok (.return_, 1) := by decide +kernel
theorem dX9_init_0 : decode cX9_init 0 = .ok (.aload_n 0, 1) := by decide +kernel
theorem dX9_init_1 : decode cX9_init 1 = .ok (.invokespecial 3, 3) := by decide +kernel
theorem dX9_init_4 : decode cX9_init 4 = .ok (.aload_n 0, 1) := by decide +kernel
theorem dX9_init_5 : decode cX9_init 5 = .ok (.bipush 60, 2) := by decide +kernel
theorem dX9_init_7 : decode cX9_init 7 = .ok (.newarray .int, 2) := by decide +kernel
theorem dX9_init_9 : decode cX9_init 9 = .ok (.putfield 9, 3) := by decide +kernel
theorem dX9_init_12 : decode cX9_init 12 = .ok (.return_, 1) := by decide +kernel
theorem dX9_become_0 : decode cX9_become 0 = .ok (.aload_n 0, 1) := by decide +kernel
theorem dX9_become_1 : decode cX9_become 1 = .ok (.iload_n 1, 1) := by decide +kernel
theorem dX9_become_2 : decode cX9_become 2 = .ok (.putfield 15, 3) := by decide +kernel
theorem dX9_become_5 : decode cX9_become 5 = .ok (.aload_n 0, 1) := by decide +kernel
theorem dX9_become_6 : decode cX9_become 6 = .ok (.iload_n 2, 1) := by decide +kernel
theorem dX9_become_7 : decode cX9_become 7 = .ok (.putfield 19, 3) := by decide +kernel
theorem dX9_become_10 : decode cX9_become 10 = .ok (.aload_n 0, 1) := by decide +kernel
theorem dX9_become_11 : decode cX9_become 11 = .ok (.iconst 0, 1) := by decide +kernel
theorem dX9_become_12 : decode cX9_become 12 = .ok (.putfield 22, 3) := by decide +kernel
theorem dX9_become_15 : decode cX9_become 15 = .ok (.return_, 1) := by decide +kernel
theorem dX9_copyFrom_0 : decode cX9_copyFrom 0 = .ok (.aload_n 1, 1) := by decide +kernel
theorem dX9_copyFrom_1 : decode cX9_copyFrom 1 = .ok (.getfield 9, 3) := by decide +kernel
theorem dX9_copyFrom_4 : decode cX9_copyFrom 4 = .ok (.iconst 0, 1) := by decide +kernel
theorem dX9_copyFrom_5 : decode cX9_copyFrom 5 = .ok (.aload_n 0, 1) := by decide +kernel
theorem dX9_copyFrom_6 : decode cX9_copyFrom 6 = .ok (.getfield 9, 3) := by decide +kernel
theorem dX9_copyFrom_9 : decode cX9_copyFrom 9 = .ok (.iconst 0, 1) := by decide +kernel
theorem dX9_copyFrom_10 : decode cX9_copyFrom 10 = .ok (.bipush 60, 2) := by decide +kernel
theorem dX9_copyFrom_12 : decode cX9_copyFrom 12 = .ok (.invokestatic 25, 3) := by decide +kernel
theorem dX9_copyFrom_15 : decode cX9_copyFrom 15 = .ok (.aload_n 0, 1) := by decide +kernel
theorem dX9_copyFrom_16 : decode cX9_copyFrom 16 = .ok (.aload_n 1, 1) := by decide +kernel
theorem dX9_copyFrom_17 : decode cX9_copyFrom 17 = .ok (.getfield 22, 3) := by decide +kernel
theorem dX9_copyFrom_20 : decode cX9_copyFrom 20 = .ok (.putfield 22, 3) := by decide +kernel
theorem dX9_copyFrom_23 : decode cX9_copyFrom 23 = .ok (.aload_n 0, 1) := by decide +kernel
theorem dX9_copyFrom_24 : decode cX9_copyFrom 24 = .ok (.aload_n 1, 1) := by decide +kernel
theorem dX9_copyFrom_25 : decode cX9_copyFrom 25 = .ok (.getfield 15, 3) := by decide +kernel
theorem dX9_copyFrom_28 : decode cX9_copyFrom 28 = .ok (.putfield 15, 3) := by decide +kernel
theorem dX9_copyFrom_31 : decode cX9_copyFrom 31 = .ok (.aload_n 0, 1) := by decide +kernel
theorem dX9_copyFrom_32 : decode cX9_copyFrom 32 = .ok (.aload_n 1, 1) := by decide +kernel
theorem dX9_copyFrom_33 : decode cX9_copyFrom 33 = .ok (.getfield 19, 3) := by decide +kernel
theorem dX9_copyFrom_36 : decode cX9_copyFrom 36 = .ok (.putfield 19, 3) := by decide +kernel
theorem dX9_copyFrom_39 : decode cX9_copyFrom 39 = .ok (.return_, 1) := by decide +kernel
theorem dX9_push_0 : decode cX9_push 0 = .ok (.aload_n 0, 1) := by decide +kernel
theorem dX9_push_1 : decode cX9_push 1 = .ok (.getfield 22, 3) := by decide +kernel
theorem dX9_push_4 : decode cX9_push 4 = .ok (.bipush 60, 2) := by decide +kernel
theorem dX9_push_6 : decode cX9_push 6 = .ok (.if_icmp .ge 23, 3) := by decide +kernel
theorem dX9_push_9 : decode cX9_push 9 = .ok (.aload_n 0, 1) := by decide +kernel
theorem dX9_push_10 : decode cX9_push 10 = .ok (.getfield 9, 3) := by decide +kernel
theorem dX9_push_13 : decode cX9_push 13 = .ok (.aload_n 0, 1) := by decide +kernel
theorem dX9_push_14 : decode cX9_push 14 = .ok (.getfield 22, 3) := by decide +kernel
theorem dX9_push_17 : decode cX9_push 17 = .ok (.iload_n 1, 1) := by decide +kernel
theorem dX9_push_18 : decode cX9_push 18 = .ok (.iastore, 1) := by decide +kernel
theorem dX9_push_19 : decode cX9_push 19 = .ok (.aload_n 0, 1) := by decide +kernel
theorem dX9_push_20 : decode cX9_push 20 = .ok (.dup, 1) := by decide +kernel
theorem dX9_push_21 : decode cX9_push 21 = .ok (.getfield 22, 3) := by decide +kernel
theorem dX9_push_24 : decode cX9_push 24 = .ok (.iconst 1, 1) := by decide +kernel
theorem dX9_push_25 : decode cX9_push 25 = .ok (.iadd, 1) := by decide +kernel
theorem dX9_push_26 : decode cX9_push 26 = .ok (.putfield 22, 3) := by decide +kernel
theorem dX9_push_29 : decode cX9_push 29 = .ok (.return_, 1) := by decide +kernel
theorem dX9_comesTo_0 : decode cX9_comesTo 0 = .ok (.iconst (-1), 1) := by decide +kernel
theorem dX9_comesTo_1 : decode cX9_comesTo 1 = .ok (.istore_n 3, 1) := by decide +kernel
theorem dX9_comesTo_2 : decode cX9_comesTo 2 = .ok (.iconst 0, 1) := by decide +kernel
theorem dX9_comesTo_3 : decode cX9_comesTo 3 = .ok (.istore 4, 2) := by decide +kernel
theorem dX9_comesTo_5 : decode cX9_comesTo 5 = .ok (.iload 4, 2) := by decide +kernel
theorem dX9_comesTo_7 : decode cX9_comesTo 7 = .ok (.aload_n 0, 1) := by decide +kernel
theorem dX9_comesTo_8 : decode cX9_comesTo 8 = .ok (.getfield 22, 3) := by decide +kernel
theorem dX9_comesTo_11 : decode cX9_comesTo 11 = .ok (.if_icmp .ge 174, 3) := by decide +kernel
theorem dX9_comesTo_14 : decode cX9_comesTo 14 = .ok (.aload_n 0, 1) := by decide +kernel
theorem dX9_comesTo_15 : decode cX9_comesTo 15 = .ok (.getfield 9, 3) := by decide +kernel
theorem dX9_comesTo_18 : decode cX9_comesTo 18 = .ok (.iload 4, 2) := by decide +kernel
theorem dX9_comesTo_20 : decode cX9_comesTo 20 = .ok (.iaload, 1) := by decide +kernel
theorem dX9_comesTo_21 : decode cX9_comesTo 21 = .ok (.istore 5, 2) := by decide +kernel
theorem dX9_comesTo_23 : decode cX9_comesTo 23 = .ok (.iload 5, 2) := by decide +kernel
theorem dX9_comesTo_25 : decode cX9_comesTo 25 = .ok (.ifCond .lt 22, 3) := by decide +kernel
theorem dX9_comesTo_28 : decode cX9_comesTo 28 = .ok (.iload_n 3, 1) := by decide +kernel
theorem dX9_comesTo_29 : decode cX9_comesTo 29 = .ok (.iconst 1, 1) := by decide +kernel
theorem dX9_comesTo_30 : decode cX9_comesTo 30 = .ok (.iadd, 1) := by decide +kernel
theorem dX9_comesTo_31 : decode cX9_comesTo 31 = .ok (.aload_n 2, 1) := by decide +kernel
theorem dX9_comesTo_32 : decode cX9_comesTo 32 = .ok (.arraylength, 1) := by decide +kernel
theorem dX9_comesTo_33 : decode cX9_comesTo 33 = .ok (.if_icmp .ge 14, 3) := by decide +kernel
theorem dX9_comesTo_36 : decode cX9_comesTo 36 = .ok (.iinc 3 1, 3) := by decide +kernel
theorem dX9_comesTo_39 : decode cX9_comesTo 39 = .ok (.aload_n 2, 1) := by decide +kernel
theorem dX9_comesTo_40 : decode cX9_comesTo 40 = .ok (.iload_n 3, 1) := by decide +kernel
theorem dX9_comesTo_41 : decode cX9_comesTo 41 = .ok (.iload 5, 2) := by decide +kernel
theorem dX9_comesTo_43 : decode cX9_comesTo 43 = .ok (.iastore, 1) := by decide +kernel
theorem dX9_comesTo_44 : decode cX9_comesTo 44 = .ok (.goto 135, 3) := by decide +kernel
theorem dX9_comesTo_47 : decode cX9_comesTo 47 = .ok (.iload 5, 2) := by decide +kernel
theorem dX9_comesTo_49 : decode cX9_comesTo 49 = .ok (.ifCond .ge 43, 3) := by decide +kernel
theorem dX9_comesTo_52 : decode cX9_comesTo 52 = .ok (.iload 5, 2) := by decide +kernel
theorem dX9_comesTo_54 : decode cX9_comesTo 54 = .ok (.sipush (-1000), 3) := by decide +kernel
theorem dX9_comesTo_57 : decode cX9_comesTo 57 = .ok (.if_icmp .le 35, 3) := by decide +kernel
theorem dX9_comesTo_60 : decode cX9_comesTo 60 = .ok (.iconst (-1), 1) := by decide +kernel
theorem dX9_comesTo_61 : decode cX9_comesTo 61 = .ok (.iload 5, 2) := by decide +kernel
theorem dX9_comesTo_63 : decode cX9_comesTo 63 = .ok (.isub, 1) := by decide +kernel
theorem dX9_comesTo_64 : decode cX9_comesTo 64 = .ok (.aload_n 1, 1) := by decide +kernel
theorem dX9_comesTo_65 : decode cX9_comesTo 65 = .ok (.arraylength, 1) := by decide +kernel
theorem dX9_comesTo_66 : decode cX9_comesTo 66 = .ok (.if_icmp .ge 26, 3) := by decide +kernel
theorem dX9_comesTo_69 : decode cX9_comesTo 69 = .ok (.iload_n 3, 1) := by decide +kernel
theorem dX9_comesTo_70 : decode cX9_comesTo 70 = .ok (.iconst 1, 1) := by decide +kernel
theorem dX9_comesTo_71 : decode cX9_comesTo 71 = .ok (.iadd, 1) := by decide +kernel
theorem dX9_comesTo_72 : decode cX9_comesTo 72 = .ok (.aload_n 2, 1) := by decide +kernel
theorem dX9_comesTo_73 : decode cX9_comesTo 73 = .ok (.arraylength, 1) := by decide +kernel
theorem dX9_comesTo_74 : decode cX9_comesTo 74 = .ok (.if_icmp .ge 18, 3) := by decide +kernel
theorem dX9_comesTo_77 : decode cX9_comesTo 77 = .ok (.iinc 3 1, 3) := by decide +kernel
theorem dX9_comesTo_80 : decode cX9_comesTo 80 = .ok (.aload_n 2, 1) := by decide +kernel
theorem dX9_comesTo_81 : decode cX9_comesTo 81 = .ok (.iload_n 3, 1) := by decide +kernel
theorem dX9_comesTo_82 : decode cX9_comesTo 82 = .ok (.aload_n 1, 1) := by decide +kernel
theorem dX9_comesTo_83 : decode cX9_comesTo 83 = .ok (.iconst (-1), 1) := by decide +kernel
theorem dX9_comesTo_84 : decode cX9_comesTo 84 = .ok (.iload 5, 2) := by decide +kernel
theorem dX9_comesTo_86 : decode cX9_comesTo 86 = .ok (.isub, 1) := by decide +kernel
theorem dX9_comesTo_87 : decode cX9_comesTo 87 = .ok (.iaload, 1) := by decide +kernel
theorem dX9_comesTo_88 : decode cX9_comesTo 88 = .ok (.iastore, 1) := by decide +kernel
theorem dX9_comesTo_89 : decode cX9_comesTo 89 = .ok (.goto 90, 3) := by decide +kernel
theorem dX9_comesTo_92 : decode cX9_comesTo 92 = .ok (.iload 5, 2) := by decide +kernel
theorem dX9_comesTo_94 : decode cX9_comesTo 94 = .ok (.sipush (-1033), 3) := by decide +kernel
theorem dX9_comesTo_97 : decode cX9_comesTo 97 = .ok (.if_icmp .ne 24, 3) := by decide +kernel
theorem dX9_comesTo_100 : decode cX9_comesTo 100 = .ok (.iload_n 3, 1) := by decide +kernel
theorem dX9_comesTo_101 : decode cX9_comesTo 101 = .ok (.ifCond .lt 20, 3) := by decide +kernel
theorem dX9_comesTo_104 : decode cX9_comesTo 104 = .ok (.aload_n 2, 1) := by decide +kernel
theorem dX9_comesTo_105 : decode cX9_comesTo 105 = .ok (.iload_n 3, 1) := by decide +kernel
theorem dX9_comesTo_106 : decode cX9_comesTo 106 = .ok (.aload_n 2, 1) := by decide +kernel
theorem dX9_comesTo_107 : decode cX9_comesTo 107 = .ok (.iload_n 3, 1) := by decide +kernel
theorem dX9_comesTo_108 : decode cX9_comesTo 108 = .ok (.iaload, 1) := by decide +kernel
theorem dX9_comesTo_109 : decode cX9_comesTo 109 = .ok (.ifCond .ne 7, 3) := by decide +kernel
theorem dX9_comesTo_112 : decode cX9_comesTo 112 = .ok (.iconst 1, 1) := by decide +kernel
theorem dX9_comesTo_113 : decode cX9_comesTo 113 = .ok (.goto 4, 3) := by decide +kernel
theorem dX9_comesTo_116 : decode cX9_comesTo 116 = .ok (.iconst 0, 1) := by decide +kernel
theorem dX9_comesTo_117 : decode cX9_comesTo 117 = .ok (.iastore, 1) := by decide +kernel
theorem dX9_comesTo_118 : decode cX9_comesTo 118 = .ok (.goto 61, 3) := by decide +kernel
theorem dX9_comesTo_121 : decode cX9_comesTo 121 = .ok (.iload 5, 2) := by decide +kernel
theorem dX9_comesTo_123 : decode cX9_comesTo 123 = .ok (.sipush (-1110), 3) := by decide +kernel
theorem dX9_comesTo_126 : decode cX9_comesTo 126 = .ok (.if_icmp .ne 17, 3) := by decide +kernel
theorem dX9_comesTo_129 : decode cX9_comesTo 129 = .ok (.iload_n 3, 1) := by decide +kernel
theorem dX9_comesTo_130 : decode cX9_comesTo 130 = .ok (.ifCond .lt 13, 3) := by decide +kernel
theorem dX9_comesTo_133 : decode cX9_comesTo 133 = .ok (.aload_n 2, 1) := by decide +kernel
theorem dX9_comesTo_134 : decode cX9_comesTo 134 = .ok (.iload_n 3, 1) := by decide +kernel
theorem dX9_comesTo_135 : decode cX9_comesTo 135 = .ok (.aload_n 2, 1) := by decide +kernel
theorem dX9_comesTo_136 : decode cX9_comesTo 136 = .ok (.iload_n 3, 1) := by decide +kernel
theorem dX9_comesTo_137 : decode cX9_comesTo 137 = .ok (.iaload, 1) := by decide +kernel
theorem dX9_comesTo_138 : decode cX9_comesTo 138 = .ok (.ineg, 1) := by decide +kernel
theorem dX9_comesTo_139 : decode cX9_comesTo 139 = .ok (.iastore, 1) := by decide +kernel
theorem dX9_comesTo_140 : decode cX9_comesTo 140 = .ok (.goto 39, 3) := by decide +kernel
theorem dX9_comesTo_143 : decode cX9_comesTo 143 = .ok (.iload 5, 2) := by decide +kernel
theorem dX9_comesTo_145 : decode cX9_comesTo 145 = .ok (.sipush (-1000), 3) := by decide +kernel
theorem dX9_comesTo_148 : decode cX9_comesTo 148 = .ok (.if_icmp .ge 31, 3) := by decide +kernel
theorem dX9_comesTo_151 : decode cX9_comesTo 151 = .ok (.iload_n 3, 1) := by decide +kernel
theorem dX9_comesTo_152 : decode cX9_comesTo 152 = .ok (.iconst 1, 1) := by decide +kernel
theorem dX9_comesTo_153 : decode cX9_comesTo 153 = .ok (.if_icmp .lt 26, 3) := by decide +kernel
theorem dX9_comesTo_156 : decode cX9_comesTo 156 = .ok (.iinc 3 (-1), 3) := by decide +kernel
theorem dX9_comesTo_159 : decode cX9_comesTo 159 = .ok (.aload_n 2, 1) := by decide +kernel
theorem dX9_comesTo_160 : decode cX9_comesTo 160 = .ok (.iload_n 3, 1) := by decide +kernel
theorem dX9_comesTo_161 : decode cX9_comesTo 161 = .ok (.sipush (-1000), 3) := by decide +kernel
theorem dX9_comesTo_164 : decode cX9_comesTo 164 = .ok (.iload 5, 2) := by decide +kernel
theorem dX9_comesTo_166 : decode cX9_comesTo 166 = .ok (.isub, 1) := by decide +kernel
theorem dX9_comesTo_167 : decode cX9_comesTo 167 = .ok (.aload_n 2, 1) := by decide +kernel
theorem dX9_comesTo_168 : decode cX9_comesTo 168 = .ok (.iload_n 3, 1) := by decide +kernel
theorem dX9_comesTo_169 : decode cX9_comesTo 169 = .ok (.iaload, 1) := by decide +kernel
theorem dX9_comesTo_170 : decode cX9_comesTo 170 = .ok (.aload_n 2, 1) := by decide +kernel
theorem dX9_comesTo_171 : decode cX9_comesTo 171 = .ok (.iload_n 3, 1) := by decide +kernel
theorem dX9_comesTo_172 : decode cX9_comesTo 172 = .ok (.iconst 1, 1) := by decide +kernel
theorem dX9_comesTo_173 : decode cX9_comesTo 173 = .ok (.iadd, 1) := by decide +kernel
theorem dX9_comesTo_174 : decode cX9_comesTo 174 = .ok (.iaload, 1) := by decide +kernel
theorem dX9_comesTo_175 : decode cX9_comesTo 175 = .ok (.invokestatic 31, 3) := by decide +kernel
theorem dX9_comesTo_178 : decode cX9_comesTo 178 = .ok (.iastore, 1) := by decide +kernel
theorem dX9_comesTo_179 : decode cX9_comesTo 179 = .ok (.iinc 4 1, 3) := by decide +kernel
theorem dX9_comesTo_182 : decode cX9_comesTo 182 = .ok (.goto (-177), 3) := by decide +kernel
theorem dX9_comesTo_185 : decode cX9_comesTo 185 = .ok (.iload_n 3, 1) := by decide +kernel
theorem dX9_comesTo_186 : decode cX9_comesTo 186 = .ok (.ifCond .lt 9, 3) := by decide +kernel
theorem dX9_comesTo_189 : decode cX9_comesTo 189 = .ok (.aload_n 2, 1) := by decide +kernel
theorem dX9_comesTo_190 : decode cX9_comesTo 190 = .ok (.iload_n 3, 1) := by decide +kernel
theorem dX9_comesTo_191 : decode cX9_comesTo 191 = .ok (.iaload, 1) := by decide +kernel
theorem dX9_comesTo_192 : decode cX9_comesTo 192 = .ok (.goto 4, 3) := by decide +kernel
theorem dX9_comesTo_195 : decode cX9_comesTo 195 = .ok (.iconst 0, 1) := by decide +kernel
theorem dX9_comesTo_196 : decode cX9_comesTo 196 = .ok (.ireturn, 1) := by decide +kernel
theorem dX9_join_0 : decode cX9_join 0 = .ok (.iload_n 0, 1) := by decide +kernel
theorem dX9_join_1 : decode cX9_join 1 = .ok (.lookupswitch 206 #[(38, 113), (42, 168), (43, 160), (45, 164), (47, 172), (60, 127), (61, 138), (62, 149), (103, 184), (108, 195), (124, 99)], 99) := by decide +kernel
theorem dX9_join_100 : decode cX9_join 100 = .ok (.iload_n 1, 1) := by decide +kernel
theorem dX9_join_101 : decode cX9_join 101 = .ok (.ifCond .ne 7, 3) := by decide +kernel
theorem dX9_join_104 : decode cX9_join 104 = .ok (.iload_n 2, 1) := by decide +kernel
theorem dX9_join_105 : decode cX9_join 105 = .ok (.ifCond .eq 7, 3) := by decide +kernel
theorem dX9_join_108 : decode cX9_join 108 = .ok (.iconst 1, 1) := by decide +kernel
theorem dX9_join_109 : decode cX9_join 109 = .ok (.goto 4, 3) := by decide +kernel
theorem dX9_join_112 : decode cX9_join 112 = .ok (.iconst 0, 1) := by decide +kernel
theorem dX9_join_113 : decode cX9_join 113 = .ok (.ireturn, 1) := by decide +kernel
theorem dX9_join_114 : decode cX9_join 114 = .ok (.iload_n 1, 1) := by decide +kernel
theorem dX9_join_115 : decode cX9_join 115 = .ok (.ifCond .eq 11, 3) := by decide +kernel
theorem dX9_join_118 : decode cX9_join 118 = .ok (.iload_n 2, 1) := by decide +kernel
theorem dX9_join_119 : decode cX9_join 119 = .ok (.ifCond .eq 7, 3) := by decide +kernel
theorem dX9_join_122 : decode cX9_join 122 = .ok (.iconst 1, 1) := by decide +kernel
theorem dX9_join_123 : decode cX9_join 123 = .ok (.goto 4, 3) := by decide +kernel
theorem dX9_join_126 : decode cX9_join 126 = .ok (.iconst 0, 1) := by decide +kernel
theorem dX9_join_127 : decode cX9_join 127 = .ok (.ireturn, 1) := by decide +kernel
theorem dX9_join_128 : decode cX9_join 128 = .ok (.iload_n 1, 1) := by decide +kernel
theorem dX9_join_129 : decode cX9_join 129 = .ok (.iload_n 2, 1) := by decide +kernel
theorem dX9_join_130 : decode cX9_join 130 = .ok (.if_icmp .ge 7, 3) := by decide +kernel
theorem dX9_join_133 : decode cX9_join 133 = .ok (.iconst 1, 1) := by decide +kernel
theorem dX9_join_134 : decode cX9_join 134 = .ok (.goto 4, 3) := by decide +kernel
theorem dX9_join_137 : decode cX9_join 137 = .ok (.iconst 0, 1) := by decide +kernel
theorem dX9_join_138 : decode cX9_join 138 = .ok (.ireturn, 1) := by decide +kernel
theorem dX9_join_139 : decode cX9_join 139 = .ok (.iload_n 1, 1) := by decide +kernel
theorem dX9_join_140 : decode cX9_join 140 = .ok (.iload_n 2, 1) := by decide +kernel
theorem dX9_join_141 : decode cX9_join 141 = .ok (.if_icmp .ne 7, 3) := by decide +kernel
theorem dX9_join_144 : decode cX9_join 144 = .ok (.iconst 1, 1) := by decide +kernel
theorem dX9_join_145 : decode cX9_join 145 = .ok (.goto 4, 3) := by decide +kernel
theorem dX9_join_148 : decode cX9_join 148 = .ok (.iconst 0, 1) := by decide +kernel
theorem dX9_join_149 : decode cX9_join 149 = .ok (.ireturn, 1) := by decide +kernel
theorem dX9_join_150 : decode cX9_join 150 = .ok (.iload_n 1, 1) := by decide +kernel
theorem dX9_join_151 : decode cX9_join 151 = .ok (.iload_n 2, 1) := by decide +kernel
theorem dX9_join_152 : decode cX9_join 152 = .ok (.if_icmp .le 7, 3) := by decide +kernel
theorem dX9_join_155 : decode cX9_join 155 = .ok (.iconst 1, 1) := by decide +kernel
theorem dX9_join_156 : decode cX9_join 156 = .ok (.goto 4, 3) := by decide +kernel
theorem dX9_join_159 : decode cX9_join 159 = .ok (.iconst 0, 1) := by decide +kernel
theorem dX9_join_160 : decode cX9_join 160 = .ok (.ireturn, 1) := by decide +kernel
theorem dX9_join_161 : decode cX9_join 161 = .ok (.iload_n 1, 1) := by decide +kernel
theorem dX9_join_162 : decode cX9_join 162 = .ok (.iload_n 2, 1) := by decide +kernel
theorem dX9_join_163 : decode cX9_join 163 = .ok (.iadd, 1) := by decide +kernel
theorem dX9_join_164 : decode cX9_join 164 = .ok (.ireturn, 1) := by decide +kernel
theorem dX9_join_165 : decode cX9_join 165 = .ok (.iload_n 1, 1) := by decide +kernel
theorem dX9_join_166 : decode cX9_join 166 = .ok (.iload_n 2, 1) := by decide +kernel
theorem dX9_join_167 : decode cX9_join 167 = .ok (.isub, 1) := by decide +kernel
theorem dX9_join_168 : decode cX9_join 168 = .ok (.ireturn, 1) := by decide +kernel
theorem dX9_join_169 : decode cX9_join 169 = .ok (.iload_n 1, 1) := by decide +kernel
theorem dX9_join_170 : decode cX9_join 170 = .ok (.iload_n 2, 1) := by decide +kernel
theorem dX9_join_171 : decode cX9_join 171 = .ok (.imul, 1) := by decide +kernel
theorem dX9_join_172 : decode cX9_join 172 = .ok (.ireturn, 1) := by decide +kernel
theorem dX9_join_173 : decode cX9_join 173 = .ok (.iload_n 2, 1) := by decide +kernel
theorem dX9_join_174 : decode cX9_join 174 = .ok (.ifCond .ne 7, 3) := by decide +kernel
theorem dX9_join_177 : decode cX9_join 177 = .ok (.iconst 0, 1) := by decide +kernel
theorem dX9_join_178 : decode cX9_join 178 = .ok (.goto 6, 3) := by decide +kernel
theorem dX9_join_181 : decode cX9_join 181 = .ok (.iload_n 1, 1) := by decide +kernel
theorem dX9_join_182 : decode cX9_join 182 = .ok (.iload_n 2, 1) := by decide +kernel
theorem dX9_join_183 : decode cX9_join 183 = .ok (.idiv, 1) := by decide +kernel
theorem dX9_join_184 : decode cX9_join 184 = .ok (.ireturn, 1) := by decide +kernel
theorem dX9_join_185 : decode cX9_join 185 = .ok (.iload_n 1, 1) := by decide +kernel
theorem dX9_join_186 : decode cX9_join 186 = .ok (.iload_n 2, 1) := by decide +kernel
theorem dX9_join_187 : decode cX9_join 187 = .ok (.if_icmp .le 7, 3) := by decide +kernel
theorem dX9_join_190 : decode cX9_join 190 = .ok (.iload_n 1, 1) := by decide +kernel
theorem dX9_join_191 : decode cX9_join 191 = .ok (.goto 4, 3) := by decide +kernel
theorem dX9_join_194 : decode cX9_join 194 = .ok (.iload_n 2, 1) := by decide +kernel
theorem dX9_join_195 : decode cX9_join 195 = .ok (.ireturn, 1) := by decide +kernel
theorem dX9_join_196 : decode cX9_join 196 = .ok (.iload_n 1, 1) := by decide +kernel
theorem dX9_join_197 : decode cX9_join 197 = .ok (.iload_n 2, 1) := by decide +kernel
theorem dX9_join_198 : decode cX9_join 198 = .ok (.if_icmp .ge 7, 3) := by decide +kernel
theorem dX9_join_201 : decode cX9_join 201 = .ok (.iload_n 1, 1) := by decide +kernel
theorem dX9_join_202 : decode cX9_join 202 = .ok (.goto 4, 3) := by decide +kernel
theorem dX9_join_205 : decode cX9_join 205 = .ok (.iload_n 2, 1) := by decide +kernel
theorem dX9_join_206 : decode cX9_join 206 = .ok (.ireturn, 1) := by decide +kernel
theorem dX9_join_207 : decode cX9_join 207 = .ok (.iconst 0, 1) := by decide +kernel
theorem dX9_join_208 : decode cX9_join 208 = .ok (.ireturn, 1) := by decide +kernel
theorem dX10_init_0 : decode cX10_init 0 = .ok (.aload_n 0, 1) := by decide +kernel
theorem dX10_init_1 : decode cX10_init 1 = .ok (.invokespecial 3, 3) := by decide +kernel
theorem dX10_init_4 : decode cX10_init 4 = .ok (.aload_n 0, 1) := by decide +kernel
theorem dX10_init_5 : decode cX10_init 5 = .ok (.bipush 30, 2) := by decide +kernel
theorem dX10_init_7 : decode cX10_init 7 = .ok (.newarray .int, 2) := by decide +kernel
theorem dX10_init_9 : decode cX10_init 9 = .ok (.putfield 9, 3) := by decide +kernel
theorem dX10_init_12 : decode cX10_init 12 = .ok (.return_, 1) := by decide +kernel
theorem dX10_begin_0 : decode cX10_begin 0 = .ok (.aload_n 0, 1) := by decide +kernel
theorem dX10_begin_1 : decode cX10_begin 1 = .ok (.iload_n 1, 1) := by decide +kernel
theorem dX10_begin_2 : decode cX10_begin 2 = .ok (.putfield 15, 3) := by decide +kernel
theorem dX10_begin_5 : decode cX10_begin 5 = .ok (.aload_n 0, 1) := by decide +kernel
theorem dX10_begin_6 : decode cX10_begin 6 = .ok (.iload_n 2, 1) := by decide +kernel
theorem dX10_begin_7 : decode cX10_begin 7 = .ok (.putfield 19, 3) := by decide +kernel
theorem dX10_begin_10 : decode cX10_begin 10 = .ok (.aload_n 0, 1) := by decide +kernel
theorem dX10_begin_11 : decode cX10_begin 11 = .ok (.iload_n 3, 1) := by decide +kernel
theorem dX10_begin_12 : decode cX10_begin 12 = .ok (.putfield 22, 3) := by decide +kernel
theorem dX10_begin_15 : decode cX10_begin 15 = .ok (.aload_n 0, 1) := by decide +kernel
theorem dX10_begin_16 : decode cX10_begin 16 = .ok (.iconst 0, 1) := by decide +kernel
theorem dX10_begin_17 : decode cX10_begin 17 = .ok (.putfield 25, 3) := by decide +kernel
theorem dX10_begin_20 : decode cX10_begin 20 = .ok (.aload_n 0, 1) := by decide +kernel
theorem dX10_begin_21 : decode cX10_begin 21 = .ok (.iconst 0, 1) := by decide +kernel
theorem dX10_begin_22 : decode cX10_begin 22 = .ok (.putfield 28, 3) := by decide +kernel
theorem dX10_begin_25 : decode cX10_begin 25 = .ok (.return_, 1) := by decide +kernel
theorem dX10_answerTo_0 : decode cX10_answerTo 0 = .ok (.aload_n 0, 1) := by decide +kernel
theorem dX10_answerTo_1 : decode cX10_answerTo 1 = .ok (.aload_n 0, 1) := by decide +kernel
theorem dX10_answerTo_2 : decode cX10_answerTo 2 = .ok (.getfield 22, 3) := by decide +kernel
theorem dX10_answerTo_5 : decode cX10_answerTo 5 = .ok (.iload_n 1, 1) := by decide +kernel
theorem dX10_answerTo_6 : decode cX10_answerTo 6 = .ok (.iload_n 2, 1) := by decide +kernel
theorem dX10_answerTo_7 : decode cX10_answerTo 7 = .ok (.iconst 0, 1) := by decide +kernel
theorem dX10_answerTo_8 : decode cX10_answerTo 8 = .ok (.invokevirtual 32, 3) := by decide +kernel
theorem dX10_answerTo_11 : decode cX10_answerTo 11 = .ok (.ireturn, 1) := by decide +kernel
theorem dX10_speak_0 : decode cX10_speak 0 = .ok (.aload_n 0, 1) := by decide +kernel
theorem dX10_speak_1 : decode cX10_speak 1 = .ok (.getfield 28, 3) := by decide +kernel
theorem dX10_speak_4 : decode cX10_speak 4 = .ok (.ifCond .ne 10, 3) := by decide +kernel
theorem dX10_speak_7 : decode cX10_speak 7 = .ok (.iload 4, 2) := by decide +kernel
theorem dX10_speak_9 : decode cX10_speak 9 = .ok (.bipush 40, 2) := by decide +kernel
theorem dX10_speak_11 : decode cX10_speak 11 = .ok (.if_icmp .le 5, 3) := by decide +kernel
theorem dX10_speak_14 : decode cX10_speak 14 = .ok (.iconst 0, 1) := by decide +kernel
theorem dX10_speak_15 : decode cX10_speak 15 = .ok (.ireturn, 1) := by decide +kernel
theorem dX10_speak_16 : decode cX10_speak 16 = .ok (.iload_n 1, 1) := by decide +kernel
theorem dX10_speak_17 : decode cX10_speak 17 = .ok (.iload_n 2, 1) := by decide +kernel
theorem dX10_speak_18 : decode cX10_speak 18 = .ok (.invokestatic 36, 3) := by decide +kernel
theorem dX10_speak_21 : decode cX10_speak 21 = .ok (.istore 5, 2) := by decide +kernel
theorem dX10_speak_23 : decode cX10_speak 23 = .ok (.aload_n 0, 1) := by decide +kernel
theorem dX10_speak_24 : decode cX10_speak 24 = .ok (.getfield 25, 3) := by decide +kernel
theorem dX10_speak_27 : decode cX10_speak 27 = .ok (.bipush 30, 2) := by decide +kernel
theorem dX10_speak_29 : decode cX10_speak 29 = .ok (.if_icmp .ge 24, 3) := by decide +kernel
theorem dX10_speak_32 : decode cX10_speak 32 = .ok (.aload_n 0, 1) := by decide +kernel
theorem dX10_speak_33 : decode cX10_speak 33 = .ok (.getfield 9, 3) := by decide +kernel
theorem dX10_speak_36 : decode cX10_speak 36 = .ok (.aload_n 0, 1) := by decide +kernel
theorem dX10_speak_37 : decode cX10_speak 37 = .ok (.getfield 25, 3) := by decide +kernel
theorem dX10_speak_40 : decode cX10_speak 40 = .ok (.iload 5, 2) := by decide +kernel
theorem dX10_speak_42 : decode cX10_speak 42 = .ok (.iastore, 1) := by decide +kernel
theorem dX10_speak_43 : decode cX10_speak 43 = .ok (.aload_n 0, 1) := by decide +kernel
theorem dX10_speak_44 : decode cX10_speak 44 = .ok (.dup, 1) := by decide +kernel
theorem dX10_speak_45 : decode cX10_speak 45 = .ok (.getfield 25, 3) := by decide +kernel
theorem dX10_speak_48 : decode cX10_speak 48 = .ok (.iconst 1, 1) := by decide +kernel
theorem dX10_speak_49 : decode cX10_speak 49 = .ok (.iadd, 1) := by decide +kernel
theorem dX10_speak_50 : decode cX10_speak 50 = .ok (.putfield 25, 3) := by decide +kernel
theorem dX10_speak_53 : decode cX10_speak 53 = .ok (.aload_n 0, 1) := by decide +kernel
theorem dX10_speak_54 : decode cX10_speak 54 = .ok (.iload 5, 2) := by decide +kernel
theorem dX10_speak_56 : decode cX10_speak 56 = .ok (.iload_n 3, 1) := by decide +kernel
theorem dX10_speak_57 : decode cX10_speak 57 = .ok (.iload 4, 2) := by decide +kernel
theorem dX10_speak_59 : decode cX10_speak 59 = .ok (.iconst 1, 1) := by decide +kernel
theorem dX10_speak_60 : decode cX10_speak 60 = .ok (.iadd, 1) := by decide +kernel
theorem dX10_speak_61 : decode cX10_speak 61 = .ok (.invokevirtual 40, 3) := by decide +kernel
theorem dX10_speak_64 : decode cX10_speak 64 = .ok (.ireturn, 1) := by decide +kernel
theorem dX10_bodyOf_0 : decode cX10_bodyOf 0 = .ok (.iload_n 0, 1) := by decide +kernel
theorem dX10_bodyOf_1 : decode cX10_bodyOf 1 = .ok (.istore_n 2, 1) := by decide +kernel
theorem dX10_bodyOf_2 : decode cX10_bodyOf 2 = .ok (.iconst 0, 1) := by decide +kernel
theorem dX10_bodyOf_3 : decode cX10_bodyOf 3 = .ok (.istore_n 3, 1) := by decide +kernel
theorem dX10_bodyOf_4 : decode cX10_bodyOf 4 = .ok (.iload_n 3, 1) := by decide +kernel
theorem dX10_bodyOf_5 : decode cX10_bodyOf 5 = .ok (.iconst 5, 1) := by decide +kernel
theorem dX10_bodyOf_6 : decode cX10_bodyOf 6 = .ok (.if_icmp .ge 46, 3) := by decide +kernel
theorem dX10_bodyOf_9 : decode cX10_bodyOf 9 = .ok (.iload_n 2, 1) := by decide +kernel
theorem dX10_bodyOf_10 : decode cX10_bodyOf 10 = .ok (.ifCond .le 42, 3) := by decide +kernel
theorem dX10_bodyOf_13 : decode cX10_bodyOf 13 = .ok (.iload_n 2, 1) := by decide +kernel
theorem dX10_bodyOf_14 : decode cX10_bodyOf 14 = .ok (.iconst 5, 1) := by decide +kernel
theorem dX10_bodyOf_15 : decode cX10_bodyOf 15 = .ok (.if_icmp .ge 37, 3) := by decide +kernel
theorem dX10_bodyOf_18 : decode cX10_bodyOf 18 = .ok (.getstatic 44, 3) := by decide +kernel
theorem dX10_bodyOf_21 : decode cX10_bodyOf 21 = .ok (.iload_n 2, 1) := by decide +kernel
theorem dX10_bodyOf_22 : decode cX10_bodyOf 22 = .ok (.iconst 4, 1) := by decide +kernel
theorem dX10_bodyOf_23 : decode cX10_bodyOf 23 = .ok (.imul, 1) := by decide +kernel
theorem dX10_bodyOf_24 : decode cX10_bodyOf 24 = .ok (.iload_n 1, 1) := by decide +kernel
theorem dX10_bodyOf_25 : decode cX10_bodyOf 25 = .ok (.iadd, 1) := by decide +kernel
theorem dX10_bodyOf_26 : decode cX10_bodyOf 26 = .ok (.iaload, 1) := by decide +kernel
theorem dX10_bodyOf_27 : decode cX10_bodyOf 27 = .ok (.ifCond .eq 13, 3) := by decide +kernel
theorem dX10_bodyOf_30 : decode cX10_bodyOf 30 = .ok (.getstatic 44, 3) := by decide +kernel
theorem dX10_bodyOf_33 : decode cX10_bodyOf 33 = .ok (.iload_n 2, 1) := by decide +kernel
theorem dX10_bodyOf_34 : decode cX10_bodyOf 34 = .ok (.iconst 4, 1) := by decide +kernel
theorem dX10_bodyOf_35 : decode cX10_bodyOf 35 = .ok (.imul, 1) := by decide +kernel
theorem dX10_bodyOf_36 : decode cX10_bodyOf 36 = .ok (.iload_n 1, 1) := by decide +kernel
theorem dX10_bodyOf_37 : decode cX10_bodyOf 37 = .ok (.iadd, 1) := by decide +kernel
theorem dX10_bodyOf_38 : decode cX10_bodyOf 38 = .ok (.iaload, 1) := by decide +kernel
theorem dX10_bodyOf_39 : decode cX10_bodyOf 39 = .ok (.ireturn, 1) := by decide +kernel
theorem dX10_bodyOf_40 : decode cX10_bodyOf 40 = .ok (.getstatic 47, 3) := by decide +kernel
theorem dX10_bodyOf_43 : decode cX10_bodyOf 43 = .ok (.iload_n 2, 1) := by decide +kernel
theorem dX10_bodyOf_44 : decode cX10_bodyOf 44 = .ok (.iaload, 1) := by decide +kernel
theorem dX10_bodyOf_45 : decode cX10_bodyOf 45 = .ok (.istore_n 2, 1) := by decide +kernel
theorem dX10_bodyOf_46 : decode cX10_bodyOf 46 = .ok (.iinc 3 1, 3) := by decide +kernel
theorem dX10_bodyOf_49 : decode cX10_bodyOf 49 = .ok (.goto (-45), 3) := by decide +kernel
theorem dX10_bodyOf_52 : decode cX10_bodyOf 52 = .ok (.getstatic 44, 3) := by decide +kernel
theorem dX10_bodyOf_55 : decode cX10_bodyOf 55 = .ok (.iload_n 1, 1) := by decide +kernel
theorem dX10_bodyOf_56 : decode cX10_bodyOf 56 = .ok (.iaload, 1) := by decide +kernel
theorem dX10_bodyOf_57 : decode cX10_bodyOf 57 = .ok (.ireturn, 1) := by decide +kernel
theorem dX10_work_0 : decode cX10_work 0 = .ok (.iload_n 1, 1) := by decide +kernel
theorem dX10_work_1 : decode cX10_work 1 = .ok (.tableswitch 366 10 52 #[187, 194, 208, 225, 366, 366, 366, 366, 366, 366, 231, 242, 366, 366, 366, 366, 366, 366, 366, 366, 263, 274, 366, 366, 366, 366, 366, 366, 366, 366, 288, 299, 366, 366, 366, 366, 366, 366, 366, 366, 313, 324, 345], 187) := by decide +kernel
theorem dX10_work_188 : decode cX10_work 188 = .ok (.iload_n 2, 1) := by decide +kernel
theorem dX10_work_189 : decode cX10_work 189 = .ok (.aload_n 0, 1) := by decide +kernel
theorem dX10_work_190 : decode cX10_work 190 = .ok (.getfield 19, 3) := by decide +kernel
theorem dX10_work_193 : decode cX10_work 193 = .ok (.iadd, 1) := by decide +kernel
theorem dX10_work_194 : decode cX10_work 194 = .ok (.ireturn, 1) := by decide +kernel
theorem dX10_work_195 : decode cX10_work 195 = .ok (.aload_n 0, 1) := by decide +kernel
theorem dX10_work_196 : decode cX10_work 196 = .ok (.aload_n 0, 1) := by decide +kernel
theorem dX10_work_197 : decode cX10_work 197 = .ok (.getfield 22, 3) := by decide +kernel
theorem dX10_work_200 : decode cX10_work 200 = .ok (.iconst 0, 1) := by decide +kernel
theorem dX10_work_201 : decode cX10_work 201 = .ok (.iload_n 2, 1) := by decide +kernel
theorem dX10_work_202 : decode cX10_work 202 = .ok (.iload_n 3, 1) := by decide +kernel
theorem dX10_work_203 : decode cX10_work 203 = .ok (.invokevirtual 32, 3) := by decide +kernel
theorem dX10_work_206 : decode cX10_work 206 = .ok (.iconst 2, 1) := by decide +kernel
theorem dX10_work_207 : decode cX10_work 207 = .ok (.imul, 1) := by decide +kernel
theorem dX10_work_208 : decode cX10_work 208 = .ok (.ireturn, 1) := by decide +kernel
theorem dX10_work_209 : decode cX10_work 209 = .ok (.aload_n 0, 1) := by decide +kernel
theorem dX10_work_210 : decode cX10_work 210 = .ok (.aload_n 0, 1) := by decide +kernel
theorem dX10_work_211 : decode cX10_work 211 = .ok (.getfield 22, 3) := by decide +kernel
theorem dX10_work_214 : decode cX10_work 214 = .ok (.iconst 1, 1) := by decide +kernel
theorem dX10_work_215 : decode cX10_work 215 = .ok (.iload_n 2, 1) := by decide +kernel
theorem dX10_work_216 : decode cX10_work 216 = .ok (.iload_n 3, 1) := by decide +kernel
theorem dX10_work_217 : decode cX10_work 217 = .ok (.invokevirtual 32, 3) := by decide +kernel
theorem dX10_work_220 : decode cX10_work 220 = .ok (.aload_n 0, 1) := by decide +kernel
theorem dX10_work_221 : decode cX10_work 221 = .ok (.getfield 15, 3) := by decide +kernel
theorem dX10_work_224 : decode cX10_work 224 = .ok (.isub, 1) := by decide +kernel
theorem dX10_work_225 : decode cX10_work 225 = .ok (.ireturn, 1) := by decide +kernel
theorem dX10_work_226 : decode cX10_work 226 = .ok (.aload_n 0, 1) := by decide +kernel
theorem dX10_work_227 : decode cX10_work 227 = .ok (.iload_n 2, 1) := by decide +kernel
theorem dX10_work_228 : decode cX10_work 228 = .ok (.invokevirtual 50, 3) := by decide +kernel
theorem dX10_work_231 : decode cX10_work 231 = .ok (.ireturn, 1) := by decide +kernel
theorem dX10_work_232 : decode cX10_work 232 = .ok (.aload_n 0, 1) := by decide +kernel
theorem dX10_work_233 : decode cX10_work 233 = .ok (.iconst 0, 1) := by decide +kernel
theorem dX10_work_234 : decode cX10_work 234 = .ok (.iconst 1, 1) := by decide +kernel
theorem dX10_work_235 : decode cX10_work 235 = .ok (.iload_n 2, 1) := by decide +kernel
theorem dX10_work_236 : decode cX10_work 236 = .ok (.iload_n 3, 1) := by decide +kernel
theorem dX10_work_237 : decode cX10_work 237 = .ok (.invokevirtual 32, 3) := by decide +kernel
theorem dX10_work_240 : decode cX10_work 240 = .ok (.iconst 1, 1) := by decide +kernel
theorem dX10_work_241 : decode cX10_work 241 = .ok (.iadd, 1) := by decide +kernel
theorem dX10_work_242 : decode cX10_work 242 = .ok (.ireturn, 1) := by decide +kernel
theorem dX10_work_243 : decode cX10_work 243 = .ok (.aload_n 0, 1) := by decide +kernel
theorem dX10_work_244 : decode cX10_work 244 = .ok (.iconst 0, 1) := by decide +kernel
theorem dX10_work_245 : decode cX10_work 245 = .ok (.iconst 3, 1) := by decide +kernel
theorem dX10_work_246 : decode cX10_work 246 = .ok (.iload_n 2, 1) := by decide +kernel
theorem dX10_work_247 : decode cX10_work 247 = .ok (.iload_n 3, 1) := by decide +kernel
theorem dX10_work_248 : decode cX10_work 248 = .ok (.invokevirtual 32, 3) := by decide +kernel
theorem dX10_work_251 : decode cX10_work 251 = .ok (.aload_n 0, 1) := by decide +kernel
theorem dX10_work_252 : decode cX10_work 252 = .ok (.aload_n 0, 1) := by decide +kernel
theorem dX10_work_253 : decode cX10_work 253 = .ok (.getfield 22, 3) := by decide +kernel
theorem dX10_work_256 : decode cX10_work 256 = .ok (.iconst 2, 1) := by decide +kernel
theorem dX10_work_257 : decode cX10_work 257 = .ok (.iconst 1, 1) := by decide +kernel
theorem dX10_work_258 : decode cX10_work 258 = .ok (.iload_n 3, 1) := by decide +kernel
theorem dX10_work_259 : decode cX10_work 259 = .ok (.invokevirtual 32, 3) := by decide +kernel
theorem dX10_work_262 : decode cX10_work 262 = .ok (.iadd, 1) := by decide +kernel
theorem dX10_work_263 : decode cX10_work 263 = .ok (.ireturn, 1) := by decide +kernel
theorem dX10_work_264 : decode cX10_work 264 = .ok (.aload_n 0, 1) := by decide +kernel
theorem dX10_work_265 : decode cX10_work 265 = .ok (.iconst 1, 1) := by decide +kernel
theorem dX10_work_266 : decode cX10_work 266 = .ok (.iconst 0, 1) := by decide +kernel
theorem dX10_work_267 : decode cX10_work 267 = .ok (.iload_n 2, 1) := by decide +kernel
theorem dX10_work_268 : decode cX10_work 268 = .ok (.iload_n 3, 1) := by decide +kernel
theorem dX10_work_269 : decode cX10_work 269 = .ok (.invokevirtual 32, 3) := by decide +kernel
theorem dX10_work_272 : decode cX10_work 272 = .ok (.iconst 3, 1) := by decide +kernel
theorem dX10_work_273 : decode cX10_work 273 = .ok (.imul, 1) := by decide +kernel
theorem dX10_work_274 : decode cX10_work 274 = .ok (.ireturn, 1) := by decide +kernel
theorem dX10_work_275 : decode cX10_work 275 = .ok (.aload_n 0, 1) := by decide +kernel
theorem dX10_work_276 : decode cX10_work 276 = .ok (.iconst 1, 1) := by decide +kernel
theorem dX10_work_277 : decode cX10_work 277 = .ok (.iconst 2, 1) := by decide +kernel
theorem dX10_work_278 : decode cX10_work 278 = .ok (.iload_n 2, 1) := by decide +kernel
theorem dX10_work_279 : decode cX10_work 279 = .ok (.iload_n 3, 1) := by decide +kernel
theorem dX10_work_280 : decode cX10_work 280 = .ok (.invokevirtual 32, 3) := by decide +kernel
theorem dX10_work_283 : decode cX10_work 283 = .ok (.aload_n 0, 1) := by decide +kernel
theorem dX10_work_284 : decode cX10_work 284 = .ok (.getfield 19, 3) := by decide +kernel
theorem dX10_work_287 : decode cX10_work 287 = .ok (.ixor, 1) := by decide +kernel
theorem dX10_work_288 : decode cX10_work 288 = .ok (.ireturn, 1) := by decide +kernel
theorem dX10_work_289 : decode cX10_work 289 = .ok (.iconst 0, 1) := by decide +kernel
theorem dX10_work_290 : decode cX10_work 290 = .ok (.aload_n 0, 1) := by decide +kernel
theorem dX10_work_291 : decode cX10_work 291 = .ok (.iconst 0, 1) := by decide +kernel
theorem dX10_work_292 : decode cX10_work 292 = .ok (.iconst 0, 1) := by decide +kernel
theorem dX10_work_293 : decode cX10_work 293 = .ok (.iload_n 2, 1) := by decide +kernel
theorem dX10_work_294 : decode cX10_work 294 = .ok (.iload_n 3, 1) := by decide +kernel
theorem dX10_work_295 : decode cX10_work 295 = .ok (.invokevirtual 32, 3) := by decide +kernel
theorem dX10_work_298 : decode cX10_work 298 = .ok (.isub, 1) := by decide +kernel
theorem dX10_work_299 : decode cX10_work 299 = .ok (.ireturn, 1) := by decide +kernel
theorem dX10_work_300 : decode cX10_work 300 = .ok (.aload_n 0, 1) := by decide +kernel
theorem dX10_work_301 : decode cX10_work 301 = .ok (.iconst 0, 1) := by decide +kernel
theorem dX10_work_302 : decode cX10_work 302 = .ok (.iconst 2, 1) := by decide +kernel
theorem dX10_work_303 : decode cX10_work 303 = .ok (.iload_n 2, 1) := by decide +kernel
theorem dX10_work_304 : decode cX10_work 304 = .ok (.aload_n 0, 1) := by decide +kernel
theorem dX10_work_305 : decode cX10_work 305 = .ok (.getfield 15, 3) := by decide +kernel
theorem dX10_work_308 : decode cX10_work 308 = .ok (.iadd, 1) := by decide +kernel
theorem dX10_work_309 : decode cX10_work 309 = .ok (.iload_n 3, 1) := by decide +kernel
theorem dX10_work_310 : decode cX10_work 310 = .ok (.invokevirtual 32, 3) := by decide +kernel
theorem dX10_work_313 : decode cX10_work 313 = .ok (.ireturn, 1) := by decide +kernel
theorem dX10_work_314 : decode cX10_work 314 = .ok (.aload_n 0, 1) := by decide +kernel
theorem dX10_work_315 : decode cX10_work 315 = .ok (.iconst 3, 1) := by decide +kernel
theorem dX10_work_316 : decode cX10_work 316 = .ok (.iconst 1, 1) := by decide +kernel
theorem dX10_work_317 : decode cX10_work 317 = .ok (.iload_n 2, 1) := by decide +kernel
theorem dX10_work_318 : decode cX10_work 318 = .ok (.iload_n 3, 1) := by decide +kernel
theorem dX10_work_319 : decode cX10_work 319 = .ok (.invokevirtual 32, 3) := by decide +kernel
theorem dX10_work_322 : decode cX10_work 322 = .ok (.iconst 2, 1) := by decide +kernel
theorem dX10_work_323 : decode cX10_work 323 = .ok (.idiv, 1) := by decide +kernel
theorem dX10_work_324 : decode cX10_work 324 = .ok (.ireturn, 1) := by decide +kernel
theorem dX10_work_325 : decode cX10_work 325 = .ok (.aload_n 0, 1) := by decide +kernel
theorem dX10_work_326 : decode cX10_work 326 = .ok (.iconst 3, 1) := by decide +kernel
theorem dX10_work_327 : decode cX10_work 327 = .ok (.iconst 2, 1) := by decide +kernel
theorem dX10_work_328 : decode cX10_work 328 = .ok (.iload_n 2, 1) := by decide +kernel
theorem dX10_work_329 : decode cX10_work 329 = .ok (.iload_n 3, 1) := by decide +kernel
theorem dX10_work_330 : decode cX10_work 330 = .ok (.invokevirtual 32, 3) := by decide +kernel
theorem dX10_work_333 : decode cX10_work 333 = .ok (.aload_n 0, 1) := by decide +kernel
theorem dX10_work_334 : decode cX10_work 334 = .ok (.aload_n 0, 1) := by decide +kernel
theorem dX10_work_335 : decode cX10_work 335 = .ok (.getfield 22, 3) := by decide +kernel
theorem dX10_work_338 : decode cX10_work 338 = .ok (.iconst 0, 1) := by decide +kernel
theorem dX10_work_339 : decode cX10_work 339 = .ok (.iconst 2, 1) := by decide +kernel
theorem dX10_work_340 : decode cX10_work 340 = .ok (.iload_n 3, 1) := by decide +kernel
theorem dX10_work_341 : decode cX10_work 341 = .ok (.invokevirtual 32, 3) := by decide +kernel
theorem dX10_work_344 : decode cX10_work 344 = .ok (.isub, 1) := by decide +kernel
theorem dX10_work_345 : decode cX10_work 345 = .ok (.ireturn, 1) := by decide +kernel
theorem dX10_work_346 : decode cX10_work 346 = .ok (.aload_n 0, 1) := by decide +kernel
theorem dX10_work_347 : decode cX10_work 347 = .ok (.aload_n 0, 1) := by decide +kernel
theorem dX10_work_348 : decode cX10_work 348 = .ok (.getfield 22, 3) := by decide +kernel
theorem dX10_work_351 : decode cX10_work 351 = .ok (.iconst 0, 1) := by decide +kernel
theorem dX10_work_352 : decode cX10_work 352 = .ok (.iload_n 2, 1) := by decide +kernel
theorem dX10_work_353 : decode cX10_work 353 = .ok (.iload_n 3, 1) := by decide +kernel
theorem dX10_work_354 : decode cX10_work 354 = .ok (.invokevirtual 32, 3) := by decide +kernel
theorem dX10_work_357 : decode cX10_work 357 = .ok (.aload_n 0, 1) := by decide +kernel
theorem dX10_work_358 : decode cX10_work 358 = .ok (.iconst 3, 1) := by decide +kernel
theorem dX10_work_359 : decode cX10_work 359 = .ok (.iconst 3, 1) := by decide +kernel
theorem dX10_work_360 : decode cX10_work 360 = .ok (.iload_n 2, 1) := by decide +kernel
theorem dX10_work_361 : decode cX10_work 361 = .ok (.iload_n 3, 1) := by decide +kernel
theorem dX10_work_362 : decode cX10_work 362 = .ok (.invokevirtual 32, 3) := by decide +kernel
theorem dX10_work_365 : decode cX10_work 365 = .ok (.isub, 1) := by decide +kernel
theorem dX10_work_366 : decode cX10_work 366 = .ok (.ireturn, 1) := by decide +kernel
theorem dX10_work_367 : decode cX10_work 367 = .ok (.iconst 0, 1) := by decide +kernel
theorem dX10_work_368 : decode cX10_work 368 = .ok (.ireturn, 1) := by decide +kernel
theorem dX10_parts_0 : decode cX10_parts 0 = .ok (.aload_n 0, 1) := by decide +kernel
theorem dX10_parts_1 : decode cX10_parts 1 = .ok (.getfield 19, 3) := by decide +kernel
theorem dX10_parts_4 : decode cX10_parts 4 = .ok (.aload_n 0, 1) := by decide +kernel
theorem dX10_parts_5 : decode cX10_parts 5 = .ok (.getfield 15, 3) := by decide +kernel
theorem dX10_parts_8 : decode cX10_parts 8 = .ok (.if_icmp .ne 10, 3) := by decide +kernel
theorem dX10_parts_11 : decode cX10_parts 11 = .ok (.aload_n 0, 1) := by decide +kernel
theorem dX10_parts_12 : decode cX10_parts 12 = .ok (.iconst 1, 1) := by decide +kernel
theorem dX10_parts_13 : decode cX10_parts 13 = .ok (.putfield 28, 3) := by decide +kernel
theorem dX10_parts_16 : decode cX10_parts 16 = .ok (.iconst 0, 1) := by decide +kernel
theorem dX10_parts_17 : decode cX10_parts 17 = .ok (.ireturn, 1) := by decide +kernel
theorem dX10_parts_18 : decode cX10_parts 18 = .ok (.iload_n 1, 1) := by decide +kernel
theorem dX10_parts_19 : decode cX10_parts 19 = .ok (.aload_n 0, 1) := by decide +kernel
theorem dX10_parts_20 : decode cX10_parts 20 = .ok (.getfield 19, 3) := by decide +kernel
theorem dX10_parts_23 : decode cX10_parts 23 = .ok (.aload_n 0, 1) := by decide +kernel
theorem dX10_parts_24 : decode cX10_parts 24 = .ok (.getfield 15, 3) := by decide +kernel
theorem dX10_parts_27 : decode cX10_parts 27 = .ok (.isub, 1) := by decide +kernel
theorem dX10_parts_28 : decode cX10_parts 28 = .ok (.idiv, 1) := by decide +kernel
theorem dX10_parts_29 : decode cX10_parts 29 = .ok (.ireturn, 1) := by decide +kernel
theorem dX11_init_0 : decode cX11_init 0 = .ok (.aload_n 0, 1) := by decide +kernel
theorem dX11_init_1 : decode cX11_init 1 = .ok (.invokespecial 3, 3) := by decide +kernel
theorem dX11_init_4 : decode cX11_init 4 = .ok (.aload_n 0, 1) := by decide +kernel
theorem dX11_init_5 : decode cX11_init 5 = .ok (.new 9, 3) := by decide +kernel
theorem dX11_init_8 : decode cX11_init 8 = .ok (.dup, 1) := by decide +kernel
theorem dX11_init_9 : decode cX11_init 9 = .ok (.invokespecial 11, 3) := by decide +kernel
theorem dX11_init_12 : decode cX11_init 12 = .ok (.putfield 12, 3) := by decide +kernel
theorem dX11_init_15 : decode cX11_init 15 = .ok (.aload_n 0, 1) := by decide +kernel
theorem dX11_init_16 : decode cX11_init 16 = .ok (.new 9, 3) := by decide +kernel
theorem dX11_init_19 : decode cX11_init 19 = .ok (.dup, 1) := by decide +kernel
theorem dX11_init_20 : decode cX11_init 20 = .ok (.invokespecial 11, 3) := by decide +kernel
theorem dX11_init_23 : decode cX11_init 23 = .ok (.putfield 16, 3) := by decide +kernel
theorem dX11_init_26 : decode cX11_init 26 = .ok (.aload_n 0, 1) := by decide +kernel
theorem dX11_init_27 : decode cX11_init 27 = .ok (.new 19, 3) := by decide +kernel
theorem dX11_init_30 : decode cX11_init 30 = .ok (.dup, 1) := by decide +kernel
theorem dX11_init_31 : decode cX11_init 31 = .ok (.aload_n 0, 1) := by decide +kernel
theorem dX11_init_32 : decode cX11_init 32 = .ok (.getfield 12, 3) := by decide +kernel
theorem dX11_init_35 : decode cX11_init 35 = .ok (.invokespecial 21, 3) := by decide +kernel
theorem dX11_init_38 : decode cX11_init 38 = .ok (.putfield 24, 3) := by decide +kernel
theorem dX11_init_41 : decode cX11_init 41 = .ok (.aload_n 0, 1) := by decide +kernel
theorem dX11_init_42 : decode cX11_init 42 = .ok (.new 28, 3) := by decide +kernel
theorem dX11_init_45 : decode cX11_init 45 = .ok (.dup, 1) := by decide +kernel
theorem dX11_init_46 : decode cX11_init 46 = .ok (.invokespecial 30, 3) := by decide +kernel
theorem dX11_init_49 : decode cX11_init 49 = .ok (.putfield 31, 3) := by decide +kernel
theorem dX11_init_52 : decode cX11_init 52 = .ok (.aload_n 0, 1) := by decide +kernel
theorem dX11_init_53 : decode cX11_init 53 = .ok (.new 35, 3) := by decide +kernel
theorem dX11_init_56 : decode cX11_init 56 = .ok (.dup, 1) := by decide +kernel
theorem dX11_init_57 : decode cX11_init 57 = .ok (.aload_n 0, 1) := by decide +kernel
theorem dX11_init_58 : decode cX11_init 58 = .ok (.getfield 12, 3) := by decide +kernel
theorem dX11_init_61 : decode cX11_init 61 = .ok (.aload_n 0, 1) := by decide +kernel
theorem dX11_init_62 : decode cX11_init 62 = .ok (.getfield 24, 3) := by decide +kernel
theorem dX11_init_65 : decode cX11_init 65 = .ok (.invokespecial 37, 3) := by decide +kernel
theorem dX11_init_68 : decode cX11_init 68 = .ok (.putfield 40, 3) := by decide +kernel
theorem dX11_init_71 : decode cX11_init 71 = .ok (.aload_n 0, 1) := by decide +kernel
theorem dX11_init_72 : decode cX11_init 72 = .ok (.new 44, 3) := by decide +kernel
theorem dX11_init_75 : decode cX11_init 75 = .ok (.dup, 1) := by decide +kernel
theorem dX11_init_76 : decode cX11_init 76 = .ok (.aload_n 0, 1) := by decide +kernel
theorem dX11_init_77 : decode cX11_init 77 = .ok (.getfield 12, 3) := by decide +kernel
theorem dX11_init_80 : decode cX11_init 80 = .ok (.invokespecial 46, 3) := by decide +kernel
theorem dX11_init_83 : decode cX11_init 83 = .ok (.putfield 47, 3) := by decide +kernel
theorem dX11_init_86 : decode cX11_init 86 = .ok (.aload_n 0, 1) := by decide +kernel
theorem dX11_init_87 : decode cX11_init 87 = .ok (.new 51, 3) := by decide +kernel
