theorem dX0_init_0 : decode cX0_init 0 = .ok (.aload_n 0, 1) := by decide +kernel
theorem dX0_init_1 : decode cX0_init 1 = .ok (.invokespecial 3, 3) := by decide +kernel
theorem dX0_init_4 : decode cX0_init 4 = .ok (.aload_n 0, 1) := by decide +kernel
theorem dX0_init_5 : decode cX0_init 5 = .ok (.iconst 3, 1) := by decide +kernel
theorem dX0_init_6 : decode cX0_init 6 = .ok (.newarray .int, 2) := by decide +kernel
theorem dX0_init_8 : decode cX0_init 8 = .ok (.putfield 9, 3) := by decide +kernel
theorem dX0_init_11 : decode cX0_init 11 = .ok (.return_, 1) := by decide +kernel
theorem dX0_become_0 : decode cX0_become 0 = .ok (.aload_n 0, 1) := by decide +kernel
theorem dX0_become_1 : decode cX0_become 1 = .ok (.iload_n 1, 1) := by decide +kernel
theorem dX0_become_2 : decode cX0_become 2 = .ok (.putfield 15, 3) := by decide +kernel
theorem dX0_become_5 : decode cX0_become 5 = .ok (.aload_n 0, 1) := by decide +kernel
theorem dX0_become_6 : decode cX0_become 6 = .ok (.iload_n 2, 1) := by decide +kernel
theorem dX0_become_7 : decode cX0_become 7 = .ok (.putfield 19, 3) := by decide +kernel
theorem dX0_become_10 : decode cX0_become 10 = .ok (.aload_n 0, 1) := by decide +kernel
theorem dX0_become_11 : decode cX0_become 11 = .ok (.iload_n 3, 1) := by decide +kernel
theorem dX0_become_12 : decode cX0_become 12 = .ok (.sipush 1000, 3) := by decide +kernel
theorem dX0_become_15 : decode cX0_become 15 = .ok (.idiv, 1) := by decide +kernel
theorem dX0_become_16 : decode cX0_become 16 = .ok (.putfield 22, 3) := by decide +kernel
theorem dX0_become_19 : decode cX0_become 19 = .ok (.aload_n 0, 1) := by decide +kernel
theorem dX0_become_20 : decode cX0_become 20 = .ok (.iload_n 3, 1) := by decide +kernel
theorem dX0_become_21 : decode cX0_become 21 = .ok (.sipush 1000, 3) := by decide +kernel
theorem dX0_become_24 : decode cX0_become 24 = .ok (.irem, 1) := by decide +kernel
theorem dX0_become_25 : decode cX0_become 25 = .ok (.putfield 25, 3) := by decide +kernel
theorem dX0_become_28 : decode cX0_become 28 = .ok (.aload_n 0, 1) := by decide +kernel
theorem dX0_become_29 : decode cX0_become 29 = .ok (.iload 4, 2) := by decide +kernel
theorem dX0_become_31 : decode cX0_become 31 = .ok (.putfield 28, 3) := by decide +kernel
theorem dX0_become_34 : decode cX0_become 34 = .ok (.aload_n 0, 1) := by decide +kernel
theorem dX0_become_35 : decode cX0_become 35 = .ok (.getfield 9, 3) := by decide +kernel
theorem dX0_become_38 : decode cX0_become 38 = .ok (.iconst (-1), 1) := by decide +kernel
theorem dX0_become_39 : decode cX0_become 39 = .ok (.invokestatic 31, 3) := by decide +kernel
theorem dX0_become_42 : decode cX0_become 42 = .ok (.return_, 1) := by decide +kernel
theorem dX0_copyFrom_0 : decode cX0_copyFrom 0 = .ok (.aload_n 0, 1) := by decide +kernel
theorem dX0_copyFrom_1 : decode cX0_copyFrom 1 = .ok (.aload_n 1, 1) := by decide +kernel
theorem dX0_copyFrom_2 : decode cX0_copyFrom 2 = .ok (.getfield 15, 3) := by decide +kernel
theorem dX0_copyFrom_5 : decode cX0_copyFrom 5 = .ok (.putfield 15, 3) := by decide +kernel
theorem dX0_copyFrom_8 : decode cX0_copyFrom 8 = .ok (.aload_n 0, 1) := by decide +kernel
theorem dX0_copyFrom_9 : decode cX0_copyFrom 9 = .ok (.aload_n 1, 1) := by decide +kernel
theorem dX0_copyFrom_10 : decode cX0_copyFrom 10 = .ok (.getfield 19, 3) := by decide +kernel
theorem dX0_copyFrom_13 : decode cX0_copyFrom 13 = .ok (.putfield 19, 3) := by decide +kernel
theorem dX0_copyFrom_16 : decode cX0_copyFrom 16 = .ok (.aload_n 0, 1) := by decide +kernel
theorem dX0_copyFrom_17 : decode cX0_copyFrom 17 = .ok (.aload_n 1, 1) := by decide +kernel
theorem dX0_copyFrom_18 : decode cX0_copyFrom 18 = .ok (.getfield 22, 3) := by decide +kernel
theorem dX0_copyFrom_21 : decode cX0_copyFrom 21 = .ok (.putfield 22, 3) := by decide +kernel
theorem dX0_copyFrom_24 : decode cX0_copyFrom 24 = .ok (.aload_n 0, 1) := by decide +kernel
theorem dX0_copyFrom_25 : decode cX0_copyFrom 25 = .ok (.aload_n 1, 1) := by decide +kernel
theorem dX0_copyFrom_26 : decode cX0_copyFrom 26 = .ok (.getfield 25, 3) := by decide +kernel
theorem dX0_copyFrom_29 : decode cX0_copyFrom 29 = .ok (.putfield 25, 3) := by decide +kernel
theorem dX0_copyFrom_32 : decode cX0_copyFrom 32 = .ok (.aload_n 0, 1) := by decide +kernel
theorem dX0_copyFrom_33 : decode cX0_copyFrom 33 = .ok (.aload_n 1, 1) := by decide +kernel
theorem dX0_copyFrom_34 : decode cX0_copyFrom 34 = .ok (.getfield 28, 3) := by decide +kernel
theorem dX0_copyFrom_37 : decode cX0_copyFrom 37 = .ok (.putfield 28, 3) := by decide +kernel
theorem dX0_copyFrom_40 : decode cX0_copyFrom 40 = .ok (.aload_n 1, 1) := by decide +kernel
theorem dX0_copyFrom_41 : decode cX0_copyFrom 41 = .ok (.getfield 9, 3) := by decide +kernel
theorem dX0_copyFrom_44 : decode cX0_copyFrom 44 = .ok (.iconst 0, 1) := by decide +kernel
theorem dX0_copyFrom_45 : decode cX0_copyFrom 45 = .ok (.aload_n 0, 1) := by decide +kernel
theorem dX0_copyFrom_46 : decode cX0_copyFrom 46 = .ok (.getfield 9, 3) := by decide +kernel
theorem dX0_copyFrom_49 : decode cX0_copyFrom 49 = .ok (.iconst 0, 1) := by decide +kernel
theorem dX0_copyFrom_50 : decode cX0_copyFrom 50 = .ok (.iconst 3, 1) := by decide +kernel
theorem dX0_copyFrom_51 : decode cX0_copyFrom 51 = .ok (.invokestatic 37, 3) := by decide +kernel
theorem dX0_copyFrom_54 : decode cX0_copyFrom 54 = .ok (.return_, 1) := by decide +kernel
theorem dX0_marksLike_0 : decode cX0_marksLike 0 = .ok (.iconst 0, 1) := by decide +kernel
theorem dX0_marksLike_1 : decode cX0_marksLike 1 = .ok (.istore_n 2, 1) := by decide +kernel
theorem dX0_marksLike_2 : decode cX0_marksLike 2 = .ok (.iconst 0, 1) := by decide +kernel
theorem dX0_marksLike_3 : decode cX0_marksLike 3 = .ok (.istore_n 3, 1) := by decide +kernel
theorem dX0_marksLike_4 : decode cX0_marksLike 4 = .ok (.iload_n 3, 1) := by decide +kernel
theorem dX0_marksLike_5 : decode cX0_marksLike 5 = .ok (.iconst 3, 1) := by decide +kernel
theorem dX0_marksLike_6 : decode cX0_marksLike 6 = .ok (.if_icmp .ge 36, 3) := by decide +kernel
theorem dX0_marksLike_9 : decode cX0_marksLike 9 = .ok (.aload_n 0, 1) := by decide +kernel
theorem dX0_marksLike_10 : decode cX0_marksLike 10 = .ok (.getfield 9, 3) := by decide +kernel
theorem dX0_marksLike_13 : decode cX0_marksLike 13 = .ok (.iload_n 3, 1) := by decide +kernel
theorem dX0_marksLike_14 : decode cX0_marksLike 14 = .ok (.iaload, 1) := by decide +kernel
theorem dX0_marksLike_15 : decode cX0_marksLike 15 = .ok (.ifCond .lt 21, 3) := by decide +kernel
theorem dX0_marksLike_18 : decode cX0_marksLike 18 = .ok (.aload_n 0, 1) := by decide +kernel
theorem dX0_marksLike_19 : decode cX0_marksLike 19 = .ok (.getfield 9, 3) := by decide +kernel
theorem dX0_marksLike_22 : decode cX0_marksLike 22 = .ok (.iload_n 3, 1) := by decide +kernel
theorem dX0_marksLike_23 : decode cX0_marksLike 23 = .ok (.iaload, 1) := by decide +kernel
theorem dX0_marksLike_24 : decode cX0_marksLike 24 = .ok (.aload_n 1, 1) := by decide +kernel
theorem dX0_marksLike_25 : decode cX0_marksLike 25 = .ok (.getfield 9, 3) := by decide +kernel
theorem dX0_marksLike_28 : decode cX0_marksLike 28 = .ok (.iload_n 3, 1) := by decide +kernel
theorem dX0_marksLike_29 : decode cX0_marksLike 29 = .ok (.iaload, 1) := by decide +kernel
theorem dX0_marksLike_30 : decode cX0_marksLike 30 = .ok (.if_icmp .ne 6, 3) := by decide +kernel
theorem dX0_marksLike_33 : decode cX0_marksLike 33 = .ok (.iinc 2 1, 3) := by decide +kernel
theorem dX0_marksLike_36 : decode cX0_marksLike 36 = .ok (.iinc 3 1, 3) := by decide +kernel
theorem dX0_marksLike_39 : decode cX0_marksLike 39 = .ok (.goto (-35), 3) := by decide +kernel
theorem dX0_marksLike_42 : decode cX0_marksLike 42 = .ok (.iload_n 2, 1) := by decide +kernel
theorem dX0_marksLike_43 : decode cX0_marksLike 43 = .ok (.iconst 2, 1) := by decide +kernel
theorem dX0_marksLike_44 : decode cX0_marksLike 44 = .ok (.if_icmp .lt 7, 3) := by decide +kernel
theorem dX0_marksLike_47 : decode cX0_marksLike 47 = .ok (.iconst 1, 1) := by decide +kernel
theorem dX0_marksLike_48 : decode cX0_marksLike 48 = .ok (.goto 4, 3) := by decide +kernel
theorem dX0_marksLike_51 : decode cX0_marksLike 51 = .ok (.iconst 0, 1) := by decide +kernel
theorem dX0_marksLike_52 : decode cX0_marksLike 52 = .ok (.ireturn, 1) := by decide +kernel
theorem dX1_init_0 : decode cX1_init 0 = .ok (.aload_n 0, 1) := by decide +kernel
theorem dX1_init_1 : decode cX1_init 1 = .ok (.invokespecial 3, 3) := by decide +kernel
theorem dX1_init_4 : decode cX1_init 4 = .ok (.aload_n 0, 1) := by decide +kernel
theorem dX1_init_5 : decode cX1_init 5 = .ok (.iconst 2, 1) := by decide +kernel
theorem dX1_init_6 : decode cX1_init 6 = .ok (.newarray .int, 2) := by decide +kernel
theorem dX1_init_8 : decode cX1_init 8 = .ok (.putfield 9, 3) := by decide +kernel
theorem dX1_init_11 : decode cX1_init 11 = .ok (.aload_n 0, 1) := by decide +kernel
theorem dX1_init_12 : decode cX1_init 12 = .ok (.iconst 2, 1) := by decide +kernel
theorem dX1_init_13 : decode cX1_init 13 = .ok (.newarray .int, 2) := by decide +kernel
theorem dX1_init_15 : decode cX1_init 15 = .ok (.putfield 15, 3) := by decide +kernel
theorem dX1_init_18 : decode cX1_init 18 = .ok (.return_, 1) := by decide +kernel
theorem dX1_become_0 : decode cX1_become 0 = .ok (.aload_n 0, 1) := by decide +kernel
theorem dX1_become_1 : decode cX1_become 1 = .ok (.getfield 9, 3) := by decide +kernel
theorem dX1_become_4 : decode cX1_become 4 = .ok (.iconst 0, 1) := by decide +kernel
theorem dX1_become_5 : decode cX1_become 5 = .ok (.iload_n 1, 1) := by decide +kernel
theorem dX1_become_6 : decode cX1_become 6 = .ok (.iastore, 1) := by decide +kernel
theorem dX1_become_7 : decode cX1_become 7 = .ok (.aload_n 0, 1) := by decide +kernel
theorem dX1_become_8 : decode cX1_become 8 = .ok (.getfield 9, 3) := by decide +kernel
theorem dX1_become_11 : decode cX1_become 11 = .ok (.iconst 1, 1) := by decide +kernel
theorem dX1_become_12 : decode cX1_become 12 = .ok (.iload_n 2, 1) := by decide +kernel
theorem dX1_become_13 : decode cX1_become 13 = .ok (.iastore, 1) := by decide +kernel
theorem dX1_become_14 : decode cX1_become 14 = .ok (.aload_n 0, 1) := by decide +kernel
theorem dX1_become_15 : decode cX1_become 15 = .ok (.getfield 15, 3) := by decide +kernel
theorem dX1_become_18 : decode cX1_become 18 = .ok (.iconst 0, 1) := by decide +kernel
theorem dX1_become_19 : decode cX1_become 19 = .ok (.invokestatic 18, 3) := by decide +kernel
theorem dX1_become_22 : decode cX1_become 22 = .ok (.aload_n 0, 1) := by decide +kernel
theorem dX1_become_23 : decode cX1_become 23 = .ok (.iload_n 3, 1) := by decide +kernel
theorem dX1_become_24 : decode cX1_become 24 = .ok (.bipush 100, 2) := by decide +kernel
theorem dX1_become_26 : decode cX1_become 26 = .ok (.idiv, 1) := by decide +kernel
theorem dX1_become_27 : decode cX1_become 27 = .ok (.putfield 24, 3) := by decide +kernel
theorem dX1_become_30 : decode cX1_become 30 = .ok (.aload_n 0, 1) := by decide +kernel
theorem dX1_become_31 : decode cX1_become 31 = .ok (.iload_n 3, 1) := by decide +kernel
theorem dX1_become_32 : decode cX1_become 32 = .ok (.bipush 100, 2) := by decide +kernel
theorem dX1_become_34 : decode cX1_become 34 = .ok (.irem, 1) := by decide +kernel
theorem dX1_become_35 : decode cX1_become 35 = .ok (.putfield 28, 3) := by decide +kernel
theorem dX1_become_38 : decode cX1_become 38 = .ok (.aload_n 0, 1) := by decide +kernel
theorem dX1_become_39 : decode cX1_become 39 = .ok (.iload 4, 2) := by decide +kernel
theorem dX1_become_41 : decode cX1_become 41 = .ok (.putfield 31, 3) := by decide +kernel
theorem dX1_become_44 : decode cX1_become 44 = .ok (.return_, 1) := by decide +kernel
theorem dX1_copyFrom_0 : decode cX1_copyFrom 0 = .ok (.aload_n 1, 1) := by decide +kernel
theorem dX1_copyFrom_1 : decode cX1_copyFrom 1 = .ok (.getfield 9, 3) := by decide +kernel
theorem dX1_copyFrom_4 : decode cX1_copyFrom 4 = .ok (.iconst 0, 1) := by decide +kernel
theorem dX1_copyFrom_5 : decode cX1_copyFrom 5 = .ok (.aload_n 0, 1) := by decide +kernel
theorem dX1_copyFrom_6 : decode cX1_copyFrom 6 = .ok (.getfield 9, 3) := by decide +kernel
theorem dX1_copyFrom_9 : decode cX1_copyFrom 9 = .ok (.iconst 0, 1) := by decide +kernel
theorem dX1_copyFrom_10 : decode cX1_copyFrom 10 = .ok (.iconst 2, 1) := by decide +kernel
theorem dX1_copyFrom_11 : decode cX1_copyFrom 11 = .ok (.invokestatic 34, 3) := by decide +kernel
theorem dX1_copyFrom_14 : decode cX1_copyFrom 14 = .ok (.aload_n 1, 1) := by decide +kernel
theorem dX1_copyFrom_15 : decode cX1_copyFrom 15 = .ok (.getfield 15, 3) := by decide +kernel
theorem dX1_copyFrom_18 : decode cX1_copyFrom 18 = .ok (.iconst 0, 1) := by decide +kernel
theorem dX1_copyFrom_19 : decode cX1_copyFrom 19 = .ok (.aload_n 0, 1) := by decide +kernel
theorem dX1_copyFrom_20 : decode cX1_copyFrom 20 = .ok (.getfield 15, 3) := by decide +kernel
theorem dX1_copyFrom_23 : decode cX1_copyFrom 23 = .ok (.iconst 0, 1) := by decide +kernel
theorem dX1_copyFrom_24 : decode cX1_copyFrom 24 = .ok (.iconst 2, 1) := by decide +kernel
theorem dX1_copyFrom_25 : decode cX1_copyFrom 25 = .ok (.invokestatic 34, 3) := by decide +kernel
theorem dX1_copyFrom_28 : decode cX1_copyFrom 28 = .ok (.aload_n 0, 1) := by decide +kernel
theorem dX1_copyFrom_29 : decode cX1_copyFrom 29 = .ok (.aload_n 1, 1) := by decide +kernel
theorem dX1_copyFrom_30 : decode cX1_copyFrom 30 = .ok (.getfield 24, 3) := by decide +kernel
theorem dX1_copyFrom_33 : decode cX1_copyFrom 33 = .ok (.putfield 24, 3) := by decide +kernel
theorem dX1_copyFrom_36 : decode cX1_copyFrom 36 = .ok (.aload_n 0, 1) := by decide +kernel
theorem dX1_copyFrom_37 : decode cX1_copyFrom 37 = .ok (.aload_n 1, 1) := by decide +kernel
theorem dX1_copyFrom_38 : decode cX1_copyFrom 38 = .ok (.getfield 28, 3) := by decide +kernel
theorem dX1_copyFrom_41 : decode cX1_copyFrom 41 = .ok (.putfield 28, 3) := by decide +kernel
theorem dX1_copyFrom_44 : decode cX1_copyFrom 44 = .ok (.aload_n 0, 1) := by decide +kernel
theorem dX1_copyFrom_45 : decode cX1_copyFrom 45 = .ok (.aload_n 1, 1) := by decide +kernel
theorem dX1_copyFrom_46 : decode cX1_copyFrom 46 = .ok (.getfield 31, 3) := by decide +kernel
theorem dX1_copyFrom_49 : decode cX1_copyFrom 49 = .ok (.putfield 31, 3) := by decide +kernel
theorem dX1_copyFrom_52 : decode cX1_copyFrom 52 = .ok (.return_, 1) := by decide +kernel
theorem dX1_freshOf_0 : decode cX1_freshOf 0 = .ok (.iload_n 1, 1) := by decide +kernel
theorem dX1_freshOf_1 : decode cX1_freshOf 1 = .ok (.ifCond .ne 13, 3) := by decide +kernel
theorem dX1_freshOf_4 : decode cX1_freshOf 4 = .ok (.aload_n 0, 1) := by decide +kernel
theorem dX1_freshOf_5 : decode cX1_freshOf 5 = .ok (.getfield 31, 3) := by decide +kernel
theorem dX1_freshOf_8 : decode cX1_freshOf 8 = .ok (.bipush 8, 2) := by decide +kernel
theorem dX1_freshOf_10 : decode cX1_freshOf 10 = .ok (.ishr, 1) := by decide +kernel
theorem dX1_freshOf_11 : decode cX1_freshOf 11 = .ok (.goto 11, 3) := by decide +kernel
theorem dX1_freshOf_14 : decode cX1_freshOf 14 = .ok (.aload_n 0, 1) := by decide +kernel
theorem dX1_freshOf_15 : decode cX1_freshOf 15 = .ok (.getfield 31, 3) := by decide +kernel
theorem dX1_freshOf_18 : decode cX1_freshOf 18 = .ok (.sipush 255, 3) := by decide +kernel
theorem dX1_freshOf_21 : decode cX1_freshOf 21 = .ok (.iand, 1) := by decide +kernel
theorem dX1_freshOf_22 : decode cX1_freshOf 22 = .ok (.ireturn, 1) := by decide +kernel
theorem dX2_init_0 : decode cX2_init 0 = .ok (.aload_n 0, 1) := by decide +kernel
theorem dX2_init_1 : decode cX2_init 1 = .ok (.invokespecial 1, 3) := by decide +kernel
theorem dX2_init_4 : decode cX2_init 4 = .ok (.return_, 1) := by decide +kernel
theorem dX2_become_0 : decode cX2_become 0 = .ok (.aload_n 0, 1) := by decide +kernel
theorem dX2_become_1 : decode cX2_become 1 = .ok (.iload_n 1, 1) := by decide +kernel
theorem dX2_become_2 : decode cX2_become 2 = .ok (.putfield 7, 3) := by decide +kernel
theorem dX2_become_5 : decode cX2_become 5 = .ok (.aload_n 0, 1) := by decide +kernel
theorem dX2_become_6 : decode cX2_become 6 = .ok (.iload_n 2, 1) := by decide +kernel
theorem dX2_become_7 : decode cX2_become 7 = .ok (.putfield 13, 3) := by decide +kernel
theorem dX2_become_10 : decode cX2_become 10 = .ok (.aload_n 0, 1) := by decide +kernel
theorem dX2_become_11 : decode cX2_become 11 = .ok (.iload_n 3, 1) := by decide +kernel
theorem dX2_become_12 : decode cX2_become 12 = .ok (.putfield 16, 3) := by decide +kernel
theorem dX2_become_15 : decode cX2_become 15 = .ok (.aload_n 0, 1) := by decide +kernel
theorem dX2_become_16 : decode cX2_become 16 = .ok (.iload 4, 2) := by decide +kernel
theorem dX2_become_18 : decode cX2_become 18 = .ok (.sipush 1000, 3) := by decide +kernel
theorem dX2_become_21 : decode cX2_become 21 = .ok (.idiv, 1) := by decide +kernel
theorem dX2_become_22 : decode cX2_become 22 = .ok (.putfield 19, 3) := by decide +kernel
theorem dX2_become_25 : decode cX2_become 25 = .ok (.aload_n 0, 1) := by decide +kernel
theorem dX2_become_26 : decode cX2_become 26 = .ok (.iload 4, 2) := by decide +kernel
theorem dX2_become_28 : decode cX2_become 28 = .ok (.sipush 1000, 3) := by decide +kernel
theorem dX2_become_31 : decode cX2_become 31 = .ok (.irem, 1) := by decide +kernel
theorem dX2_become_32 : decode cX2_become 32 = .ok (.putfield 22, 3) := by decide +kernel
theorem dX2_become_35 : decode cX2_become 35 = .ok (.return_, 1) := by decide +kernel
theorem dX2_copyFrom_0 : decode cX2_copyFrom 0 = .ok (.aload_n 0, 1) := by decide +kernel
theorem dX2_copyFrom_1 : decode cX2_copyFrom 1 = .ok (.aload_n 1, 1) := by decide +kernel
theorem dX2_copyFrom_2 : decode cX2_copyFrom 2 = .ok (.getfield 7, 3) := by decide +kernel
theorem dX2_copyFrom_5 : decode cX2_copyFrom 5 = .ok (.putfield 7, 3) := by decide +kernel
theorem dX2_copyFrom_8 : decode cX2_copyFrom 8 = .ok (.aload_n 0, 1) := by decide +kernel
theorem dX2_copyFrom_9 : decode cX2_copyFrom 9 = .ok (.aload_n 1, 1) := by decide +kernel
theorem dX2_copyFrom_10 : decode cX2_copyFrom 10 = .ok (.getfield 13, 3) := by decide +kernel
theorem dX2_copyFrom_13 : decode cX2_copyFrom 13 = .ok (.putfield 13, 3) := by decide +kernel
theorem dX2_copyFrom_16 : decode cX2_copyFrom 16 = .ok (.aload_n 0, 1) := by decide +kernel
theorem dX2_copyFrom_17 : decode cX2_copyFrom 17 = .ok (.aload_n 1, 1) := by decide +kernel
theorem dX2_copyFrom_18 : decode cX2_copyFrom 18 = .ok (.getfield 16, 3) := by decide +kernel
theorem dX2_copyFrom_21 : decode cX2_copyFrom 21 = .ok (.putfield 16, 3) := by decide +kernel
theorem dX2_copyFrom_24 : decode cX2_copyFrom 24 = .ok (.aload_n 0, 1) := by decide +kernel
theorem dX2_copyFrom_25 : decode cX2_copyFrom 25 = .ok (.aload_n 1, 1) := by decide +kernel
theorem dX2_copyFrom_26 : decode cX2_copyFrom 26 = .ok (.getfield 19, 3) := by decide +kernel
theorem dX2_copyFrom_29 : decode cX2_copyFrom 29 = .ok (.putfield 19, 3) := by decide +kernel
theorem dX2_copyFrom_32 : decode cX2_copyFrom 32 = .ok (.aload_n 0, 1) := by decide +kernel
theorem dX2_copyFrom_33 : decode cX2_copyFrom 33 = .ok (.aload_n 1, 1) := by decide +kernel
theorem dX2_copyFrom_34 : decode cX2_copyFrom 34 = .ok (.getfield 22, 3) := by decide +kernel
theorem dX2_copyFrom_37 : decode cX2_copyFrom 37 = .ok (.putfield 22, 3) := by decide +kernel
theorem dX2_copyFrom_40 : decode cX2_copyFrom 40 = .ok (.aload_n 0, 1) := by decide +kernel
theorem dX2_copyFrom_41 : decode cX2_copyFrom 41 = .ok (.aload_n 1, 1) := by decide +kernel
theorem dX2_copyFrom_42 : decode cX2_copyFrom 42 = .ok (.getfield 25, 3) := by decide +kernel
theorem dX2_copyFrom_45 : decode cX2_copyFrom 45 = .ok (.putfield 25, 3) := by decide +kernel
theorem dX2_copyFrom_48 : decode cX2_copyFrom 48 = .ok (.return_, 1) := by decide +kernel
theorem dX3_init_0 : decode cX3_init 0 = .ok (.aload_n 0, 1) := by decide +kernel
theorem dX3_init_1 : decode cX3_init 1 = .ok (.invokespecial 3, 3) := by decide +kernel
theorem dX3_init_4 : decode cX3_init 4 = .ok (.aload_n 0, 1) := by decide +kernel
theorem dX3_init_5 : decode cX3_init 5 = .ok (.iconst 4, 1) := by decide +kernel
theorem dX3_init_6 : decode cX3_init 6 = .ok (.newarray .int, 2) := by decide +kernel
theorem dX3_init_8 : decode cX3_init 8 = .ok (.putfield 9, 3) := by decide +kernel
theorem dX3_init_11 : decode cX3_init 11 = .ok (.aload_n 0, 1) := by decide +kernel
theorem dX3_init_12 : decode cX3_init 12 = .ok (.bipush 60, 2) := by decide +kernel
theorem dX3_init_14 : decode cX3_init 14 = .ok (.newarray .int, 2) := by decide +kernel
theorem dX3_init_16 : decode cX3_init 16 = .ok (.putfield 15, 3) := by decide +kernel
theorem dX3_init_19 : decode cX3_init 19 = .ok (.aload_n 0, 1) := by decide +kernel
theorem dX3_init_20 : decode cX3_init 20 = .ok (.aload_n 1, 1) := by decide +kernel
theorem dX3_init_21 : decode cX3_init 21 = .ok (.putfield 18, 3) := by decide +kernel
theorem dX3_init_24 : decode cX3_init 24 = .ok (.return_, 1) := by decide +kernel
theorem dX3_fitting_0 : decode cX3_fitting 0 = .ok (.iconst 0, 1) := by decide +kernel
theorem dX3_fitting_1 : decode cX3_fitting 1 = .ok (.istore_n 2, 1) := by decide +kernel
theorem dX3_fitting_2 : decode cX3_fitting 2 = .ok (.iconst 0, 1) := by decide +kernel
theorem dX3_fitting_3 : decode cX3_fitting 3 = .ok (.istore_n 3, 1) := by decide +kernel
theorem dX3_fitting_4 : decode cX3_fitting 4 = .ok (.iload_n 3, 1) := by decide +kernel
theorem dX3_fitting_5 : decode cX3_fitting 5 = .ok (.aload_n 0, 1) := by decide +kernel
theorem dX3_fitting_6 : decode cX3_fitting 6 = .ok (.getfield 18, 3) := by decide +kernel
theorem dX3_fitting_9 : decode cX3_fitting 9 = .ok (.getfield 22, 3) := by decide +kernel
theorem dX3_fitting_12 : decode cX3_fitting 12 = .ok (.if_icmp .ge 77, 3) := by decide +kernel
theorem dX3_fitting_15 : decode cX3_fitting 15 = .ok (.aload_n 0, 1) := by decide +kernel
theorem dX3_fitting_16 : decode cX3_fitting 16 = .ok (.getfield 18, 3) := by decide +kernel
theorem dX3_fitting_19 : decode cX3_fitting 19 = .ok (.getfield 28, 3) := by decide +kernel
theorem dX3_fitting_22 : decode cX3_fitting 22 = .ok (.iload_n 3, 1) := by decide +kernel
theorem dX3_fitting_23 : decode cX3_fitting 23 = .ok (.iaload, 1) := by decide +kernel
theorem dX3_fitting_24 : decode cX3_fitting 24 = .ok (.aload_n 1, 1) := by decide +kernel
theorem dX3_fitting_25 : decode cX3_fitting 25 = .ok (.getfield 31, 3) := by decide +kernel
theorem dX3_fitting_28 : decode cX3_fitting 28 = .ok (.iconst (-1), 1) := by decide +kernel
theorem dX3_fitting_29 : decode cX3_fitting 29 = .ok (.ixor, 1) := by decide +kernel
theorem dX3_fitting_30 : decode cX3_fitting 30 = .ok (.iand, 1) := by decide +kernel
theorem dX3_fitting_31 : decode cX3_fitting 31 = .ok (.ifCond .eq 7, 3) := by decide +kernel
theorem dX3_fitting_34 : decode cX3_fitting 34 = .ok (.iconst 1, 1) := by decide +kernel
theorem dX3_fitting_35 : decode cX3_fitting 35 = .ok (.goto 4, 3) := by decide +kernel
theorem dX3_fitting_38 : decode cX3_fitting 38 = .ok (.iconst 0, 1) := by decide +kernel
theorem dX3_fitting_39 : decode cX3_fitting 39 = .ok (.istore 4, 2) := by decide +kernel
theorem dX3_fitting_41 : decode cX3_fitting 41 = .ok (.aload_n 1, 1) := by decide +kernel
theorem dX3_fitting_42 : decode cX3_fitting 42 = .ok (.getfield 31, 3) := by decide +kernel
theorem dX3_fitting_45 : decode cX3_fitting 45 = .ok (.aload_n 0, 1) := by decide +kernel
theorem dX3_fitting_46 : decode cX3_fitting 46 = .ok (.getfield 18, 3) := by decide +kernel
theorem dX3_fitting_49 : decode cX3_fitting 49 = .ok (.getfield 36, 3) := by decide +kernel
theorem dX3_fitting_52 : decode cX3_fitting 52 = .ok (.iload_n 3, 1) := by decide +kernel
theorem dX3_fitting_53 : decode cX3_fitting 53 = .ok (.iaload, 1) := by decide +kernel
theorem dX3_fitting_54 : decode cX3_fitting 54 = .ok (.iconst (-1), 1) := by decide +kernel
theorem dX3_fitting_55 : decode cX3_fitting 55 = .ok (.ixor, 1) := by decide +kernel
theorem dX3_fitting_56 : decode cX3_fitting 56 = .ok (.iand, 1) := by decide +kernel
theorem dX3_fitting_57 : decode cX3_fitting 57 = .ok (.ifCond .eq 7, 3) := by decide +kernel
theorem dX3_fitting_60 : decode cX3_fitting 60 = .ok (.iconst 1, 1) := by decide +kernel
theorem dX3_fitting_61 : decode cX3_fitting 61 = .ok (.goto 4, 3) := by decide +kernel
theorem dX3_fitting_64 : decode cX3_fitting 64 = .ok (.iconst 0, 1) := by decide +kernel
theorem dX3_fitting_65 : decode cX3_fitting 65 = .ok (.istore 5, 2) := by decide +kernel
theorem dX3_fitting_67 : decode cX3_fitting 67 = .ok (.iload 4, 2) := by decide +kernel
theorem dX3_fitting_69 : decode cX3_fitting 69 = .ok (.ifCond .ne 14, 3) := by decide +kernel
theorem dX3_fitting_72 : decode cX3_fitting 72 = .ok (.iload 5, 2) := by decide +kernel
theorem dX3_fitting_74 : decode cX3_fitting 74 = .ok (.ifCond .ne 9, 3) := by decide +kernel
theorem dX3_fitting_77 : decode cX3_fitting 77 = .ok (.iload_n 2, 1) := by decide +kernel
theorem dX3_fitting_78 : decode cX3_fitting 78 = .ok (.iconst 1, 1) := by decide +kernel
theorem dX3_fitting_79 : decode cX3_fitting 79 = .ok (.iload_n 3, 1) := by decide +kernel
theorem dX3_fitting_80 : decode cX3_fitting 80 = .ok (.ishl, 1) := by decide +kernel
theorem dX3_fitting_81 : decode cX3_fitting 81 = .ok (.ior, 1) := by decide +kernel
theorem dX3_fitting_82 : decode cX3_fitting 82 = .ok (.istore_n 2, 1) := by decide +kernel
theorem dX3_fitting_83 : decode cX3_fitting 83 = .ok (.iinc 3 1, 3) := by decide +kernel
theorem dX3_fitting_86 : decode cX3_fitting 86 = .ok (.goto (-82), 3) := by decide +kernel
theorem dX3_fitting_89 : decode cX3_fitting 89 = .ok (.iload_n 2, 1) := by decide +kernel
theorem dX3_fitting_90 : decode cX3_fitting 90 = .ok (.ireturn, 1) := by decide +kernel
theorem dX3_left_0 : decode cX3_left 0 = .ok (.aload_n 0, 1) := by decide +kernel
theorem dX3_left_1 : decode cX3_left 1 = .ok (.aload_n 1, 1) := by decide +kernel
theorem dX3_left_2 : decode cX3_left 2 = .ok (.invokevirtual 39, 3) := by decide +kernel
theorem dX3_left_5 : decode cX3_left 5 = .ok (.istore_n 2, 1) := by decide +kernel
theorem dX3_left_6 : decode cX3_left 6 = .ok (.aload_n 1, 1) := by decide +kernel
theorem dX3_left_7 : decode cX3_left 7 = .ok (.getfield 43, 3) := by decide +kernel
theorem dX3_left_10 : decode cX3_left 10 = .ok (.iconst 0, 1) := by decide +kernel
theorem dX3_left_11 : decode cX3_left 11 = .ok (.iaload, 1) := by decide +kernel
theorem dX3_left_12 : decode cX3_left 12 = .ok (.ifCond .ne 7, 3) := by decide +kernel
theorem dX3_left_15 : decode cX3_left 15 = .ok (.iload_n 2, 1) := by decide +kernel
theorem dX3_left_16 : decode cX3_left 16 = .ok (.goto 11, 3) := by decide +kernel
theorem dX3_left_19 : decode cX3_left 19 = .ok (.iload_n 2, 1) := by decide +kernel
theorem dX3_left_20 : decode cX3_left 20 = .ok (.aload_n 1, 1) := by decide +kernel
theorem dX3_left_21 : decode cX3_left 21 = .ok (.getfield 43, 3) := by decide +kernel
theorem dX3_left_24 : decode cX3_left 24 = .ok (.iconst 0, 1) := by decide +kernel
theorem dX3_left_25 : decode cX3_left 25 = .ok (.iaload, 1) := by decide +kernel
theorem dX3_left_26 : decode cX3_left 26 = .ok (.iand, 1) := by decide +kernel
theorem dX3_left_27 : decode cX3_left 27 = .ok (.istore_n 3, 1) := by decide +kernel
theorem dX3_left_28 : decode cX3_left 28 = .ok (.aload_n 1, 1) := by decide +kernel
theorem dX3_left_29 : decode cX3_left 29 = .ok (.getfield 43, 3) := by decide +kernel
theorem dX3_left_32 : decode cX3_left 32 = .ok (.iconst 1, 1) := by decide +kernel
theorem dX3_left_33 : decode cX3_left 33 = .ok (.iaload, 1) := by decide +kernel
theorem dX3_left_34 : decode cX3_left 34 = .ok (.ifCond .ne 7, 3) := by decide +kernel
theorem dX3_left_37 : decode cX3_left 37 = .ok (.iload_n 2, 1) := by decide +kernel
theorem dX3_left_38 : decode cX3_left 38 = .ok (.goto 11, 3) := by decide +kernel
theorem dX3_left_41 : decode cX3_left 41 = .ok (.iload_n 2, 1) := by decide +kernel
theorem dX3_left_42 : decode cX3_left 42 = .ok (.aload_n 1, 1) := by decide +kernel
theorem dX3_left_43 : decode cX3_left 43 = .ok (.getfield 43, 3) := by decide +kernel
theorem dX3_left_46 : decode cX3_left 46 = .ok (.iconst 1, 1) := by decide +kernel
theorem dX3_left_47 : decode cX3_left 47 = .ok (.iaload, 1) := by decide +kernel
theorem dX3_left_48 : decode cX3_left 48 = .ok (.iand, 1) := by decide +kernel
theorem dX3_left_49 : decode cX3_left 49 = .ok (.istore 4, 2) := by decide +kernel
theorem dX3_left_51 : decode cX3_left 51 = .ok (.iload_n 3, 1) := by decide +kernel
theorem dX3_left_52 : decode cX3_left 52 = .ok (.iload 4, 2) := by decide +kernel
theorem dX3_left_54 : decode cX3_left 54 = .ok (.iand, 1) := by decide +kernel
theorem dX3_left_55 : decode cX3_left 55 = .ok (.ifCond .eq 8, 3) := by decide +kernel
theorem dX3_left_58 : decode cX3_left 58 = .ok (.iload_n 3, 1) := by decide +kernel
theorem dX3_left_59 : decode cX3_left 59 = .ok (.iload 4, 2) := by decide +kernel
theorem dX3_left_61 : decode cX3_left 61 = .ok (.iand, 1) := by decide +kernel
theorem dX3_left_62 : decode cX3_left 62 = .ok (.ireturn, 1) := by decide +kernel
theorem dX3_left_63 : decode cX3_left 63 = .ok (.iload_n 3, 1) := by decide +kernel
theorem dX3_left_64 : decode cX3_left 64 = .ok (.iload 4, 2) := by decide +kernel
theorem dX3_left_66 : decode cX3_left 66 = .ok (.ior, 1) := by decide +kernel
theorem dX3_left_67 : decode cX3_left 67 = .ok (.ifCond .eq 10, 3) := by decide +kernel
theorem dX3_left_70 : decode cX3_left 70 = .ok (.iload_n 3, 1) := by decide +kernel
theorem dX3_left_71 : decode cX3_left 71 = .ok (.iload 4, 2) := by decide +kernel
theorem dX3_left_73 : decode cX3_left 73 = .ok (.ior, 1) := by decide +kernel
theorem dX3_left_74 : decode cX3_left 74 = .ok (.goto 4, 3) := by decide +kernel
theorem dX3_left_77 : decode cX3_left 77 = .ok (.iload_n 2, 1) := by decide +kernel
theorem dX3_left_78 : decode cX3_left 78 = .ok (.ireturn, 1) := by decide +kernel
theorem dX3_least_0 : decode cX3_least 0 = .ok (.bipush 100, 2) := by decide +kernel
theorem dX3_least_2 : decode cX3_least 2 = .ok (.istore_n 2, 1) := by decide +kernel
theorem dX3_least_3 : decode cX3_least 3 = .ok (.iconst 0, 1) := by decide +kernel
theorem dX3_least_4 : decode cX3_least 4 = .ok (.istore_n 3, 1) := by decide +kernel
theorem dX3_least_5 : decode cX3_least 5 = .ok (.iload_n 3, 1) := by decide +kernel
theorem dX3_least_6 : decode cX3_least 6 = .ok (.aload_n 0, 1) := by decide +kernel
theorem dX3_least_7 : decode cX3_least 7 = .ok (.getfield 18, 3) := by decide +kernel
theorem dX3_least_10 : decode cX3_least 10 = .ok (.getfield 22, 3) := by decide +kernel
theorem dX3_least_13 : decode cX3_least 13 = .ok (.if_icmp .ge 31, 3) := by decide +kernel
theorem dX3_least_16 : decode cX3_least 16 = .ok (.iload_n 1, 1) := by decide +kernel
theorem dX3_least_17 : decode cX3_least 17 = .ok (.iload_n 3, 1) := by decide +kernel
theorem dX3_least_18 : decode cX3_least 18 = .ok (.ishr, 1) := by decide +kernel
theorem dX3_least_19 : decode cX3_least 19 = .ok (.iconst 1, 1) := by decide +kernel
theorem dX3_least_20 : decode cX3_least 20 = .ok (.iand, 1) := by decide +kernel
theorem dX3_least_21 : decode cX3_least 21 = .ok (.ifCond .eq 17, 3) := by decide +kernel
theorem dX3_least_24 : decode cX3_least 24 = .ok (.iload_n 2, 1) := by decide +kernel
theorem dX3_least_25 : decode cX3_least 25 = .ok (.aload_n 0, 1) := by decide +kernel
theorem dX3_least_26 : decode cX3_least 26 = .ok (.getfield 18, 3) := by decide +kernel
theorem dX3_least_29 : decode cX3_least 29 = .ok (.getfield 46, 3) := by decide +kernel
theorem dX3_least_32 : decode cX3_least 32 = .ok (.iload_n 3, 1) := by decide +kernel
theorem dX3_least_33 : decode cX3_least 33 = .ok (.iaload, 1) := by decide +kernel
theorem dX3_least_34 : decode cX3_least 34 = .ok (.invokestatic 49, 3) := by decide +kernel
theorem dX3_least_37 : decode cX3_least 37 = .ok (.istore_n 2, 1) := by decide +kernel
theorem dX3_least_38 : decode cX3_least 38 = .ok (.iinc 3 1, 3) := by decide +kernel
theorem dX3_least_41 : decode cX3_least 41 = .ok (.goto (-36), 3) := by decide +kernel
theorem dX3_least_44 : decode cX3_least 44 = .ok (.iload_n 1, 1) := by decide +kernel
theorem dX3_least_45 : decode cX3_least 45 = .ok (.ifCond .ne 7, 3) := by decide +kernel
theorem dX3_least_48 : decode cX3_least 48 = .ok (.iconst 0, 1) := by decide +kernel
theorem dX3_least_49 : decode cX3_least 49 = .ok (.goto 4, 3) := by decide +kernel
theorem dX3_least_52 : decode cX3_least 52 = .ok (.iload_n 2, 1) := by decide +kernel
theorem dX3_least_53 : decode cX3_least 53 = .ok (.ireturn, 1) := by decide +kernel
theorem dX3_most_0 : decode cX3_most 0 = .ok (.iconst 0, 1) := by decide +kernel
theorem dX3_most_1 : decode cX3_most 1 = .ok (.istore_n 2, 1) := by decide +kernel
theorem dX3_most_2 : decode cX3_most 2 = .ok (.iconst 0, 1) := by decide +kernel
theorem dX3_most_3 : decode cX3_most 3 = .ok (.istore_n 3, 1) := by decide +kernel
theorem dX3_most_4 : decode cX3_most 4 = .ok (.iload_n 3, 1) := by decide +kernel
theorem dX3_most_5 : decode cX3_most 5 = .ok (.aload_n 0, 1) := by decide +kernel
theorem dX3_most_6 : decode cX3_most 6 = .ok (.getfield 18, 3) := by decide +kernel
theorem dX3_most_9 : decode cX3_most 9 = .ok (.getfield 22, 3) := by decide +kernel
theorem dX3_most_12 : decode cX3_most 12 = .ok (.if_icmp .ge 31, 3) := by decide +kernel
theorem dX3_most_15 : decode cX3_most 15 = .ok (.iload_n 1, 1) := by decide +kernel
theorem dX3_most_16 : decode cX3_most 16 = .ok (.iload_n 3, 1) := by decide +kernel
theorem dX3_most_17 : decode cX3_most 17 = .ok (.ishr, 1) := by decide +kernel
theorem dX3_most_18 : decode cX3_most 18 = .ok (.iconst 1, 1) := by decide +kernel
theorem dX3_most_19 : decode cX3_most 19 = .ok (.iand, 1) := by decide +kernel
theorem dX3_most_20 : decode cX3_most 20 = .ok (.ifCond .eq 17, 3) := by decide +kernel
theorem dX3_most_23 : decode cX3_most 23 = .ok (.iload_n 2, 1) := by decide +kernel
theorem dX3_most_24 : decode cX3_most 24 = .ok (.aload_n 0, 1) := by decide +kernel
theorem dX3_most_25 : decode cX3_most 25 = .ok (.getfield 18, 3) := by decide +kernel
theorem dX3_most_28 : decode cX3_most 28 = .ok (.getfield 46, 3) := by decide +kernel
theorem dX3_most_31 : decode cX3_most 31 = .ok (.iload_n 3, 1) := by decide +kernel
theorem dX3_most_32 : decode cX3_most 32 = .ok (.iaload, 1) := by decide +kernel
theorem dX3_most_33 : decode cX3_most 33 = .ok (.invokestatic 55, 3) := by decide +kernel
theorem dX3_most_36 : decode cX3_most 36 = .ok (.istore_n 2, 1) := by decide +kernel
theorem dX3_most_37 : decode cX3_most 37 = .ok (.iinc 3 1, 3) := by decide +kernel
theorem dX3_most_40 : decode cX3_most 40 = .ok (.goto (-36), 3) := by decide +kernel
theorem dX3_most_43 : decode cX3_most 43 = .ok (.iload_n 1, 1) := by decide +kernel
theorem dX3_most_44 : decode cX3_most 44 = .ok (.ifCond .ne 8, 3) := by decide +kernel
theorem dX3_most_47 : decode cX3_most 47 = .ok (.bipush 100, 2) := by decide +kernel
theorem dX3_most_49 : decode cX3_most 49 = .ok (.goto 4, 3) := by decide +kernel
theorem dX3_most_52 : decode cX3_most 52 = .ok (.iload_n 2, 1) := by decide +kernel
theorem dX3_most_53 : decode cX3_most 53 = .ok (.ireturn, 1) := by decide +kernel
theorem dX3_agreed_0 : decode cX3_agreed 0 = .ok (.aload_n 0, 1) := by decide +kernel
theorem dX3_agreed_1 : decode cX3_agreed 1 = .ok (.aload_n 1, 1) := by decide +kernel
theorem dX3_agreed_2 : decode cX3_agreed 2 = .ok (.invokevirtual 58, 3) := by decide +kernel
theorem dX3_agreed_5 : decode cX3_agreed 5 = .ok (.istore_n 2, 1) := by decide +kernel
theorem dX3_agreed_6 : decode cX3_agreed 6 = .ok (.aload_n 0, 1) := by decide +kernel
theorem dX3_agreed_7 : decode cX3_agreed 7 = .ok (.iload_n 2, 1) := by decide +kernel
theorem dX3_agreed_8 : decode cX3_agreed 8 = .ok (.invokevirtual 61, 3) := by decide +kernel
theorem dX3_agreed_11 : decode cX3_agreed 11 = .ok (.istore_n 3, 1) := by decide +kernel
theorem dX3_agreed_12 : decode cX3_agreed 12 = .ok (.aload_n 0, 1) := by decide +kernel
theorem dX3_agreed_13 : decode cX3_agreed 13 = .ok (.iload_n 2, 1) := by decide +kernel
theorem dX3_agreed_14 : decode cX3_agreed 14 = .ok (.invokevirtual 65, 3) := by decide +kernel
theorem dX3_agreed_17 : decode cX3_agreed 17 = .ok (.istore 4, 2) := by decide +kernel
theorem dX3_agreed_19 : decode cX3_agreed 19 = .ok (.aload_n 0, 1) := by decide +kernel
theorem dX3_agreed_20 : decode cX3_agreed 20 = .ok (.iconst 0, 1) := by decide +kernel
theorem dX3_agreed_21 : decode cX3_agreed 21 = .ok (.aload_n 1, 1) := by decide +kernel
theorem dX3_agreed_22 : decode cX3_agreed 22 = .ok (.getfield 68, 3) := by decide +kernel
theorem dX3_agreed_25 : decode cX3_agreed 25 = .ok (.invokevirtual 71, 3) := by decide +kernel
theorem dX3_agreed_28 : decode cX3_agreed 28 = .ok (.istore 5, 2) := by decide +kernel
theorem dX3_agreed_30 : decode cX3_agreed 30 = .ok (.iload_n 3, 1) := by decide +kernel
theorem dX3_agreed_31 : decode cX3_agreed 31 = .ok (.iload 4, 2) := by decide +kernel
theorem dX3_agreed_33 : decode cX3_agreed 33 = .ok (.iadd, 1) := by decide +kernel
theorem dX3_agreed_34 : decode cX3_agreed 34 = .ok (.iconst 2, 1) := by decide +kernel
theorem dX3_agreed_35 : decode cX3_agreed 35 = .ok (.idiv, 1) := by decide +kernel
theorem dX3_agreed_36 : decode cX3_agreed 36 = .ok (.istore 6, 2) := by decide +kernel
theorem dX3_agreed_38 : decode cX3_agreed 38 = .ok (.iload 5, 2) := by decide +kernel
theorem dX3_agreed_40 : decode cX3_agreed 40 = .ok (.ifCond .lt 26, 3) := by decide +kernel
theorem dX3_agreed_43 : decode cX3_agreed 43 = .ok (.aload_n 0, 1) := by decide +kernel
theorem dX3_agreed_44 : decode cX3_agreed 44 = .ok (.iload_n 3, 1) := by decide +kernel
theorem dX3_agreed_45 : decode cX3_agreed 45 = .ok (.iload 4, 2) := by decide +kernel
theorem dX3_agreed_47 : decode cX3_agreed 47 = .ok (.iload_n 2, 1) := by decide +kernel
theorem dX3_agreed_48 : decode cX3_agreed 48 = .ok (.invokestatic 74, 3) := by decide +kernel
theorem dX3_agreed_51 : decode cX3_agreed 51 = .ok (.aload_n 1, 1) := by decide +kernel
theorem dX3_agreed_52 : decode cX3_agreed 52 = .ok (.getfield 79, 3) := by decide +kernel
theorem dX3_agreed_55 : decode cX3_agreed 55 = .ok (.invokevirtual 82, 3) := by decide +kernel
theorem dX3_agreed_58 : decode cX3_agreed 58 = .ok (.aload_n 0, 1) := by decide +kernel
theorem dX3_agreed_59 : decode cX3_agreed 59 = .ok (.iload 5, 2) := by decide +kernel
theorem dX3_agreed_61 : decode cX3_agreed 61 = .ok (.invokevirtual 86, 3) := by decide +kernel
theorem dX3_agreed_64 : decode cX3_agreed 64 = .ok (.istore 6, 2) := by decide +kernel
theorem dX3_agreed_66 : decode cX3_agreed 66 = .ok (.iconst 0, 1) := by decide +kernel
theorem dX3_agreed_67 : decode cX3_agreed 67 = .ok (.bipush 100, 2) := by decide +kernel
theorem dX3_agreed_69 : decode cX3_agreed 69 = .ok (.iload 6, 2) := by decide +kernel
theorem dX3_agreed_71 : decode cX3_agreed 71 = .ok (.invokestatic 49, 3) := by decide +kernel
theorem dX3_agreed_74 : decode cX3_agreed 74 = .ok (.invokestatic 55, 3) := by decide +kernel
theorem dX3_agreed_77 : decode cX3_agreed 77 = .ok (.ireturn, 1) := by decide +kernel
theorem dX3_inForce_0 : decode cX3_inForce 0 = .ok (.aload_n 0, 1) := by decide +kernel
theorem dX3_inForce_1 : decode cX3_inForce 1 = .ok (.getfield 18, 3) := by decide +kernel
theorem dX3_inForce_4 : decode cX3_inForce 4 = .ok (.getfield 89, 3) := by decide +kernel
theorem dX3_inForce_7 : decode cX3_inForce 7 = .ok (.iconst 1, 1) := by decide +kernel
theorem dX3_inForce_8 : decode cX3_inForce 8 = .ok (.isub, 1) := by decide +kernel
theorem dX3_inForce_9 : decode cX3_inForce 9 = .ok (.istore_n 3, 1) := by decide +kernel
theorem dX3_inForce_10 : decode cX3_inForce 10 = .ok (.iload_n 3, 1) := by decide +kernel
theorem dX3_inForce_11 : decode cX3_inForce 11 = .ok (.ifCond .lt 43, 3) := by decide +kernel
theorem dX3_inForce_14 : decode cX3_inForce 14 = .ok (.aload_n 0, 1) := by decide +kernel
theorem dX3_inForce_15 : decode cX3_inForce 15 = .ok (.getfield 18, 3) := by decide +kernel
theorem dX3_inForce_18 : decode cX3_inForce 18 = .ok (.getfield 92, 3) := by decide +kernel
theorem dX3_inForce_21 : decode cX3_inForce 21 = .ok (.iload_n 3, 1) := by decide +kernel
theorem dX3_inForce_22 : decode cX3_inForce 22 = .ok (.aaload, 1) := by decide +kernel
theorem dX3_inForce_23 : decode cX3_inForce 23 = .ok (.getfield 96, 3) := by decide +kernel
theorem dX3_inForce_26 : decode cX3_inForce 26 = .ok (.iload_n 1, 1) := by decide +kernel
theorem dX3_inForce_27 : decode cX3_inForce 27 = .ok (.if_icmp .ne 21, 3) := by decide +kernel
theorem dX3_inForce_30 : decode cX3_inForce 30 = .ok (.aload_n 0, 1) := by decide +kernel
theorem dX3_inForce_31 : decode cX3_inForce 31 = .ok (.getfield 18, 3) := by decide +kernel
theorem dX3_inForce_34 : decode cX3_inForce 34 = .ok (.getfield 92, 3) := by decide +kernel
theorem dX3_inForce_37 : decode cX3_inForce 37 = .ok (.iload_n 3, 1) := by decide +kernel
theorem dX3_inForce_38 : decode cX3_inForce 38 = .ok (.aaload, 1) := by decide +kernel
theorem dX3_inForce_39 : decode cX3_inForce 39 = .ok (.getfield 101, 3) := by decide +kernel
theorem dX3_inForce_42 : decode cX3_inForce 42 = .ok (.iload_n 2, 1) := by decide +kernel
theorem dX3_inForce_43 : decode cX3_inForce 43 = .ok (.if_icmp .gt 5, 3) := by decide +kernel
theorem dX3_inForce_46 : decode cX3_inForce 46 = .ok (.iload_n 3, 1) := by decide +kernel
theorem dX3_inForce_47 : decode cX3_inForce 47 = .ok (.ireturn, 1) := by decide +kernel
theorem dX3_inForce_48 : decode cX3_inForce 48 = .ok (.iinc 3 (-1), 3) := by decide +kernel
theorem dX3_inForce_51 : decode cX3_inForce 51 = .ok (.goto (-41), 3) := by decide +kernel
theorem dX3_inForce_54 : decode cX3_inForce 54 = .ok (.iconst (-1), 1) := by decide +kernel
theorem dX3_inForce_55 : decode cX3_inForce 55 = .ok (.ireturn, 1) := by decide +kernel
theorem dX3_name_0 : decode cX3_name 0 = .ok (.aload_n 0, 1) := by decide +kernel
theorem dX3_name_1 : decode cX3_name 1 = .ok (.getfield 9, 3) := by decide +kernel
theorem dX3_name_4 : decode cX3_name 4 = .ok (.iconst 0, 1) := by decide +kernel
theorem dX3_name_5 : decode cX3_name 5 = .ok (.iload_n 1, 1) := by decide +kernel
theorem dX3_name_6 : decode cX3_name 6 = .ok (.iastore, 1) := by decide +kernel
theorem dX3_name_7 : decode cX3_name 7 = .ok (.aload_n 0, 1) := by decide +kernel
theorem dX3_name_8 : decode cX3_name 8 = .ok (.getfield 9, 3) := by decide +kernel
theorem dX3_name_11 : decode cX3_name 11 = .ok (.iconst 1, 1) := by decide +kernel
theorem dX3_name_12 : decode cX3_name 12 = .ok (.iload_n 2, 1) := by decide +kernel
theorem dX3_name_13 : decode cX3_name 13 = .ok (.iastore, 1) := by decide +kernel
theorem dX3_name_14 : decode cX3_name 14 = .ok (.aload_n 0, 1) := by decide +kernel
theorem dX3_name_15 : decode cX3_name 15 = .ok (.getfield 9, 3) := by decide +kernel
theorem dX3_name_18 : decode cX3_name 18 = .ok (.iconst 2, 1) := by decide +kernel
theorem dX3_name_19 : decode cX3_name 19 = .ok (.iload_n 3, 1) := by decide +kernel
theorem dX3_name_20 : decode cX3_name 20 = .ok (.iastore, 1) := by decide +kernel
theorem dX3_name_21 : decode cX3_name 21 = .ok (.aload_n 0, 1) := by decide +kernel
theorem dX3_name_22 : decode cX3_name 22 = .ok (.getfield 9, 3) := by decide +kernel
theorem dX3_name_25 : decode cX3_name 25 = .ok (.iconst 3, 1) := by decide +kernel
theorem dX3_name_26 : decode cX3_name 26 = .ok (.iload 4, 2) := by decide +kernel
theorem dX3_name_28 : decode cX3_name 28 = .ok (.iastore, 1) := by decide +kernel
theorem dX3_name_29 : decode cX3_name 29 = .ok (.return_, 1) := by decide +kernel
theorem dX3_follow_0 : decode cX3_follow 0 = .ok (.aload_n 0, 1) := by decide +kernel
theorem dX3_follow_1 : decode cX3_follow 1 = .ok (.getfield 18, 3) := by decide +kernel
theorem dX3_follow_4 : decode cX3_follow 4 = .ok (.getfield 92, 3) := by decide +kernel
theorem dX3_follow_7 : decode cX3_follow 7 = .ok (.iload_n 1, 1) := by decide +kernel
theorem dX3_follow_8 : decode cX3_follow 8 = .ok (.aaload, 1) := by decide +kernel
theorem dX3_follow_9 : decode cX3_follow 9 = .ok (.aload_n 0, 1) := by decide +kernel
theorem dX3_follow_10 : decode cX3_follow 10 = .ok (.getfield 9, 3) := by decide +kernel
theorem dX3_follow_13 : decode cX3_follow 13 = .ok (.aload_n 0, 1) := by decide +kernel
theorem dX3_follow_14 : decode cX3_follow 14 = .ok (.getfield 15, 3) := by decide +kernel
theorem dX3_follow_17 : decode cX3_follow 17 = .ok (.invokevirtual 102, 3) := by decide +kernel
theorem dX3_follow_20 : decode cX3_follow 20 = .ok (.ireturn, 1) := by decide +kernel
theorem dX3_book_0 : decode cX3_book 0 = .ok (.aload_n 1, 1) := by decide +kernel
theorem dX3_book_1 : decode cX3_book 1 = .ok (.getfield 106, 3) := by decide +kernel
theorem dX3_book_4 : decode cX3_book 4 = .ok (.istore_n 2, 1) := by decide +kernel
theorem dX3_book_5 : decode cX3_book 5 = .ok (.iconst 0, 1) := by decide +kernel
theorem dX3_book_6 : decode cX3_book 6 = .ok (.istore_n 3, 1) := by decide +kernel
theorem dX3_book_7 : decode cX3_book 7 = .ok (.iload_n 3, 1) := by decide +kernel
theorem dX3_book_8 : decode cX3_book 8 = .ok (.aload_n 1, 1) := by decide +kernel
theorem dX3_book_9 : decode cX3_book 9 = .ok (.getfield 111, 3) := by decide +kernel
theorem dX3_book_12 : decode cX3_book 12 = .ok (.if_icmp .ge 27, 3) := by decide +kernel
theorem dX3_book_15 : decode cX3_book 15 = .ok (.iload_n 2, 1) := by decide +kernel
theorem dX3_book_16 : decode cX3_book 16 = .ok (.bipush 100, 2) := by decide +kernel
theorem dX3_book_18 : decode cX3_book 18 = .ok (.aload_n 0, 1) := by decide +kernel
theorem dX3_book_19 : decode cX3_book 19 = .ok (.getfield 18, 3) := by decide +kernel
theorem dX3_book_22 : decode cX3_book 22 = .ok (.getfield 114, 3) := by decide +kernel
theorem dX3_book_25 : decode cX3_book 25 = .ok (.iconst 1, 1) := by decide +kernel
theorem dX3_book_26 : decode cX3_book 26 = .ok (.iaload, 1) := by decide +kernel
theorem dX3_book_27 : decode cX3_book 27 = .ok (.isub, 1) := by decide +kernel
theorem dX3_book_28 : decode cX3_book 28 = .ok (.imul, 1) := by decide +kernel
theorem dX3_book_29 : decode cX3_book 29 = .ok (.bipush 100, 2) := by decide +kernel
theorem dX3_book_31 : decode cX3_book 31 = .ok (.idiv, 1) := by decide +kernel
theorem dX3_book_32 : decode cX3_book 32 = .ok (.istore_n 2, 1) := by decide +kernel
theorem dX3_book_33 : decode cX3_book 33 = .ok (.iinc 3 1, 3) := by decide +kernel
theorem dX3_book_36 : decode cX3_book 36 = .ok (.goto (-29), 3) := by decide +kernel
theorem dX3_book_39 : decode cX3_book 39 = .ok (.iload_n 2, 1) := by decide +kernel
theorem dX3_book_40 : decode cX3_book 40 = .ok (.ireturn, 1) := by decide +kernel
theorem dX3_appraise_0 : decode cX3_appraise 0 = .ok (.aload_n 1, 1) := by decide +kernel
theorem dX3_appraise_1 : decode cX3_appraise 1 = .ok (.iload_n 2, 1) := by decide +kernel
theorem dX3_appraise_2 : decode cX3_appraise 2 = .ok (.invokevirtual 117, 3) := by decide +kernel
theorem dX3_appraise_5 : decode cX3_appraise 5 = .ok (.istore_n 3, 1) := by decide +kernel
theorem dX3_appraise_6 : decode cX3_appraise 6 = .ok (.iconst 0, 1) := by decide +kernel
theorem dX3_appraise_7 : decode cX3_appraise 7 = .ok (.istore 4, 2) := by decide +kernel
theorem dX3_appraise_9 : decode cX3_appraise 9 = .ok (.iconst 0, 1) := by decide +kernel
theorem dX3_appraise_10 : decode cX3_appraise 10 = .ok (.istore 5, 2) := by decide +kernel
theorem dX3_appraise_12 : decode cX3_appraise 12 = .ok (.iconst 0, 1) := by decide +kernel
theorem dX3_appraise_13 : decode cX3_appraise 13 = .ok (.istore 6, 2) := by decide +kernel
theorem dX3_appraise_15 : decode cX3_appraise 15 = .ok (.iconst 0, 1) := by decide +kernel
theorem dX3_appraise_16 : decode cX3_appraise 16 = .ok (.istore 7, 2) := by decide +kernel
theorem dX3_appraise_18 : decode cX3_appraise 18 = .ok (.iload 7, 2) := by decide +kernel
theorem dX3_appraise_20 : decode cX3_appraise 20 = .ok (.bipush 8, 2) := by decide +kernel
theorem dX3_appraise_22 : decode cX3_appraise 22 = .ok (.if_icmp .ge 73, 3) := by decide +kernel
theorem dX3_appraise_25 : decode cX3_appraise 25 = .ok (.iload_n 3, 1) := by decide +kernel
theorem dX3_appraise_26 : decode cX3_appraise 26 = .ok (.iload 7, 2) := by decide +kernel
theorem dX3_appraise_28 : decode cX3_appraise 28 = .ok (.ishr, 1) := by decide +kernel
theorem dX3_appraise_29 : decode cX3_appraise 29 = .ok (.iconst 1, 1) := by decide +kernel
theorem dX3_appraise_30 : decode cX3_appraise 30 = .ok (.iand, 1) := by decide +kernel
theorem dX3_appraise_31 : decode cX3_appraise 31 = .ok (.ifCond .eq 58, 3) := by decide +kernel
theorem dX3_appraise_34 : decode cX3_appraise 34 = .ok (.iload 4, 2) := by decide +kernel
theorem dX3_appraise_36 : decode cX3_appraise 36 = .ok (.aload_n 0, 1) := by decide +kernel
theorem dX3_appraise_37 : decode cX3_appraise 37 = .ok (.getfield 18, 3) := by decide +kernel
theorem dX3_appraise_40 : decode cX3_appraise 40 = .ok (.getfield 120, 3) := by decide +kernel
theorem dX3_appraise_43 : decode cX3_appraise 43 = .ok (.iconst 0, 1) := by decide +kernel
theorem dX3_appraise_44 : decode cX3_appraise 44 = .ok (.iload 7, 2) := by decide +kernel
theorem dX3_appraise_46 : decode cX3_appraise 46 = .ok (.iadd, 1) := by decide +kernel
theorem dX3_appraise_47 : decode cX3_appraise 47 = .ok (.iaload, 1) := by decide +kernel
theorem dX3_appraise_48 : decode cX3_appraise 48 = .ok (.iadd, 1) := by decide +kernel
theorem dX3_appraise_49 : decode cX3_appraise 49 = .ok (.istore 4, 2) := by decide +kernel
theorem dX3_appraise_51 : decode cX3_appraise 51 = .ok (.iload 5, 2) := by decide +kernel
theorem dX3_appraise_53 : decode cX3_appraise 53 = .ok (.aload_n 0, 1) := by decide +kernel
theorem dX3_appraise_54 : decode cX3_appraise 54 = .ok (.getfield 18, 3) := by decide +kernel
theorem dX3_appraise_57 : decode cX3_appraise 57 = .ok (.getfield 120, 3) := by decide +kernel
theorem dX3_appraise_60 : decode cX3_appraise 60 = .ok (.bipush 8, 2) := by decide +kernel
theorem dX3_appraise_62 : decode cX3_appraise 62 = .ok (.iload 7, 2) := by decide +kernel
theorem dX3_appraise_64 : decode cX3_appraise 64 = .ok (.iadd, 1) := by decide +kernel
theorem dX3_appraise_65 : decode cX3_appraise 65 = .ok (.iaload, 1) := by decide +kernel
theorem dX3_appraise_66 : decode cX3_appraise 66 = .ok (.iadd, 1) := by decide +kernel
theorem dX3_appraise_67 : decode cX3_appraise 67 = .ok (.istore 5, 2) := by decide +kernel
theorem dX3_appraise_69 : decode cX3_appraise 69 = .ok (.iload 6, 2) := by decide +kernel
theorem dX3_appraise_71 : decode cX3_appraise 71 = .ok (.aload_n 0, 1) := by decide +kernel
theorem dX3_appraise_72 : decode cX3_appraise 72 = .ok (.getfield 18, 3) := by decide +kernel
theorem dX3_appraise_75 : decode cX3_appraise 75 = .ok (.getfield 120, 3) := by decide +kernel
theorem dX3_appraise_78 : decode cX3_appraise 78 = .ok (.bipush 16, 2) := by decide +kernel
theorem dX3_appraise_80 : decode cX3_appraise 80 = .ok (.iload 7, 2) := by decide +kernel
theorem dX3_appraise_82 : decode cX3_appraise 82 = .ok (.iadd, 1) := by decide +kernel
theorem dX3_appraise_83 : decode cX3_appraise 83 = .ok (.iaload, 1) := by decide +kernel
theorem dX3_appraise_84 : decode cX3_appraise 84 = .ok (.invokestatic 55, 3) := by decide +kernel
theorem dX3_appraise_87 : decode cX3_appraise 87 = .ok (.istore 6, 2) := by decide +kernel
theorem dX3_appraise_89 : decode cX3_appraise 89 = .ok (.iinc 7 1, 3) := by decide +kernel
theorem dX3_appraise_92 : decode cX3_appraise 92 = .ok (.goto (-74), 3) := by decide +kernel
theorem dX3_appraise_95 : decode cX3_appraise 95 = .ok (.aload_n 0, 1) := by decide +kernel
theorem dX3_appraise_96 : decode cX3_appraise 96 = .ok (.aload_n 0, 1) := by decide +kernel
theorem dX3_appraise_97 : decode cX3_appraise 97 = .ok (.getfield 18, 3) := by decide +kernel
theorem dX3_appraise_100 : decode cX3_appraise 100 = .ok (.getfield 123, 3) := by decide +kernel
theorem dX3_appraise_103 : decode cX3_appraise 103 = .ok (.aload_n 1, 1) := by decide +kernel
theorem dX3_appraise_104 : decode cX3_appraise 104 = .ok (.getfield 127, 3) := by decide +kernel
theorem dX3_appraise_107 : decode cX3_appraise 107 = .ok (.iload_n 2, 1) := by decide +kernel
theorem dX3_appraise_108 : decode cX3_appraise 108 = .ok (.iaload, 1) := by decide +kernel
theorem dX3_appraise_109 : decode cX3_appraise 109 = .ok (.aaload, 1) := by decide +kernel
theorem dX3_appraise_110 : decode cX3_appraise 110 = .ok (.invokevirtual 129, 3) := by decide +kernel
theorem dX3_appraise_113 : decode cX3_appraise 113 = .ok (.istore 7, 2) := by decide +kernel
theorem dX3_appraise_115 : decode cX3_appraise 115 = .ok (.aload_n 0, 1) := by decide +kernel
theorem dX3_appraise_116 : decode cX3_appraise 116 = .ok (.iload 4, 2) := by decide +kernel
theorem dX3_appraise_118 : decode cX3_appraise 118 = .ok (.iload 5, 2) := by decide +kernel
theorem dX3_appraise_120 : decode cX3_appraise 120 = .ok (.aload_n 0, 1) := by decide +kernel
theorem dX3_appraise_121 : decode cX3_appraise 121 = .ok (.getfield 18, 3) := by decide +kernel
theorem dX3_appraise_124 : decode cX3_appraise 124 = .ok (.getfield 114, 3) := by decide +kernel
theorem dX3_appraise_127 : decode cX3_appraise 127 = .ok (.iconst 0, 1) := by decide +kernel
theorem dX3_appraise_128 : decode cX3_appraise 128 = .ok (.iaload, 1) := by decide +kernel
theorem dX3_appraise_129 : decode cX3_appraise 129 = .ok (.imul, 1) := by decide +kernel
theorem dX3_appraise_130 : decode cX3_appraise 130 = .ok (.iadd, 1) := by decide +kernel
theorem dX3_appraise_131 : decode cX3_appraise 131 = .ok (.putfield 133, 3) := by decide +kernel
theorem dX3_appraise_134 : decode cX3_appraise 134 = .ok (.aload_n 0, 1) := by decide +kernel
theorem dX3_appraise_135 : decode cX3_appraise 135 = .ok (.aload_n 0, 1) := by decide +kernel
theorem dX3_appraise_136 : decode cX3_appraise 136 = .ok (.getfield 133, 3) := by decide +kernel
theorem dX3_appraise_139 : decode cX3_appraise 139 = .ok (.iload 7, 2) := by decide +kernel
theorem dX3_appraise_141 : decode cX3_appraise 141 = .ok (.aload_n 0, 1) := by decide +kernel
theorem dX3_appraise_142 : decode cX3_appraise 142 = .ok (.getfield 18, 3) := by decide +kernel
theorem dX3_appraise_145 : decode cX3_appraise 145 = .ok (.getfield 114, 3) := by decide +kernel
theorem dX3_appraise_148 : decode cX3_appraise 148 = .ok (.iconst 2, 1) := by decide +kernel
theorem dX3_appraise_149 : decode cX3_appraise 149 = .ok (.iaload, 1) := by decide +kernel
theorem dX3_appraise_150 : decode cX3_appraise 150 = .ok (.imul, 1) := by decide +kernel
theorem dX3_appraise_151 : decode cX3_appraise 151 = .ok (.bipush 100, 2) := by decide +kernel
theorem dX3_appraise_153 : decode cX3_appraise 153 = .ok (.idiv, 1) := by decide +kernel
theorem dX3_appraise_154 : decode cX3_appraise 154 = .ok (.if_icmp .le 7, 3) := by decide +kernel
theorem dX3_appraise_157 : decode cX3_appraise 157 = .ok (.iconst 1, 1) := by decide +kernel
theorem dX3_appraise_158 : decode cX3_appraise 158 = .ok (.goto 4, 3) := by decide +kernel
theorem dX3_appraise_161 : decode cX3_appraise 161 = .ok (.iconst 0, 1) := by decide +kernel
theorem dX3_appraise_162 : decode cX3_appraise 162 = .ok (.putfield 136, 3) := by decide +kernel
theorem dX3_appraise_165 : decode cX3_appraise 165 = .ok (.aload_n 0, 1) := by decide +kernel
theorem dX3_appraise_166 : decode cX3_appraise 166 = .ok (.aload_n 0, 1) := by decide +kernel
theorem dX3_appraise_167 : decode cX3_appraise 167 = .ok (.getfield 136, 3) := by decide +kernel
theorem dX3_appraise_170 : decode cX3_appraise 170 = .ok (.ifCond .eq 24, 3) := by decide +kernel
theorem dX3_appraise_173 : decode cX3_appraise 173 = .ok (.iload 7, 2) := by decide +kernel
theorem dX3_appraise_175 : decode cX3_appraise 175 = .ok (.iload 7, 2) := by decide +kernel
theorem dX3_appraise_177 : decode cX3_appraise 177 = .ok (.aload_n 0, 1) := by decide +kernel
theorem dX3_appraise_178 : decode cX3_appraise 178 = .ok (.getfield 18, 3) := by decide +kernel
theorem dX3_appraise_181 : decode cX3_appraise 181 = .ok (.getfield 114, 3) := by decide +kernel
theorem dX3_appraise_184 : decode cX3_appraise 184 = .ok (.iconst 3, 1) := by decide +kernel
theorem dX3_appraise_185 : decode cX3_appraise 185 = .ok (.iaload, 1) := by decide +kernel
theorem dX3_appraise_186 : decode cX3_appraise 186 = .ok (.imul, 1) := by decide +kernel
theorem dX3_appraise_187 : decode cX3_appraise 187 = .ok (.bipush 100, 2) := by decide +kernel
theorem dX3_appraise_189 : decode cX3_appraise 189 = .ok (.idiv, 1) := by decide +kernel
theorem dX3_appraise_190 : decode cX3_appraise 190 = .ok (.isub, 1) := by decide +kernel
theorem dX3_appraise_191 : decode cX3_appraise 191 = .ok (.goto 7, 3) := by decide +kernel
theorem dX3_appraise_194 : decode cX3_appraise 194 = .ok (.aload_n 0, 1) := by decide +kernel
theorem dX3_appraise_195 : decode cX3_appraise 195 = .ok (.getfield 133, 3) := by decide +kernel
theorem dX3_appraise_198 : decode cX3_appraise 198 = .ok (.putfield 140, 3) := by decide +kernel
theorem dX3_appraise_201 : decode cX3_appraise 201 = .ok (.aload_n 0, 1) := by decide +kernel
theorem dX3_appraise_202 : decode cX3_appraise 202 = .ok (.aload_n 0, 1) := by decide +kernel
theorem dX3_appraise_203 : decode cX3_appraise 203 = .ok (.getfield 136, 3) := by decide +kernel
theorem dX3_appraise_206 : decode cX3_appraise 206 = .ok (.ifCond .eq 7, 3) := by decide +kernel
theorem dX3_appraise_209 : decode cX3_appraise 209 = .ok (.iconst 0, 1) := by decide +kernel
theorem dX3_appraise_210 : decode cX3_appraise 210 = .ok (.goto 5, 3) := by decide +kernel
theorem dX3_appraise_213 : decode cX3_appraise 213 = .ok (.iload 6, 2) := by decide +kernel
theorem dX3_appraise_215 : decode cX3_appraise 215 = .ok (.putfield 143, 3) := by decide +kernel
theorem dX3_appraise_218 : decode cX3_appraise 218 = .ok (.aload_n 0, 1) := by decide +kernel
theorem dX3_appraise_219 : decode cX3_appraise 219 = .ok (.aload_n 0, 1) := by decide +kernel
theorem dX3_appraise_220 : decode cX3_appraise 220 = .ok (.getfield 136, 3) := by decide +kernel
theorem dX3_appraise_223 : decode cX3_appraise 223 = .ok (.ifCond .eq 8, 3) := by decide +kernel
theorem dX3_appraise_226 : decode cX3_appraise 226 = .ok (.bipush 14, 2) := by decide +kernel
theorem dX3_appraise_228 : decode cX3_appraise 228 = .ok (.goto 16, 3) := by decide +kernel
theorem dX3_appraise_231 : decode cX3_appraise 231 = .ok (.iload 6, 2) := by decide +kernel
theorem dX3_appraise_233 : decode cX3_appraise 233 = .ok (.iload 5, 2) := by decide +kernel
theorem dX3_appraise_235 : decode cX3_appraise 235 = .ok (.bipush 8, 2) := by decide +kernel
theorem dX3_appraise_237 : decode cX3_appraise 237 = .ok (.iadd, 1) := by decide +kernel
theorem dX3_appraise_238 : decode cX3_appraise 238 = .ok (.iconst 1, 1) := by decide +kernel
theorem dX3_appraise_239 : decode cX3_appraise 239 = .ok (.isub, 1) := by decide +kernel
theorem dX3_appraise_240 : decode cX3_appraise 240 = .ok (.bipush 8, 2) := by decide +kernel
theorem dX3_appraise_242 : decode cX3_appraise 242 = .ok (.idiv, 1) := by decide +kernel
theorem dX3_appraise_243 : decode cX3_appraise 243 = .ok (.iadd, 1) := by decide +kernel
theorem dX3_appraise_244 : decode cX3_appraise 244 = .ok (.putfield 146, 3) := by decide +kernel
theorem dX3_appraise_247 : decode cX3_appraise 247 = .ok (.return_, 1) := by decide +kernel
theorem dX3_claim_0 : decode cX3_claim 0 = .ok (.aload_n 0, 1) := by decide +kernel
theorem dX3_claim_1 : decode cX3_claim 1 = .ok (.aload_n 1, 1) := by decide +kernel
theorem dX3_claim_2 : decode cX3_claim 2 = .ok (.invokevirtual 149, 3) := by decide +kernel
theorem dX3_claim_5 : decode cX3_claim 5 = .ok (.istore_n 3, 1) := by decide +kernel
theorem dX3_claim_6 : decode cX3_claim 6 = .ok (.iload_n 2, 1) := by decide +kernel
theorem dX3_claim_7 : decode cX3_claim 7 = .ok (.ifCond .ne 10, 3) := by decide +kernel
theorem dX3_claim_10 : decode cX3_claim 10 = .ok (.bipush 100, 2) := by decide +kernel
theorem dX3_claim_12 : decode cX3_claim 12 = .ok (.iload_n 3, 1) := by decide +kernel
theorem dX3_claim_13 : decode cX3_claim 13 = .ok (.isub, 1) := by decide +kernel
theorem dX3_claim_14 : decode cX3_claim 14 = .ok (.goto 4, 3) := by decide +kernel
theorem dX3_claim_17 : decode cX3_claim 17 = .ok (.iload_n 3, 1) := by decide +kernel
theorem dX3_claim_18 : decode cX3_claim 18 = .ok (.istore 4, 2) := by decide +kernel
theorem dX3_claim_20 : decode cX3_claim 20 = .ok (.aload_n 0, 1) := by decide +kernel
theorem dX3_claim_21 : decode cX3_claim 21 = .ok (.aload_n 1, 1) := by decide +kernel
theorem dX3_claim_22 : decode cX3_claim 22 = .ok (.iload_n 2, 1) := by decide +kernel
theorem dX3_claim_23 : decode cX3_claim 23 = .ok (.invokevirtual 152, 3) := by decide +kernel
theorem dX3_claim_26 : decode cX3_claim 26 = .ok (.aload_n 0, 1) := by decide +kernel
theorem dX3_claim_27 : decode cX3_claim 27 = .ok (.getfield 140, 3) := by decide +kernel
theorem dX3_claim_30 : decode cX3_claim 30 = .ok (.aload_n 0, 1) := by decide +kernel
theorem dX3_claim_31 : decode cX3_claim 31 = .ok (.getfield 146, 3) := by decide +kernel
theorem dX3_claim_34 : decode cX3_claim 34 = .ok (.aload_n 0, 1) := by decide +kernel
theorem dX3_claim_35 : decode cX3_claim 35 = .ok (.getfield 18, 3) := by decide +kernel
theorem dX3_claim_38 : decode cX3_claim 38 = .ok (.getfield 114, 3) := by decide +kernel
theorem dX3_claim_41 : decode cX3_claim 41 = .ok (.iconst 4, 1) := by decide +kernel
theorem dX3_claim_42 : decode cX3_claim 42 = .ok (.iaload, 1) := by decide +kernel
theorem dX3_claim_43 : decode cX3_claim 43 = .ok (.imul, 1) := by decide +kernel
theorem dX3_claim_44 : decode cX3_claim 44 = .ok (.iadd, 1) := by decide +kernel
theorem dX3_claim_45 : decode cX3_claim 45 = .ok (.iload 4, 2) := by decide +kernel
theorem dX3_claim_47 : decode cX3_claim 47 = .ok (.imul, 1) := by decide +kernel
theorem dX3_claim_48 : decode cX3_claim 48 = .ok (.bipush 100, 2) := by decide +kernel
theorem dX3_claim_50 : decode cX3_claim 50 = .ok (.idiv, 1) := by decide +kernel
theorem dX3_claim_51 : decode cX3_claim 51 = .ok (.ireturn, 1) := by decide +kernel
theorem dX3_goesBack_0 : decode cX3_goesBack 0 = .ok (.aload_n 0, 1) := by decide +kernel
theorem dX3_goesBack_1 : decode cX3_goesBack 1 = .ok (.getfield 18, 3) := by decide +kernel
theorem dX3_goesBack_4 : decode cX3_goesBack 4 = .ok (.getfield 123, 3) := by decide +kernel
theorem dX3_goesBack_7 : decode cX3_goesBack 7 = .ok (.aload_n 1, 1) := by decide +kernel
theorem dX3_goesBack_8 : decode cX3_goesBack 8 = .ok (.getfield 127, 3) := by decide +kernel
theorem dX3_goesBack_11 : decode cX3_goesBack 11 = .ok (.iload_n 2, 1) := by decide +kernel
theorem dX3_goesBack_12 : decode cX3_goesBack 12 = .ok (.iaload, 1) := by decide +kernel
theorem dX3_goesBack_13 : decode cX3_goesBack 13 = .ok (.aaload, 1) := by decide +kernel
theorem dX3_goesBack_14 : decode cX3_goesBack 14 = .ok (.getfield 156, 3) := by decide +kernel
theorem dX3_goesBack_17 : decode cX3_goesBack 17 = .ok (.istore 4, 2) := by decide +kernel
theorem dX3_goesBack_19 : decode cX3_goesBack 19 = .ok (.aload_n 0, 1) := by decide +kernel
theorem dX3_goesBack_20 : decode cX3_goesBack 20 = .ok (.iconst 1, 1) := by decide +kernel
theorem dX3_goesBack_21 : decode cX3_goesBack 21 = .ok (.aload_n 1, 1) := by decide +kernel
theorem dX3_goesBack_22 : decode cX3_goesBack 22 = .ok (.getfield 68, 3) := by decide +kernel
theorem dX3_goesBack_25 : decode cX3_goesBack 25 = .ok (.invokevirtual 71, 3) := by decide +kernel
theorem dX3_goesBack_28 : decode cX3_goesBack 28 = .ok (.istore 5, 2) := by decide +kernel
theorem dX3_goesBack_30 : decode cX3_goesBack 30 = .ok (.iload_n 3, 1) := by decide +kernel
theorem dX3_goesBack_31 : decode cX3_goesBack 31 = .ok (.iload 4, 2) := by decide +kernel
theorem dX3_goesBack_33 : decode cX3_goesBack 33 = .ok (.invokestatic 49, 3) := by decide +kernel
theorem dX3_goesBack_36 : decode cX3_goesBack 36 = .ok (.istore 6, 2) := by decide +kernel
theorem dX3_goesBack_38 : decode cX3_goesBack 38 = .ok (.iload 5, 2) := by decide +kernel
theorem dX3_goesBack_40 : decode cX3_goesBack 40 = .ok (.ifCond .lt 29, 3) := by decide +kernel
theorem dX3_goesBack_43 : decode cX3_goesBack 43 = .ok (.aload_n 0, 1) := by decide +kernel
theorem dX3_goesBack_44 : decode cX3_goesBack 44 = .ok (.aload_n 1, 1) := by decide +kernel
theorem dX3_goesBack_45 : decode cX3_goesBack 45 = .ok (.iload_n 2, 1) := by decide +kernel
theorem dX3_goesBack_46 : decode cX3_goesBack 46 = .ok (.invokevirtual 152, 3) := by decide +kernel
theorem dX3_goesBack_49 : decode cX3_goesBack 49 = .ok (.aload_n 0, 1) := by decide +kernel
theorem dX3_goesBack_50 : decode cX3_goesBack 50 = .ok (.iload_n 3, 1) := by decide +kernel
theorem dX3_goesBack_51 : decode cX3_goesBack 51 = .ok (.iload 4, 2) := by decide +kernel
theorem dX3_goesBack_53 : decode cX3_goesBack 53 = .ok (.aload_n 0, 1) := by decide +kernel
theorem dX3_goesBack_54 : decode cX3_goesBack 54 = .ok (.getfield 140, 3) := by decide +kernel
theorem dX3_goesBack_57 : decode cX3_goesBack 57 = .ok (.iconst 0, 1) := by decide +kernel
theorem dX3_goesBack_58 : decode cX3_goesBack 58 = .ok (.invokevirtual 82, 3) := by decide +kernel
theorem dX3_goesBack_61 : decode cX3_goesBack 61 = .ok (.aload_n 0, 1) := by decide +kernel
theorem dX3_goesBack_62 : decode cX3_goesBack 62 = .ok (.iload 5, 2) := by decide +kernel
theorem dX3_goesBack_64 : decode cX3_goesBack 64 = .ok (.invokevirtual 86, 3) := by decide +kernel
theorem dX3_goesBack_67 : decode cX3_goesBack 67 = .ok (.istore 6, 2) := by decide +kernel
theorem dX3_goesBack_69 : decode cX3_goesBack 69 = .ok (.iconst 0, 1) := by decide +kernel
theorem dX3_goesBack_70 : decode cX3_goesBack 70 = .ok (.iload_n 3, 1) := by decide +kernel
theorem dX3_goesBack_71 : decode cX3_goesBack 71 = .ok (.iload 6, 2) := by decide +kernel
theorem dX3_goesBack_73 : decode cX3_goesBack 73 = .ok (.invokestatic 49, 3) := by decide +kernel
theorem dX3_goesBack_76 : decode cX3_goesBack 76 = .ok (.invokestatic 55, 3) := by decide +kernel
theorem dX3_goesBack_79 : decode cX3_goesBack 79 = .ok (.ireturn, 1) := by decide +kernel
theorem dX3_disputed_0 : decode cX3_disputed 0 = .ok (.aload_n 0, 1) := by decide +kernel
theorem dX3_disputed_1 : decode cX3_disputed 1 = .ok (.getfield 18, 3) := by decide +kernel
theorem dX3_disputed_4 : decode cX3_disputed 4 = .ok (.getfield 159, 3) := by decide +kernel
theorem dX3_disputed_7 : decode cX3_disputed 7 = .ok (.aload_n 1, 1) := by decide +kernel
theorem dX3_disputed_8 : decode cX3_disputed 8 = .ok (.getfield 163, 3) := by decide +kernel
theorem dX3_disputed_11 : decode cX3_disputed 11 = .ok (.aaload, 1) := by decide +kernel
theorem dX3_disputed_12 : decode cX3_disputed 12 = .ok (.astore_n 2, 1) := by decide +kernel
theorem dX3_disputed_13 : decode cX3_disputed 13 = .ok (.aload_n 0, 1) := by decide +kernel
theorem dX3_disputed_14 : decode cX3_disputed 14 = .ok (.aload_n 2, 1) := by decide +kernel
theorem dX3_disputed_15 : decode cX3_disputed 15 = .ok (.aload_n 1, 1) := by decide +kernel
theorem dX3_disputed_16 : decode cX3_disputed 16 = .ok (.getfield 168, 3) := by decide +kernel
theorem dX3_disputed_19 : decode cX3_disputed 19 = .ok (.invokevirtual 171, 3) := by decide +kernel
theorem dX3_disputed_22 : decode cX3_disputed 22 = .ok (.istore_n 3, 1) := by decide +kernel
theorem dX3_disputed_23 : decode cX3_disputed 23 = .ok (.aload_n 0, 1) := by decide +kernel
theorem dX3_disputed_24 : decode cX3_disputed 24 = .ok (.getfield 18, 3) := by decide +kernel
theorem dX3_disputed_27 : decode cX3_disputed 27 = .ok (.getfield 114, 3) := by decide +kernel
theorem dX3_disputed_30 : decode cX3_disputed 30 = .ok (.iconst 5, 1) := by decide +kernel
theorem dX3_disputed_31 : decode cX3_disputed 31 = .ok (.iaload, 1) := by decide +kernel
theorem dX3_disputed_32 : decode cX3_disputed 32 = .ok (.istore 4, 2) := by decide +kernel
theorem dX3_disputed_34 : decode cX3_disputed 34 = .ok (.aload_n 0, 1) := by decide +kernel
theorem dX3_disputed_35 : decode cX3_disputed 35 = .ok (.iconst 2, 1) := by decide +kernel
theorem dX3_disputed_36 : decode cX3_disputed 36 = .ok (.aload_n 2, 1) := by decide +kernel
theorem dX3_disputed_37 : decode cX3_disputed 37 = .ok (.getfield 68, 3) := by decide +kernel
theorem dX3_disputed_40 : decode cX3_disputed 40 = .ok (.invokevirtual 71, 3) := by decide +kernel
theorem dX3_disputed_43 : decode cX3_disputed 43 = .ok (.istore 5, 2) := by decide +kernel
theorem dX3_disputed_45 : decode cX3_disputed 45 = .ok (.iload 5, 2) := by decide +kernel
theorem dX3_disputed_47 : decode cX3_disputed 47 = .ok (.ifCond .ge 20, 3) := by decide +kernel
theorem dX3_disputed_50 : decode cX3_disputed 50 = .ok (.aload_n 1, 1) := by decide +kernel
theorem dX3_disputed_51 : decode cX3_disputed 51 = .ok (.getfield 175, 3) := by decide +kernel
theorem dX3_disputed_54 : decode cX3_disputed 54 = .ok (.iload_n 3, 1) := by decide +kernel
theorem dX3_disputed_55 : decode cX3_disputed 55 = .ok (.iload 4, 2) := by decide +kernel
theorem dX3_disputed_57 : decode cX3_disputed 57 = .ok (.iadd, 1) := by decide +kernel
theorem dX3_disputed_58 : decode cX3_disputed 58 = .ok (.if_icmp .le 7, 3) := by decide +kernel
theorem dX3_disputed_61 : decode cX3_disputed 61 = .ok (.iconst 1, 1) := by decide +kernel
theorem dX3_disputed_62 : decode cX3_disputed 62 = .ok (.goto 4, 3) := by decide +kernel
theorem dX3_disputed_65 : decode cX3_disputed 65 = .ok (.iconst 0, 1) := by decide +kernel
theorem dX3_disputed_66 : decode cX3_disputed 66 = .ok (.ireturn, 1) := by decide +kernel
theorem dX3_disputed_67 : decode cX3_disputed 67 = .ok (.aload_n 0, 1) := by decide +kernel
theorem dX3_disputed_68 : decode cX3_disputed 68 = .ok (.aload_n 1, 1) := by decide +kernel
theorem dX3_disputed_69 : decode cX3_disputed 69 = .ok (.getfield 175, 3) := by decide +kernel
theorem dX3_disputed_72 : decode cX3_disputed 72 = .ok (.iload_n 3, 1) := by decide +kernel
theorem dX3_disputed_73 : decode cX3_disputed 73 = .ok (.iload 4, 2) := by decide +kernel
theorem dX3_disputed_75 : decode cX3_disputed 75 = .ok (.iconst 0, 1) := by decide +kernel
theorem dX3_disputed_76 : decode cX3_disputed 76 = .ok (.invokevirtual 82, 3) := by decide +kernel
theorem dX3_disputed_79 : decode cX3_disputed 79 = .ok (.aload_n 0, 1) := by decide +kernel
theorem dX3_disputed_80 : decode cX3_disputed 80 = .ok (.iload 5, 2) := by decide +kernel
theorem dX3_disputed_82 : decode cX3_disputed 82 = .ok (.invokevirtual 86, 3) := by decide +kernel
theorem dX3_disputed_85 : decode cX3_disputed 85 = .ok (.ifCond .eq 7, 3) := by decide +kernel
theorem dX3_disputed_88 : decode cX3_disputed 88 = .ok (.iconst 1, 1) := by decide +kernel
theorem dX3_disputed_89 : decode cX3_disputed 89 = .ok (.goto 4, 3) := by decide +kernel
theorem dX3_disputed_92 : decode cX3_disputed 92 = .ok (.iconst 0, 1) := by decide +kernel
theorem dX3_disputed_93 : decode cX3_disputed 93 = .ok (.ireturn, 1) := by decide +kernel
theorem dX3_kind_0 : decode cX3_kind 0 = .ok (.aload_n 0, 1) := by decide +kernel
theorem dX3_kind_1 : decode cX3_kind 1 = .ok (.getfield 18, 3) := by decide +kernel
theorem dX3_kind_4 : decode cX3_kind 4 = .ok (.getfield 178, 3) := by decide +kernel
theorem dX3_kind_7 : decode cX3_kind 7 = .ok (.iload_n 1, 1) := by decide +kernel
theorem dX3_kind_8 : decode cX3_kind 8 = .ok (.aaload, 1) := by decide +kernel
theorem dX3_kind_9 : decode cX3_kind 9 = .ok (.astore_n 2, 1) := by decide +kernel
theorem dX3_kind_10 : decode cX3_kind 10 = .ok (.aload_n 2, 1) := by decide +kernel
theorem dX3_kind_11 : decode cX3_kind 11 = .ok (.getfield 182, 3) := by decide +kernel
theorem dX3_kind_14 : decode cX3_kind 14 = .ok (.iload_n 1, 1) := by decide +kernel
theorem dX3_kind_15 : decode cX3_kind 15 = .ok (.if_icmp .eq 5, 3) := by decide +kernel
theorem dX3_kind_18 : decode cX3_kind 18 = .ok (.iconst 4, 1) := by decide +kernel
theorem dX3_kind_19 : decode cX3_kind 19 = .ok (.ireturn, 1) := by decide +kernel
theorem dX3_kind_20 : decode cX3_kind 20 = .ok (.aload_n 0, 1) := by decide +kernel
theorem dX3_kind_21 : decode cX3_kind 21 = .ok (.aload_n 2, 1) := by decide +kernel
theorem dX3_kind_22 : decode cX3_kind 22 = .ok (.invokevirtual 185, 3) := by decide +kernel
theorem dX3_kind_25 : decode cX3_kind 25 = .ok (.ifCond .eq 5, 3) := by decide +kernel
theorem dX3_kind_28 : decode cX3_kind 28 = .ok (.iconst 3, 1) := by decide +kernel
theorem dX3_kind_29 : decode cX3_kind 29 = .ok (.ireturn, 1) := by decide +kernel
theorem dX3_kind_30 : decode cX3_kind 30 = .ok (.aload_n 0, 1) := by decide +kernel
theorem dX3_kind_31 : decode cX3_kind 31 = .ok (.aload_n 0, 1) := by decide +kernel
theorem dX3_kind_32 : decode cX3_kind 32 = .ok (.getfield 18, 3) := by decide +kernel
theorem dX3_kind_35 : decode cX3_kind 35 = .ok (.getfield 159, 3) := by decide +kernel
theorem dX3_kind_38 : decode cX3_kind 38 = .ok (.aload_n 2, 1) := by decide +kernel
theorem dX3_kind_39 : decode cX3_kind 39 = .ok (.getfield 163, 3) := by decide +kernel
theorem dX3_kind_42 : decode cX3_kind 42 = .ok (.aaload, 1) := by decide +kernel
theorem dX3_kind_43 : decode cX3_kind 43 = .ok (.aload_n 2, 1) := by decide +kernel
theorem dX3_kind_44 : decode cX3_kind 44 = .ok (.getfield 168, 3) := by decide +kernel
theorem dX3_kind_47 : decode cX3_kind 47 = .ok (.invokevirtual 152, 3) := by decide +kernel
theorem dX3_kind_50 : decode cX3_kind 50 = .ok (.aload_n 0, 1) := by decide +kernel
theorem dX3_kind_51 : decode cX3_kind 51 = .ok (.getfield 136, 3) := by decide +kernel
theorem dX3_kind_54 : decode cX3_kind 54 = .ok (.ifCond .eq 7, 3) := by decide +kernel
theorem dX3_kind_57 : decode cX3_kind 57 = .ok (.iconst 2, 1) := by decide +kernel
theorem dX3_kind_58 : decode cX3_kind 58 = .ok (.goto 4, 3) := by decide +kernel
theorem dX3_kind_61 : decode cX3_kind 61 = .ok (.iconst 1, 1) := by decide +kernel
theorem dX3_kind_62 : decode cX3_kind 62 = .ok (.ireturn, 1) := by decide +kernel
theorem dX4_init_0 : decode cX4_init 0 = .ok (.aload_n 0, 1) := by decide +kernel
theorem dX4_init_1 : decode cX4_init 1 = .ok (.invokespecial 3, 3) := by decide +kernel
theorem dX4_init_4 : decode cX4_init 4 = .ok (.aload_n 0, 1) := by decide +kernel
theorem dX4_init_5 : decode cX4_init 5 = .ok (.bipush 11, 2) := by decide +kernel
theorem dX4_init_7 : decode cX4_init 7 = .ok (.newarray .long, 2) := by decide +kernel
theorem dX4_init_9 : decode cX4_init 9 = .ok (.putfield 9, 3) := by decide +kernel
theorem dX4_init_12 : decode cX4_init 12 = .ok (.aload_n 0, 1) := by decide +kernel
theorem dX4_init_13 : decode cX4_init 13 = .ok (.bipush 11, 2) := by decide +kernel
theorem dX4_init_15 : decode cX4_init 15 = .ok (.newarray .long, 2) := by decide +kernel
theorem dX4_init_17 : decode cX4_init 17 = .ok (.putfield 15, 3) := by decide +kernel
theorem dX4_init_20 : decode cX4_init 20 = .ok (.aload_n 0, 1) := by decide +kernel
theorem dX4_init_21 : decode cX4_init 21 = .ok (.sipush 2048, 3) := by decide +kernel
theorem dX4_init_24 : decode cX4_init 24 = .ok (.newarray .long, 2) := by decide +kernel
theorem dX4_init_26 : decode cX4_init 26 = .ok (.putfield 18, 3) := by decide +kernel
theorem dX4_init_29 : decode cX4_init 29 = .ok (.aload_n 0, 1) := by decide +kernel
theorem dX4_init_30 : decode cX4_init 30 = .ok (.sipush 2048, 3) := by decide +kernel
theorem dX4_init_33 : decode cX4_init 33 = .ok (.newarray .int, 2) := by decide +kernel
theorem dX4_init_35 : decode cX4_init 35 = .ok (.putfield 21, 3) := by decide +kernel
theorem dX4_init_38 : decode cX4_init 38 = .ok (.aload_n 0, 1) := by decide +kernel
theorem dX4_init_39 : decode cX4_init 39 = .ok (.aload_n 1, 1) := by decide +kernel
theorem dX4_init_40 : decode cX4_init 40 = .ok (.putfield 25, 3) := by decide +kernel
theorem dX4_init_43 : decode cX4_init 43 = .ok (.aload_n 0, 1) := by decide +kernel
theorem dX4_init_44 : decode cX4_init 44 = .ok (.aload_n 2, 1) := by decide +kernel
theorem dX4_init_45 : decode cX4_init 45 = .ok (.putfield 29, 3) := by decide +kernel
theorem dX4_init_48 : decode cX4_init 48 = .ok (.return_, 1) := by decide +kernel
theorem dX4_open_0 : decode cX4_open 0 = .ok (.aload_n 0, 1) := by decide +kernel
theorem dX4_open_1 : decode cX4_open 1 = .ok (.getfield 9, 3) := by decide +kernel
theorem dX4_open_4 : decode cX4_open 4 = .ok (.lconst 0, 1) := by decide +kernel
theorem dX4_open_5 : decode cX4_open 5 = .ok (.invokestatic 33, 3) := by decide +kernel
theorem dX4_open_8 : decode cX4_open 8 = .ok (.aload_n 0, 1) := by decide +kernel
theorem dX4_open_9 : decode cX4_open 9 = .ok (.iconst 0, 1) := by decide +kernel
theorem dX4_open_10 : decode cX4_open 10 = .ok (.putfield 39, 3) := by decide +kernel
theorem dX4_open_13 : decode cX4_open 13 = .ok (.iconst 0, 1) := by decide +kernel
theorem dX4_open_14 : decode cX4_open 14 = .ok (.istore_n 2, 1) := by decide +kernel
theorem dX4_open_15 : decode cX4_open 15 = .ok (.iload_n 2, 1) := by decide +kernel
theorem dX4_open_16 : decode cX4_open 16 = .ok (.aload_n 0, 1) := by decide +kernel
theorem dX4_open_17 : decode cX4_open 17 = .ok (.getfield 25, 3) := by decide +kernel
theorem dX4_open_20 : decode cX4_open 20 = .ok (.getfield 43, 3) := by decide +kernel
theorem dX4_open_23 : decode cX4_open 23 = .ok (.if_icmp .ge 149, 3) := by decide +kernel
theorem dX4_open_26 : decode cX4_open 26 = .ok (.aload_n 0, 1) := by decide +kernel
theorem dX4_open_27 : decode cX4_open 27 = .ok (.getfield 25, 3) := by decide +kernel
theorem dX4_open_30 : decode cX4_open 30 = .ok (.getfield 48, 3) := by decide +kernel
theorem dX4_open_33 : decode cX4_open 33 = .ok (.iload_n 2, 1) := by decide +kernel
theorem dX4_open_34 : decode cX4_open 34 = .ok (.aaload, 1) := by decide +kernel
theorem dX4_open_35 : decode cX4_open 35 = .ok (.astore_n 3, 1) := by decide +kernel
theorem dX4_open_36 : decode cX4_open 36 = .ok (.aload_n 3, 1) := by decide +kernel
theorem dX4_open_37 : decode cX4_open 37 = .ok (.getfield 52, 3) := by decide +kernel
theorem dX4_open_40 : decode cX4_open 40 = .ok (.iload_n 1, 1) := by decide +kernel
theorem dX4_open_41 : decode cX4_open 41 = .ok (.if_icmp .ne 125, 3) := by decide +kernel
theorem dX4_open_44 : decode cX4_open 44 = .ok (.aload_n 3, 1) := by decide +kernel
theorem dX4_open_45 : decode cX4_open 45 = .ok (.getfield 57, 3) := by decide +kernel
theorem dX4_open_48 : decode cX4_open 48 = .ok (.iload_n 2, 1) := by decide +kernel
theorem dX4_open_49 : decode cX4_open 49 = .ok (.if_icmp .eq 6, 3) := by decide +kernel
theorem dX4_open_52 : decode cX4_open 52 = .ok (.goto 114, 3) := by decide +kernel
theorem dX4_open_55 : decode cX4_open 55 = .ok (.aload_n 0, 1) := by decide +kernel
theorem dX4_open_56 : decode cX4_open 56 = .ok (.getfield 29, 3) := by decide +kernel
theorem dX4_open_59 : decode cX4_open 59 = .ok (.aload_n 3, 1) := by decide +kernel
theorem dX4_open_60 : decode cX4_open 60 = .ok (.invokevirtual 60, 3) := by decide +kernel
theorem dX4_open_63 : decode cX4_open 63 = .ok (.ifCond .eq 19, 3) := by decide +kernel
theorem dX4_open_66 : decode cX4_open 66 = .ok (.aload_n 0, 1) := by decide +kernel
theorem dX4_open_67 : decode cX4_open 67 = .ok (.dup, 1) := by decide +kernel
theorem dX4_open_68 : decode cX4_open 68 = .ok (.getfield 39, 3) := by decide +kernel
theorem dX4_open_71 : decode cX4_open 71 = .ok (.aload_n 3, 1) := by decide +kernel
theorem dX4_open_72 : decode cX4_open 72 = .ok (.getfield 66, 3) := by decide +kernel
theorem dX4_open_75 : decode cX4_open 75 = .ok (.iadd, 1) := by decide +kernel
theorem dX4_open_76 : decode cX4_open 76 = .ok (.putfield 39, 3) := by decide +kernel
theorem dX4_open_79 : decode cX4_open 79 = .ok (.goto 87, 3) := by decide +kernel
theorem dX4_open_82 : decode cX4_open 82 = .ok (.aload_n 0, 1) := by decide +kernel
theorem dX4_open_83 : decode cX4_open 83 = .ok (.getfield 25, 3) := by decide +kernel
theorem dX4_open_86 : decode cX4_open 86 = .ok (.getfield 69, 3) := by decide +kernel
theorem dX4_open_89 : decode cX4_open 89 = .ok (.aload_n 3, 1) := by decide +kernel
theorem dX4_open_90 : decode cX4_open 90 = .ok (.getfield 73, 3) := by decide +kernel
theorem dX4_open_93 : decode cX4_open 93 = .ok (.aaload, 1) := by decide +kernel
theorem dX4_open_94 : decode cX4_open 94 = .ok (.astore 4, 2) := by decide +kernel
theorem dX4_open_96 : decode cX4_open 96 = .ok (.aload_n 0, 1) := by decide +kernel
theorem dX4_open_97 : decode cX4_open 97 = .ok (.getfield 9, 3) := by decide +kernel
theorem dX4_open_100 : decode cX4_open 100 = .ok (.aload_n 0, 1) := by decide +kernel
theorem dX4_open_101 : decode cX4_open 101 = .ok (.getfield 25, 3) := by decide +kernel
theorem dX4_open_104 : decode cX4_open 104 = .ok (.getfield 76, 3) := by decide +kernel
theorem dX4_open_107 : decode cX4_open 107 = .ok (.aload 4, 2) := by decide +kernel
theorem dX4_open_109 : decode cX4_open 109 = .ok (.getfield 80, 3) := by decide +kernel
theorem dX4_open_112 : decode cX4_open 112 = .ok (.aload_n 3, 1) := by decide +kernel
theorem dX4_open_113 : decode cX4_open 113 = .ok (.getfield 84, 3) := by decide +kernel
theorem dX4_open_116 : decode cX4_open 116 = .ok (.iaload, 1) := by decide +kernel
theorem dX4_open_117 : decode cX4_open 117 = .ok (.aaload, 1) := by decide +kernel
theorem dX4_open_118 : decode cX4_open 118 = .ok (.getfield 87, 3) := by decide +kernel
theorem dX4_open_121 : decode cX4_open 121 = .ok (.dup2, 1) := by decide +kernel
theorem dX4_open_122 : decode cX4_open 122 = .ok (.laload, 1) := by decide +kernel
theorem dX4_open_123 : decode cX4_open 123 = .ok (.aload_n 3, 1) := by decide +kernel
theorem dX4_open_124 : decode cX4_open 124 = .ok (.getfield 66, 3) := by decide +kernel
theorem dX4_open_127 : decode cX4_open 127 = .ok (.i2l, 1) := by decide +kernel
theorem dX4_open_128 : decode cX4_open 128 = .ok (.ladd, 1) := by decide +kernel
theorem dX4_open_129 : decode cX4_open 129 = .ok (.lastore, 1) := by decide +kernel
theorem dX4_open_130 : decode cX4_open 130 = .ok (.aload_n 0, 1) := by decide +kernel
theorem dX4_open_131 : decode cX4_open 131 = .ok (.getfield 9, 3) := by decide +kernel
theorem dX4_open_134 : decode cX4_open 134 = .ok (.aload_n 0, 1) := by decide +kernel
theorem dX4_open_135 : decode cX4_open 135 = .ok (.getfield 25, 3) := by decide +kernel
theorem dX4_open_138 : decode cX4_open 138 = .ok (.getfield 76, 3) := by decide +kernel
theorem dX4_open_141 : decode cX4_open 141 = .ok (.aload 4, 2) := by decide +kernel
theorem dX4_open_143 : decode cX4_open 143 = .ok (.getfield 80, 3) := by decide +kernel
theorem dX4_open_146 : decode cX4_open 146 = .ok (.iconst 1, 1) := by decide +kernel
theorem dX4_open_147 : decode cX4_open 147 = .ok (.aload_n 3, 1) := by decide +kernel
theorem dX4_open_148 : decode cX4_open 148 = .ok (.getfield 84, 3) := by decide +kernel
theorem dX4_open_151 : decode cX4_open 151 = .ok (.isub, 1) := by decide +kernel
theorem dX4_open_152 : decode cX4_open 152 = .ok (.iaload, 1) := by decide +kernel
theorem dX4_open_153 : decode cX4_open 153 = .ok (.aaload, 1) := by decide +kernel
theorem dX4_open_154 : decode cX4_open 154 = .ok (.getfield 87, 3) := by decide +kernel
theorem dX4_open_157 : decode cX4_open 157 = .ok (.dup2, 1) := by decide +kernel
theorem dX4_open_158 : decode cX4_open 158 = .ok (.laload, 1) := by decide +kernel
theorem dX4_open_159 : decode cX4_open 159 = .ok (.aload_n 3, 1) := by decide +kernel
theorem dX4_open_160 : decode cX4_open 160 = .ok (.getfield 66, 3) := by decide +kernel
theorem dX4_open_163 : decode cX4_open 163 = .ok (.i2l, 1) := by decide +kernel
theorem dX4_open_164 : decode cX4_open 164 = .ok (.lsub, 1) := by decide +kernel
theorem dX4_open_165 : decode cX4_open 165 = .ok (.lastore, 1) := by decide +kernel
theorem dX4_open_166 : decode cX4_open 166 = .ok (.iinc 2 1, 3) := by decide +kernel
theorem dX4_open_169 : decode cX4_open 169 = .ok (.goto (-154), 3) := by decide +kernel
theorem dX4_open_172 : decode cX4_open 172 = .ok (.return_, 1) := by decide +kernel
theorem dX4_fewest_0 : decode cX4_fewest 0 = .ok (.iconst 0, 1) := by decide +kernel
theorem dX4_fewest_1 : decode cX4_fewest 1 = .ok (.istore_n 1, 1) := by decide +kernel
theorem dX4_fewest_2 : decode cX4_fewest 2 = .ok (.iconst 0, 1) := by decide +kernel
theorem dX4_fewest_3 : decode cX4_fewest 3 = .ok (.istore_n 2, 1) := by decide +kernel
theorem dX4_fewest_4 : decode cX4_fewest 4 = .ok (.iload_n 2, 1) := by decide +kernel
theorem dX4_fewest_5 : decode cX4_fewest 5 = .ok (.bipush 11, 2) := by decide +kernel
theorem dX4_fewest_7 : decode cX4_fewest 7 = .ok (.if_icmp .ge 35, 3) := by decide +kernel
theorem dX4_fewest_10 : decode cX4_fewest 10 = .ok (.aload_n 0, 1) := by decide +kernel
theorem dX4_fewest_11 : decode cX4_fewest 11 = .ok (.getfield 9, 3) := by decide +kernel
theorem dX4_fewest_14 : decode cX4_fewest 14 = .ok (.iload_n 2, 1) := by decide +kernel
theorem dX4_fewest_15 : decode cX4_fewest 15 = .ok (.laload, 1) := by decide +kernel
theorem dX4_fewest_16 : decode cX4_fewest 16 = .ok (.lconst 0, 1) := by decide +kernel
theorem dX4_fewest_17 : decode cX4_fewest 17 = .ok (.lcmp, 1) := by decide +kernel
theorem dX4_fewest_18 : decode cX4_fewest 18 = .ok (.ifCond .eq 18, 3) := by decide +kernel
theorem dX4_fewest_21 : decode cX4_fewest 21 = .ok (.aload_n 0, 1) := by decide +kernel
theorem dX4_fewest_22 : decode cX4_fewest 22 = .ok (.getfield 15, 3) := by decide +kernel
theorem dX4_fewest_25 : decode cX4_fewest 25 = .ok (.iload_n 1, 1) := by decide +kernel
theorem dX4_fewest_26 : decode cX4_fewest 26 = .ok (.aload_n 0, 1) := by decide +kernel
theorem dX4_fewest_27 : decode cX4_fewest 27 = .ok (.getfield 9, 3) := by decide +kernel
theorem dX4_fewest_30 : decode cX4_fewest 30 = .ok (.iload_n 2, 1) := by decide +kernel
theorem dX4_fewest_31 : decode cX4_fewest 31 = .ok (.laload, 1) := by decide +kernel
theorem dX4_fewest_32 : decode cX4_fewest 32 = .ok (.lastore, 1) := by decide +kernel
theorem dX4_fewest_33 : decode cX4_fewest 33 = .ok (.iinc 1 1, 3) := by decide +kernel
theorem dX4_fewest_36 : decode cX4_fewest 36 = .ok (.iinc 2 1, 3) := by decide +kernel
theorem dX4_fewest_39 : decode cX4_fewest 39 = .ok (.goto (-35), 3) := by decide +kernel
theorem dX4_fewest_42 : decode cX4_fewest 42 = .ok (.iconst 1, 1) := by decide +kernel
theorem dX4_fewest_43 : decode cX4_fewest 43 = .ok (.istore_n 2, 1) := by decide +kernel
theorem dX4_fewest_44 : decode cX4_fewest 44 = .ok (.iload_n 2, 1) := by decide +kernel
theorem dX4_fewest_45 : decode cX4_fewest 45 = .ok (.iconst 1, 1) := by decide +kernel
theorem dX4_fewest_46 : decode cX4_fewest 46 = .ok (.iload_n 1, 1) := by decide +kernel
theorem dX4_fewest_47 : decode cX4_fewest 47 = .ok (.ishl, 1) := by decide +kernel
theorem dX4_fewest_48 : decode cX4_fewest 48 = .ok (.if_icmp .ge 101, 3) := by decide +kernel
theorem dX4_fewest_51 : decode cX4_fewest 51 = .ok (.aload_n 0, 1) := by decide +kernel
theorem dX4_fewest_52 : decode cX4_fewest 52 = .ok (.getfield 18, 3) := by decide +kernel
theorem dX4_fewest_55 : decode cX4_fewest 55 = .ok (.iload_n 2, 1) := by decide +kernel
theorem dX4_fewest_56 : decode cX4_fewest 56 = .ok (.aload_n 0, 1) := by decide +kernel
theorem dX4_fewest_57 : decode cX4_fewest 57 = .ok (.getfield 18, 3) := by decide +kernel
theorem dX4_fewest_60 : decode cX4_fewest 60 = .ok (.iload_n 2, 1) := by decide +kernel
theorem dX4_fewest_61 : decode cX4_fewest 61 = .ok (.iload_n 2, 1) := by decide +kernel
theorem dX4_fewest_62 : decode cX4_fewest 62 = .ok (.iconst 1, 1) := by decide +kernel
theorem dX4_fewest_63 : decode cX4_fewest 63 = .ok (.isub, 1) := by decide +kernel
theorem dX4_fewest_64 : decode cX4_fewest 64 = .ok (.iand, 1) := by decide +kernel
theorem dX4_fewest_65 : decode cX4_fewest 65 = .ok (.laload, 1) := by decide +kernel
theorem dX4_fewest_66 : decode cX4_fewest 66 = .ok (.aload_n 0, 1) := by decide +kernel
theorem dX4_fewest_67 : decode cX4_fewest 67 = .ok (.getfield 15, 3) := by decide +kernel
theorem dX4_fewest_70 : decode cX4_fewest 70 = .ok (.iload_n 2, 1) := by decide +kernel
theorem dX4_fewest_71 : decode cX4_fewest 71 = .ok (.invokestatic 92, 3) := by decide +kernel
theorem dX4_fewest_74 : decode cX4_fewest 74 = .ok (.laload, 1) := by decide +kernel
theorem dX4_fewest_75 : decode cX4_fewest 75 = .ok (.ladd, 1) := by decide +kernel
theorem dX4_fewest_76 : decode cX4_fewest 76 = .ok (.lastore, 1) := by decide +kernel
theorem dX4_fewest_77 : decode cX4_fewest 77 = .ok (.iconst 0, 1) := by decide +kernel
theorem dX4_fewest_78 : decode cX4_fewest 78 = .ok (.istore_n 3, 1) := by decide +kernel
theorem dX4_fewest_79 : decode cX4_fewest 79 = .ok (.iconst 0, 1) := by decide +kernel
theorem dX4_fewest_80 : decode cX4_fewest 80 = .ok (.istore 4, 2) := by decide +kernel
theorem dX4_fewest_82 : decode cX4_fewest 82 = .ok (.iload 4, 2) := by decide +kernel
theorem dX4_fewest_84 : decode cX4_fewest 84 = .ok (.iload_n 1, 1) := by decide +kernel
theorem dX4_fewest_85 : decode cX4_fewest 85 = .ok (.if_icmp .ge 34, 3) := by decide +kernel
theorem dX4_fewest_88 : decode cX4_fewest 88 = .ok (.iload_n 2, 1) := by decide +kernel
theorem dX4_fewest_89 : decode cX4_fewest 89 = .ok (.iload 4, 2) := by decide +kernel
theorem dX4_fewest_91 : decode cX4_fewest 91 = .ok (.ishr, 1) := by decide +kernel
theorem dX4_fewest_92 : decode cX4_fewest 92 = .ok (.iconst 1, 1) := by decide +kernel
theorem dX4_fewest_93 : decode cX4_fewest 93 = .ok (.iand, 1) := by decide +kernel
theorem dX4_fewest_94 : decode cX4_fewest 94 = .ok (.ifCond .eq 19, 3) := by decide +kernel
theorem dX4_fewest_97 : decode cX4_fewest 97 = .ok (.iload_n 3, 1) := by decide +kernel
theorem dX4_fewest_98 : decode cX4_fewest 98 = .ok (.aload_n 0, 1) := by decide +kernel
theorem dX4_fewest_99 : decode cX4_fewest 99 = .ok (.getfield 21, 3) := by decide +kernel
theorem dX4_fewest_102 : decode cX4_fewest 102 = .ok (.iload_n 2, 1) := by decide +kernel
theorem dX4_fewest_103 : decode cX4_fewest 103 = .ok (.iconst 1, 1) := by decide +kernel
theorem dX4_fewest_104 : decode cX4_fewest 104 = .ok (.iload 4, 2) := by decide +kernel
theorem dX4_fewest_106 : decode cX4_fewest 106 = .ok (.ishl, 1) := by decide +kernel
theorem dX4_fewest_107 : decode cX4_fewest 107 = .ok (.ixor, 1) := by decide +kernel
theorem dX4_fewest_108 : decode cX4_fewest 108 = .ok (.iaload, 1) := by decide +kernel
theorem dX4_fewest_109 : decode cX4_fewest 109 = .ok (.invokestatic 98, 3) := by decide +kernel
theorem dX4_fewest_112 : decode cX4_fewest 112 = .ok (.istore_n 3, 1) := by decide +kernel
theorem dX4_fewest_113 : decode cX4_fewest 113 = .ok (.iinc 4 1, 3) := by decide +kernel
theorem dX4_fewest_116 : decode cX4_fewest 116 = .ok (.goto (-34), 3) := by decide +kernel
theorem dX4_fewest_119 : decode cX4_fewest 119 = .ok (.aload_n 0, 1) := by decide +kernel
theorem dX4_fewest_120 : decode cX4_fewest 120 = .ok (.getfield 21, 3) := by decide +kernel
theorem dX4_fewest_123 : decode cX4_fewest 123 = .ok (.iload_n 2, 1) := by decide +kernel
theorem dX4_fewest_124 : decode cX4_fewest 124 = .ok (.aload_n 0, 1) := by decide +kernel
theorem dX4_fewest_125 : decode cX4_fewest 125 = .ok (.getfield 18, 3) := by decide +kernel
theorem dX4_fewest_128 : decode cX4_fewest 128 = .ok (.iload_n 2, 1) := by decide +kernel
theorem dX4_fewest_129 : decode cX4_fewest 129 = .ok (.laload, 1) := by decide +kernel
theorem dX4_fewest_130 : decode cX4_fewest 130 = .ok (.lconst 0, 1) := by decide +kernel
theorem dX4_fewest_131 : decode cX4_fewest 131 = .ok (.lcmp, 1) := by decide +kernel
theorem dX4_fewest_132 : decode cX4_fewest 132 = .ok (.ifCond .ne 9, 3) := by decide +kernel
theorem dX4_fewest_135 : decode cX4_fewest 135 = .ok (.iload_n 3, 1) := by decide +kernel
theorem dX4_fewest_136 : decode cX4_fewest 136 = .ok (.iconst 1, 1) := by decide +kernel
theorem dX4_fewest_137 : decode cX4_fewest 137 = .ok (.iadd, 1) := by decide +kernel
theorem dX4_fewest_138 : decode cX4_fewest 138 = .ok (.goto 4, 3) := by decide +kernel
theorem dX4_fewest_141 : decode cX4_fewest 141 = .ok (.iload_n 3, 1) := by decide +kernel
theorem dX4_fewest_142 : decode cX4_fewest 142 = .ok (.iastore, 1) := by decide +kernel
theorem dX4_fewest_143 : decode cX4_fewest 143 = .ok (.iinc 2 1, 3) := by decide +kernel
theorem dX4_fewest_146 : decode cX4_fewest 146 = .ok (.goto (-102), 3) := by decide +kernel
theorem dX4_fewest_149 : decode cX4_fewest 149 = .ok (.iload_n 1, 1) := by decide +kernel
theorem dX4_fewest_150 : decode cX4_fewest 150 = .ok (.aload_n 0, 1) := by decide +kernel
theorem dX4_fewest_151 : decode cX4_fewest 151 = .ok (.getfield 21, 3) := by decide +kernel
theorem dX4_fewest_154 : decode cX4_fewest 154 = .ok (.iconst 1, 1) := by decide +kernel
theorem dX4_fewest_155 : decode cX4_fewest 155 = .ok (.iload_n 1, 1) := by decide +kernel
theorem dX4_fewest_156 : decode cX4_fewest 156 = .ok (.ishl, 1) := by decide +kernel
theorem dX4_fewest_157 : decode cX4_fewest 157 = .ok (.iconst 1, 1) := by decide +kernel
theorem dX4_fewest_158 : decode cX4_fewest 158 = .ok (.isub, 1) := by decide +kernel
theorem dX4_fewest_159 : decode cX4_fewest 159 = .ok (.iaload, 1) := by decide +kernel
theorem dX4_fewest_160 : decode cX4_fewest 160 = .ok (.isub, 1) := by decide +kernel
theorem dX4_fewest_161 : decode cX4_fewest 161 = .ok (.ireturn, 1) := by decide +kernel
theorem dX4_firstWrong_0 : decode cX4_firstWrong 0 = .ok (.iconst 0, 1) := by decide +kernel
theorem dX4_firstWrong_1 : decode cX4_firstWrong 1 = .ok (.istore_n 3, 1) := by decide +kernel
theorem dX4_firstWrong_2 : decode cX4_firstWrong 2 = .ok (.iload_n 3, 1) := by decide +kernel
theorem dX4_firstWrong_3 : decode cX4_firstWrong 3 = .ok (.iload_n 2, 1) := by decide +kernel
theorem dX4_firstWrong_4 : decode cX4_firstWrong 4 = .ok (.if_icmp .ge 88, 3) := by decide +kernel
theorem dX4_firstWrong_7 : decode cX4_firstWrong 7 = .ok (.iload_n 3, 1) := by decide +kernel
theorem dX4_firstWrong_8 : decode cX4_firstWrong 8 = .ok (.aload_n 1, 1) := by decide +kernel
theorem dX4_firstWrong_9 : decode cX4_firstWrong 9 = .ok (.arraylength, 1) := by decide +kernel
theorem dX4_firstWrong_10 : decode cX4_firstWrong 10 = .ok (.if_icmp .ge 82, 3) := by decide +kernel
theorem dX4_firstWrong_13 : decode cX4_firstWrong 13 = .ok (.iload_n 3, 1) := by decide +kernel
theorem dX4_firstWrong_14 : decode cX4_firstWrong 14 = .ok (.iconst 3, 1) := by decide +kernel
theorem dX4_firstWrong_15 : decode cX4_firstWrong 15 = .ok (.irem, 1) := by decide +kernel
theorem dX4_firstWrong_16 : decode cX4_firstWrong 16 = .ok (.iconst 2, 1) := by decide +kernel
theorem dX4_firstWrong_17 : decode cX4_firstWrong 17 = .ok (.if_icmp .ne 7, 3) := by decide +kernel
theorem dX4_firstWrong_20 : decode cX4_firstWrong 20 = .ok (.iconst 1, 1) := by decide +kernel
theorem dX4_firstWrong_21 : decode cX4_firstWrong 21 = .ok (.goto 4, 3) := by decide +kernel
theorem dX4_firstWrong_24 : decode cX4_firstWrong 24 = .ok (.iconst 0, 1) := by decide +kernel
theorem dX4_firstWrong_25 : decode cX4_firstWrong 25 = .ok (.istore 4, 2) := by decide +kernel
theorem dX4_firstWrong_27 : decode cX4_firstWrong 27 = .ok (.iload_n 3, 1) := by decide +kernel
theorem dX4_firstWrong_28 : decode cX4_firstWrong 28 = .ok (.iconst 3, 1) := by decide +kernel
theorem dX4_firstWrong_29 : decode cX4_firstWrong 29 = .ok (.irem, 1) := by decide +kernel
theorem dX4_firstWrong_30 : decode cX4_firstWrong 30 = .ok (.iconst 1, 1) := by decide +kernel
theorem dX4_firstWrong_31 : decode cX4_firstWrong 31 = .ok (.if_icmp .ne 18, 3) := by decide +kernel
theorem dX4_firstWrong_34 : decode cX4_firstWrong 34 = .ok (.aload_n 1, 1) := by decide +kernel
theorem dX4_firstWrong_35 : decode cX4_firstWrong 35 = .ok (.iload_n 3, 1) := by decide +kernel
theorem dX4_firstWrong_36 : decode cX4_firstWrong 36 = .ok (.iaload, 1) := by decide +kernel
theorem dX4_firstWrong_37 : decode cX4_firstWrong 37 = .ok (.aload_n 1, 1) := by decide +kernel
theorem dX4_firstWrong_38 : decode cX4_firstWrong 38 = .ok (.iload_n 3, 1) := by decide +kernel
theorem dX4_firstWrong_39 : decode cX4_firstWrong 39 = .ok (.iconst 1, 1) := by decide +kernel
theorem dX4_firstWrong_40 : decode cX4_firstWrong 40 = .ok (.isub, 1) := by decide +kernel
theorem dX4_firstWrong_41 : decode cX4_firstWrong 41 = .ok (.iaload, 1) := by decide +kernel
theorem dX4_firstWrong_42 : decode cX4_firstWrong 42 = .ok (.if_icmp .ne 7, 3) := by decide +kernel
theorem dX4_firstWrong_45 : decode cX4_firstWrong 45 = .ok (.iconst 1, 1) := by decide +kernel
theorem dX4_firstWrong_46 : decode cX4_firstWrong 46 = .ok (.goto 4, 3) := by decide +kernel
theorem dX4_firstWrong_49 : decode cX4_firstWrong 49 = .ok (.iconst 0, 1) := by decide +kernel
theorem dX4_firstWrong_50 : decode cX4_firstWrong 50 = .ok (.istore 5, 2) := by decide +kernel
theorem dX4_firstWrong_52 : decode cX4_firstWrong 52 = .ok (.iload 4, 2) := by decide +kernel
theorem dX4_firstWrong_54 : decode cX4_firstWrong 54 = .ok (.ifCond .eq 13, 3) := by decide +kernel
theorem dX4_firstWrong_57 : decode cX4_firstWrong 57 = .ok (.aload_n 1, 1) := by decide +kernel
theorem dX4_firstWrong_58 : decode cX4_firstWrong 58 = .ok (.iload_n 3, 1) := by decide +kernel
theorem dX4_firstWrong_59 : decode cX4_firstWrong 59 = .ok (.iaload, 1) := by decide +kernel
theorem dX4_firstWrong_60 : decode cX4_firstWrong 60 = .ok (.iconst 1, 1) := by decide +kernel
theorem dX4_firstWrong_61 : decode cX4_firstWrong 61 = .ok (.if_icmp .ge 25, 3) := by decide +kernel
theorem dX4_firstWrong_64 : decode cX4_firstWrong 64 = .ok (.goto 20, 3) := by decide +kernel
theorem dX4_firstWrong_67 : decode cX4_firstWrong 67 = .ok (.aload_n 1, 1) := by decide +kernel
theorem dX4_firstWrong_68 : decode cX4_firstWrong 68 = .ok (.iload_n 3, 1) := by decide +kernel
theorem dX4_firstWrong_69 : decode cX4_firstWrong 69 = .ok (.iaload, 1) := by decide +kernel
theorem dX4_firstWrong_70 : decode cX4_firstWrong 70 = .ok (.iconst 0, 1) := by decide +kernel
theorem dX4_firstWrong_71 : decode cX4_firstWrong 71 = .ok (.bipush 10, 2) := by decide +kernel
theorem dX4_firstWrong_73 : decode cX4_firstWrong 73 = .ok (.invokestatic 104, 3) := by decide +kernel
theorem dX4_firstWrong_76 : decode cX4_firstWrong 76 = .ok (.ifCond .ne 8, 3) := by decide +kernel
theorem dX4_firstWrong_79 : decode cX4_firstWrong 79 = .ok (.iload 5, 2) := by decide +kernel
theorem dX4_firstWrong_81 : decode cX4_firstWrong 81 = .ok (.ifCond .eq 5, 3) := by decide +kernel
theorem dX4_firstWrong_84 : decode cX4_firstWrong 84 = .ok (.iload_n 3, 1) := by decide +kernel
theorem dX4_firstWrong_85 : decode cX4_firstWrong 85 = .ok (.ireturn, 1) := by decide +kernel
theorem dX4_firstWrong_86 : decode cX4_firstWrong 86 = .ok (.iinc 3 1, 3) := by decide +kernel
theorem dX4_firstWrong_89 : decode cX4_firstWrong 89 = .ok (.goto (-87), 3) := by decide +kernel
theorem dX4_firstWrong_92 : decode cX4_firstWrong 92 = .ok (.iload_n 2, 1) := by decide +kernel
theorem dX4_firstWrong_93 : decode cX4_firstWrong 93 = .ok (.iconst 3, 1) := by decide +kernel
theorem dX4_firstWrong_94 : decode cX4_firstWrong 94 = .ok (.irem, 1) := by decide +kernel
theorem dX4_firstWrong_95 : decode cX4_firstWrong 95 = .ok (.ifCond .ne 7, 3) := by decide +kernel
theorem dX4_firstWrong_98 : decode cX4_firstWrong 98 = .ok (.iconst (-1), 1) := by decide +kernel
theorem dX4_firstWrong_99 : decode cX4_firstWrong 99 = .ok (.goto 4, 3) := by decide +kernel
theorem dX4_firstWrong_102 : decode cX4_firstWrong 102 = .ok (.iload_n 2, 1) := by decide +kernel
theorem dX4_firstWrong_103 : decode cX4_firstWrong 103 = .ok (.ireturn, 1) := by decide +kernel
theorem dX4_pay_0 : decode cX4_pay 0 = .ok (.iconst 0, 1) := by decide +kernel
theorem dX4_pay_1 : decode cX4_pay 1 = .ok (.istore_n 3, 1) := by decide +kernel
theorem dX4_pay_2 : decode cX4_pay 2 = .ok (.iload_n 3, 1) := by decide +kernel
theorem dX4_pay_3 : decode cX4_pay 3 = .ok (.iconst 2, 1) := by decide +kernel
theorem dX4_pay_4 : decode cX4_pay 4 = .ok (.iadd, 1) := by decide +kernel
theorem dX4_pay_5 : decode cX4_pay 5 = .ok (.iload_n 2, 1) := by decide +kernel
theorem dX4_pay_6 : decode cX4_pay 6 = .ok (.if_icmp .ge 79, 3) := by decide +kernel
theorem dX4_pay_9 : decode cX4_pay 9 = .ok (.iload_n 3, 1) := by decide +kernel
theorem dX4_pay_10 : decode cX4_pay 10 = .ok (.iconst 2, 1) := by decide +kernel
theorem dX4_pay_11 : decode cX4_pay 11 = .ok (.iadd, 1) := by decide +kernel
theorem dX4_pay_12 : decode cX4_pay 12 = .ok (.aload_n 1, 1) := by decide +kernel
theorem dX4_pay_13 : decode cX4_pay 13 = .ok (.arraylength, 1) := by decide +kernel
theorem dX4_pay_14 : decode cX4_pay 14 = .ok (.if_icmp .ge 71, 3) := by decide +kernel
theorem dX4_pay_17 : decode cX4_pay 17 = .ok (.aload_n 1, 1) := by decide +kernel
theorem dX4_pay_18 : decode cX4_pay 18 = .ok (.iload_n 3, 1) := by decide +kernel
theorem dX4_pay_19 : decode cX4_pay 19 = .ok (.iaload, 1) := by decide +kernel
theorem dX4_pay_20 : decode cX4_pay 20 = .ok (.iconst 0, 1) := by decide +kernel
theorem dX4_pay_21 : decode cX4_pay 21 = .ok (.bipush 10, 2) := by decide +kernel
theorem dX4_pay_23 : decode cX4_pay 23 = .ok (.invokestatic 104, 3) := by decide +kernel
theorem dX4_pay_26 : decode cX4_pay 26 = .ok (.ifCond .ne 53, 3) := by decide +kernel
theorem dX4_pay_29 : decode cX4_pay 29 = .ok (.aload_n 1, 1) := by decide +kernel
theorem dX4_pay_30 : decode cX4_pay 30 = .ok (.iload_n 3, 1) := by decide +kernel
theorem dX4_pay_31 : decode cX4_pay 31 = .ok (.iconst 1, 1) := by decide +kernel
theorem dX4_pay_32 : decode cX4_pay 32 = .ok (.iadd, 1) := by decide +kernel
theorem dX4_pay_33 : decode cX4_pay 33 = .ok (.iaload, 1) := by decide +kernel
theorem dX4_pay_34 : decode cX4_pay 34 = .ok (.iconst 0, 1) := by decide +kernel
theorem dX4_pay_35 : decode cX4_pay 35 = .ok (.bipush 10, 2) := by decide +kernel
theorem dX4_pay_37 : decode cX4_pay 37 = .ok (.invokestatic 104, 3) := by decide +kernel
theorem dX4_pay_40 : decode cX4_pay 40 = .ok (.ifCond .ne 39, 3) := by decide +kernel
theorem dX4_pay_43 : decode cX4_pay 43 = .ok (.aload_n 0, 1) := by decide +kernel
theorem dX4_pay_44 : decode cX4_pay 44 = .ok (.getfield 9, 3) := by decide +kernel
theorem dX4_pay_47 : decode cX4_pay 47 = .ok (.aload_n 1, 1) := by decide +kernel
theorem dX4_pay_48 : decode cX4_pay 48 = .ok (.iload_n 3, 1) := by decide +kernel
theorem dX4_pay_49 : decode cX4_pay 49 = .ok (.iaload, 1) := by decide +kernel
theorem dX4_pay_50 : decode cX4_pay 50 = .ok (.dup2, 1) := by decide +kernel
theorem dX4_pay_51 : decode cX4_pay 51 = .ok (.laload, 1) := by decide +kernel
theorem dX4_pay_52 : decode cX4_pay 52 = .ok (.aload_n 1, 1) := by decide +kernel
theorem dX4_pay_53 : decode cX4_pay 53 = .ok (.iload_n 3, 1) := by decide +kernel
theorem dX4_pay_54 : decode cX4_pay 54 = .ok (.iconst 2, 1) := by decide +kernel
theorem dX4_pay_55 : decode cX4_pay 55 = .ok (.iadd, 1) := by decide +kernel
theorem dX4_pay_56 : decode cX4_pay 56 = .ok (.iaload, 1) := by decide +kernel
theorem dX4_pay_57 : decode cX4_pay 57 = .ok (.i2l, 1) := by decide +kernel
theorem dX4_pay_58 : decode cX4_pay 58 = .ok (.ladd, 1) := by decide +kernel
theorem dX4_pay_59 : decode cX4_pay 59 = .ok (.lastore, 1) := by decide +kernel
theorem dX4_pay_60 : decode cX4_pay 60 = .ok (.aload_n 0, 1) := by decide +kernel
theorem dX4_pay_61 : decode cX4_pay 61 = .ok (.getfield 9, 3) := by decide +kernel
theorem dX4_pay_64 : decode cX4_pay 64 = .ok (.aload_n 1, 1) := by decide +kernel
theorem dX4_pay_65 : decode cX4_pay 65 = .ok (.iload_n 3, 1) := by decide +kernel
theorem dX4_pay_66 : decode cX4_pay 66 = .ok (.iconst 1, 1) := by decide +kernel
theorem dX4_pay_67 : decode cX4_pay 67 = .ok (.iadd, 1) := by decide +kernel
theorem dX4_pay_68 : decode cX4_pay 68 = .ok (.iaload, 1) := by decide +kernel
theorem dX4_pay_69 : decode cX4_pay 69 = .ok (.dup2, 1) := by decide +kernel
theorem dX4_pay_70 : decode cX4_pay 70 = .ok (.laload, 1) := by decide +kernel
theorem dX4_pay_71 : decode cX4_pay 71 = .ok (.aload_n 1, 1) := by decide +kernel
theorem dX4_pay_72 : decode cX4_pay 72 = .ok (.iload_n 3, 1) := by decide +kernel
theorem dX4_pay_73 : decode cX4_pay 73 = .ok (.iconst 2, 1) := by decide +kernel
theorem dX4_pay_74 : decode cX4_pay 74 = .ok (.iadd, 1) := by decide +kernel
theorem dX4_pay_75 : decode cX4_pay 75 = .ok (.iaload, 1) := by decide +kernel
theorem dX4_pay_76 : decode cX4_pay 76 = .ok (.i2l, 1) := by decide +kernel
theorem dX4_pay_77 : decode cX4_pay 77 = .ok (.lsub, 1) := by decide +kernel
theorem dX4_pay_78 : decode cX4_pay 78 = .ok (.lastore, 1) := by decide +kernel
theorem dX4_pay_79 : decode cX4_pay 79 = .ok (.iinc 3 3, 3) := by decide +kernel
theorem dX4_pay_82 : decode cX4_pay 82 = .ok (.goto (-80), 3) := by decide +kernel
theorem dX4_pay_85 : decode cX4_pay 85 = .ok (.return_, 1) := by decide +kernel
theorem dX4_settled_0 : decode cX4_settled 0 = .ok (.iconst 0, 1) := by decide +kernel
theorem dX4_settled_1 : decode cX4_settled 1 = .ok (.istore_n 1, 1) := by decide +kernel
theorem dX4_settled_2 : decode cX4_settled 2 = .ok (.iload_n 1, 1) := by decide +kernel
theorem dX4_settled_3 : decode cX4_settled 3 = .ok (.bipush 11, 2) := by decide +kernel
theorem dX4_settled_5 : decode cX4_settled 5 = .ok (.if_icmp .ge 22, 3) := by decide +kernel
theorem dX4_settled_8 : decode cX4_settled 8 = .ok (.aload_n 0, 1) := by decide +kernel
theorem dX4_settled_9 : decode cX4_settled 9 = .ok (.getfield 9, 3) := by decide +kernel
theorem dX4_settled_12 : decode cX4_settled 12 = .ok (.iload_n 1, 1) := by decide +kernel
theorem dX4_settled_13 : decode cX4_settled 13 = .ok (.laload, 1) := by decide +kernel
theorem dX4_settled_14 : decode cX4_settled 14 = .ok (.lconst 0, 1) := by decide +kernel
theorem dX4_settled_15 : decode cX4_settled 15 = .ok (.lcmp, 1) := by decide +kernel
theorem dX4_settled_16 : decode cX4_settled 16 = .ok (.ifCond .eq 5, 3) := by decide +kernel
theorem dX4_settled_19 : decode cX4_settled 19 = .ok (.iconst 0, 1) := by decide +kernel
theorem dX4_settled_20 : decode cX4_settled 20 = .ok (.ireturn, 1) := by decide +kernel
theorem dX4_settled_21 : decode cX4_settled 21 = .ok (.iinc 1 1, 3) := by decide +kernel
theorem dX4_settled_24 : decode cX4_settled 24 = .ok (.goto (-22), 3) := by decide +kernel
theorem dX4_settled_27 : decode cX4_settled 27 = .ok (.iconst 1, 1) := by decide +kernel
theorem dX4_settled_28 : decode cX4_settled 28 = .ok (.ireturn, 1) := by decide +kernel
theorem dX5_init_0 : decode cX5_init 0 = .ok (.aload_n 0, 1) := by decide +kernel
theorem dX5_init_1 : decode cX5_init 1 = .ok (.invokespecial 3, 3) := by decide +kernel
theorem dX5_init_4 : decode cX5_init 4 = .ok (.return_, 1) := by decide +kernel
theorem dX5_read_0 : decode cX5_read 0 = .ok (.aload_n 0, 1) := by decide +kernel
theorem dX5_read_1 : decode cX5_read 1 = .ok (.aload_n 1, 1) := by decide +kernel
theorem dX5_read_2 : decode cX5_read 2 = .ok (.putfield 9, 3) := by decide +kernel
theorem dX5_read_5 : decode cX5_read 5 = .ok (.aload_n 0, 1) := by decide +kernel
theorem dX5_read_6 : decode cX5_read 6 = .ok (.iload_n 2, 1) := by decide +kernel
theorem dX5_read_7 : decode cX5_read 7 = .ok (.aload_n 1, 1) := by decide +kernel
theorem dX5_read_8 : decode cX5_read 8 = .ok (.arraylength, 1) := by decide +kernel
theorem dX5_read_9 : decode cX5_read 9 = .ok (.invokestatic 15, 3) := by decide +kernel
theorem dX5_read_12 : decode cX5_read 12 = .ok (.putfield 21, 3) := by decide +kernel
theorem dX5_read_15 : decode cX5_read 15 = .ok (.aload_n 0, 1) := by decide +kernel
theorem dX5_read_16 : decode cX5_read 16 = .ok (.aload_n 3, 1) := by decide +kernel
theorem dX5_read_17 : decode cX5_read 17 = .ok (.putfield 25, 3) := by decide +kernel
theorem dX5_read_20 : decode cX5_read 20 = .ok (.aload_n 0, 1) := by decide +kernel
theorem dX5_read_21 : decode cX5_read 21 = .ok (.iconst 0, 1) := by decide +kernel
theorem dX5_read_22 : decode cX5_read 22 = .ok (.putfield 29, 3) := by decide +kernel
theorem dX5_read_25 : decode cX5_read 25 = .ok (.aload_n 0, 1) := by decide +kernel
theorem dX5_read_26 : decode cX5_read 26 = .ok (.iconst (-1), 1) := by decide +kernel
theorem dX5_read_27 : decode cX5_read 27 = .ok (.putfield 32, 3) := by decide +kernel
theorem dX5_read_30 : decode cX5_read 30 = .ok (.aload_n 0, 1) := by decide +kernel
theorem dX5_read_31 : decode cX5_read 31 = .ok (.invokevirtual 35, 3) := by decide +kernel
theorem dX5_read_34 : decode cX5_read 34 = .ok (.aload_n 0, 1) := by decide +kernel
theorem dX5_read_35 : decode cX5_read 35 = .ok (.iconst 0, 1) := by decide +kernel
theorem dX5_read_36 : decode cX5_read 36 = .ok (.iconst 0, 1) := by decide +kernel
theorem dX5_read_37 : decode cX5_read 37 = .ok (.invokevirtual 38, 3) := by decide +kernel
theorem dX5_read_40 : decode cX5_read 40 = .ok (.aload_n 0, 1) := by decide +kernel
theorem dX5_read_41 : decode cX5_read 41 = .ok (.getfield 42, 3) := by decide +kernel
theorem dX5_read_44 : decode cX5_read 44 = .ok (.iconst (-1), 1) := by decide +kernel
theorem dX5_read_45 : decode cX5_read 45 = .ok (.if_icmp .eq 7, 3) := by decide +kernel
theorem dX5_read_48 : decode cX5_read 48 = .ok (.aload_n 0, 1) := by decide +kernel
theorem dX5_read_49 : decode cX5_read 49 = .ok (.invokevirtual 45, 3) := by decide +kernel
theorem dX5_read_52 : decode cX5_read 52 = .ok (.aload_n 0, 1) := by decide +kernel
theorem dX5_read_53 : decode cX5_read 53 = .ok (.getfield 32, 3) := by decide +kernel
theorem dX5_read_56 : decode cX5_read 56 = .ok (.ireturn, 1) := by decide +kernel
theorem dX5_fail_0 : decode cX5_fail 0 = .ok (.aload_n 0, 1) := by decide +kernel
theorem dX5_fail_1 : decode cX5_fail 1 = .ok (.getfield 32, 3) := by decide +kernel
theorem dX5_fail_4 : decode cX5_fail 4 = .ok (.ifCond .ge 11, 3) := by decide +kernel
theorem dX5_fail_7 : decode cX5_fail 7 = .ok (.aload_n 0, 1) := by decide +kernel
theorem dX5_fail_8 : decode cX5_fail 8 = .ok (.aload_n 0, 1) := by decide +kernel
theorem dX5_fail_9 : decode cX5_fail 9 = .ok (.getfield 48, 3) := by decide +kernel
theorem dX5_fail_12 : decode cX5_fail 12 = .ok (.putfield 32, 3) := by decide +kernel
theorem dX5_fail_15 : decode cX5_fail 15 = .ok (.return_, 1) := by decide +kernel
theorem dX5_step_0 : decode cX5_step 0 = .ok (.aload_n 0, 1) := by decide +kernel
theorem dX5_step_1 : decode cX5_step 1 = .ok (.aload_n 0, 1) := by decide +kernel
theorem dX5_step_2 : decode cX5_step 2 = .ok (.getfield 29, 3) := by decide +kernel
theorem dX5_step_5 : decode cX5_step 5 = .ok (.putfield 48, 3) := by decide +kernel
theorem dX5_step_8 : decode cX5_step 8 = .ok (.aload_n 0, 1) := by decide +kernel
theorem dX5_step_9 : decode cX5_step 9 = .ok (.getfield 48, 3) := by decide +kernel
theorem dX5_step_12 : decode cX5_step 12 = .ok (.aload_n 0, 1) := by decide +kernel
theorem dX5_step_13 : decode cX5_step 13 = .ok (.getfield 21, 3) := by decide +kernel
theorem dX5_step_16 : decode cX5_step 16 = .ok (.if_icmp .ge 30, 3) := by decide +kernel
theorem dX5_step_19 : decode cX5_step 19 = .ok (.aload_n 0, 1) := by decide +kernel
theorem dX5_step_20 : decode cX5_step 20 = .ok (.getfield 9, 3) := by decide +kernel
theorem dX5_step_23 : decode cX5_step 23 = .ok (.aload_n 0, 1) := by decide +kernel
theorem dX5_step_24 : decode cX5_step 24 = .ok (.getfield 48, 3) := by decide +kernel
theorem dX5_step_27 : decode cX5_step 27 = .ok (.iaload, 1) := by decide +kernel
theorem dX5_step_28 : decode cX5_step 28 = .ok (.bipush 32, 2) := by decide +kernel
theorem dX5_step_30 : decode cX5_step 30 = .ok (.if_icmp .ne 16, 3) := by decide +kernel
theorem dX5_step_33 : decode cX5_step 33 = .ok (.aload_n 0, 1) := by decide +kernel
theorem dX5_step_34 : decode cX5_step 34 = .ok (.dup, 1) := by decide +kernel
theorem dX5_step_35 : decode cX5_step 35 = .ok (.getfield 48, 3) := by decide +kernel
theorem dX5_step_38 : decode cX5_step 38 = .ok (.iconst 1, 1) := by decide +kernel
theorem dX5_step_39 : decode cX5_step 39 = .ok (.iadd, 1) := by decide +kernel
theorem dX5_step_40 : decode cX5_step 40 = .ok (.putfield 48, 3) := by decide +kernel
theorem dX5_step_43 : decode cX5_step 43 = .ok (.goto (-35), 3) := by decide +kernel
theorem dX5_step_46 : decode cX5_step 46 = .ok (.aload_n 0, 1) := by decide +kernel
theorem dX5_step_47 : decode cX5_step 47 = .ok (.aload_n 0, 1) := by decide +kernel
theorem dX5_step_48 : decode cX5_step 48 = .ok (.getfield 48, 3) := by decide +kernel
theorem dX5_step_51 : decode cX5_step 51 = .ok (.putfield 29, 3) := by decide +kernel
theorem dX5_step_54 : decode cX5_step 54 = .ok (.aload_n 0, 1) := by decide +kernel
theorem dX5_step_55 : decode cX5_step 55 = .ok (.getfield 48, 3) := by decide +kernel
theorem dX5_step_58 : decode cX5_step 58 = .ok (.aload_n 0, 1) := by decide +kernel
theorem dX5_step_59 : decode cX5_step 59 = .ok (.getfield 21, 3) := by decide +kernel
theorem dX5_step_62 : decode cX5_step 62 = .ok (.if_icmp .lt 11, 3) := by decide +kernel
theorem dX5_step_65 : decode cX5_step 65 = .ok (.aload_n 0, 1) := by decide +kernel
theorem dX5_step_66 : decode cX5_step 66 = .ok (.iconst (-1), 1) := by decide +kernel
theorem dX5_step_67 : decode cX5_step 67 = .ok (.putfield 42, 3) := by decide +kernel
theorem dX5_step_70 : decode cX5_step 70 = .ok (.goto 146, 3) := by decide +kernel
theorem dX5_step_73 : decode cX5_step 73 = .ok (.aload_n 0, 1) := by decide +kernel
theorem dX5_step_74 : decode cX5_step 74 = .ok (.getfield 9, 3) := by decide +kernel
theorem dX5_step_77 : decode cX5_step 77 = .ok (.aload_n 0, 1) := by decide +kernel
theorem dX5_step_78 : decode cX5_step 78 = .ok (.getfield 48, 3) := by decide +kernel
theorem dX5_step_81 : decode cX5_step 81 = .ok (.iaload, 1) := by decide +kernel
theorem dX5_step_82 : decode cX5_step 82 = .ok (.invokestatic 51, 3) := by decide +kernel
theorem dX5_step_85 : decode cX5_step 85 = .ok (.ifCond .eq 48, 3) := by decide +kernel
theorem dX5_step_88 : decode cX5_step 88 = .ok (.aload_n 0, 1) := by decide +kernel
theorem dX5_step_89 : decode cX5_step 89 = .ok (.bipush (-2), 2) := by decide +kernel
theorem dX5_step_91 : decode cX5_step 91 = .ok (.putfield 42, 3) := by decide +kernel
theorem dX5_step_94 : decode cX5_step 94 = .ok (.aload_n 0, 1) := by decide +kernel
theorem dX5_step_95 : decode cX5_step 95 = .ok (.getfield 29, 3) := by decide +kernel
theorem dX5_step_98 : decode cX5_step 98 = .ok (.aload_n 0, 1) := by decide +kernel
theorem dX5_step_99 : decode cX5_step 99 = .ok (.getfield 21, 3) := by decide +kernel
theorem dX5_step_102 : decode cX5_step 102 = .ok (.if_icmp .ge 114, 3) := by decide +kernel
theorem dX5_step_105 : decode cX5_step 105 = .ok (.aload_n 0, 1) := by decide +kernel
theorem dX5_step_106 : decode cX5_step 106 = .ok (.getfield 9, 3) := by decide +kernel
theorem dX5_step_109 : decode cX5_step 109 = .ok (.aload_n 0, 1) := by decide +kernel
theorem dX5_step_110 : decode cX5_step 110 = .ok (.getfield 29, 3) := by decide +kernel
theorem dX5_step_113 : decode cX5_step 113 = .ok (.iaload, 1) := by decide +kernel
theorem dX5_step_114 : decode cX5_step 114 = .ok (.invokestatic 51, 3) := by decide +kernel
theorem dX5_step_117 : decode cX5_step 117 = .ok (.ifCond .eq 99, 3) := by decide +kernel
theorem dX5_step_120 : decode cX5_step 120 = .ok (.aload_n 0, 1) := by decide +kernel
theorem dX5_step_121 : decode cX5_step 121 = .ok (.dup, 1) := by decide +kernel
theorem dX5_step_122 : decode cX5_step 122 = .ok (.getfield 29, 3) := by decide +kernel
theorem dX5_step_125 : decode cX5_step 125 = .ok (.iconst 1, 1) := by decide +kernel
theorem dX5_step_126 : decode cX5_step 126 = .ok (.iadd, 1) := by decide +kernel
theorem dX5_step_127 : decode cX5_step 127 = .ok (.putfield 29, 3) := by decide +kernel
theorem dX5_step_130 : decode cX5_step 130 = .ok (.goto (-36), 3) := by decide +kernel
theorem dX5_step_133 : decode cX5_step 133 = .ok (.aload_n 0, 1) := by decide +kernel
theorem dX5_step_134 : decode cX5_step 134 = .ok (.getfield 9, 3) := by decide +kernel
theorem dX5_step_137 : decode cX5_step 137 = .ok (.aload_n 0, 1) := by decide +kernel
theorem dX5_step_138 : decode cX5_step 138 = .ok (.getfield 48, 3) := by decide +kernel
theorem dX5_step_141 : decode cX5_step 141 = .ok (.iaload, 1) := by decide +kernel
theorem dX5_step_142 : decode cX5_step 142 = .ok (.invokestatic 55, 3) := by decide +kernel
theorem dX5_step_145 : decode cX5_step 145 = .ok (.ifCond .eq 48, 3) := by decide +kernel
theorem dX5_step_148 : decode cX5_step 148 = .ok (.aload_n 0, 1) := by decide +kernel
theorem dX5_step_149 : decode cX5_step 149 = .ok (.bipush (-3), 2) := by decide +kernel
theorem dX5_step_151 : decode cX5_step 151 = .ok (.putfield 42, 3) := by decide +kernel
theorem dX5_step_154 : decode cX5_step 154 = .ok (.aload_n 0, 1) := by decide +kernel
theorem dX5_step_155 : decode cX5_step 155 = .ok (.getfield 29, 3) := by decide +kernel
theorem dX5_step_158 : decode cX5_step 158 = .ok (.aload_n 0, 1) := by decide +kernel
theorem dX5_step_159 : decode cX5_step 159 = .ok (.getfield 21, 3) := by decide +kernel
theorem dX5_step_162 : decode cX5_step 162 = .ok (.if_icmp .ge 54, 3) := by decide +kernel
theorem dX5_step_165 : decode cX5_step 165 = .ok (.aload_n 0, 1) := by decide +kernel
theorem dX5_step_166 : decode cX5_step 166 = .ok (.getfield 9, 3) := by decide +kernel
theorem dX5_step_169 : decode cX5_step 169 = .ok (.aload_n 0, 1) := by decide +kernel
theorem dX5_step_170 : decode cX5_step 170 = .ok (.getfield 29, 3) := by decide +kernel
theorem dX5_step_173 : decode cX5_step 173 = .ok (.iaload, 1) := by decide +kernel
theorem dX5_step_174 : decode cX5_step 174 = .ok (.invokestatic 55, 3) := by decide +kernel
theorem dX5_step_177 : decode cX5_step 177 = .ok (.ifCond .eq 39, 3) := by decide +kernel
theorem dX5_step_180 : decode cX5_step 180 = .ok (.aload_n 0, 1) := by decide +kernel
theorem dX5_step_181 : decode cX5_step 181 = .ok (.dup, 1) := by decide +kernel
theorem dX5_step_182 : decode cX5_step 182 = .ok (.getfield 29, 3) := by decide +kernel
theorem dX5_step_185 : decode cX5_step 185 = .ok (.iconst 1, 1) := by decide +kernel
theorem dX5_step_186 : decode cX5_step 186 = .ok (.iadd, 1) := by decide +kernel
theorem dX5_step_187 : decode cX5_step 187 = .ok (.putfield 29, 3) := by decide +kernel
theorem dX5_step_190 : decode cX5_step 190 = .ok (.goto (-36), 3) := by decide +kernel
theorem dX5_step_193 : decode cX5_step 193 = .ok (.aload_n 0, 1) := by decide +kernel
theorem dX5_step_194 : decode cX5_step 194 = .ok (.aload_n 0, 1) := by decide +kernel
theorem dX5_step_195 : decode cX5_step 195 = .ok (.getfield 9, 3) := by decide +kernel
theorem dX5_step_198 : decode cX5_step 198 = .ok (.aload_n 0, 1) := by decide +kernel
theorem dX5_step_199 : decode cX5_step 199 = .ok (.getfield 48, 3) := by decide +kernel
theorem dX5_step_202 : decode cX5_step 202 = .ok (.iaload, 1) := by decide +kernel
theorem dX5_step_203 : decode cX5_step 203 = .ok (.putfield 42, 3) := by decide +kernel
theorem dX5_step_206 : decode cX5_step 206 = .ok (.aload_n 0, 1) := by decide +kernel
theorem dX5_step_207 : decode cX5_step 207 = .ok (.aload_n 0, 1) := by decide +kernel
theorem dX5_step_208 : decode cX5_step 208 = .ok (.getfield 48, 3) := by decide +kernel
theorem dX5_step_211 : decode cX5_step 211 = .ok (.iconst 1, 1) := by decide +kernel
theorem dX5_step_212 : decode cX5_step 212 = .ok (.iadd, 1) := by decide +kernel
theorem dX5_step_213 : decode cX5_step 213 = .ok (.putfield 29, 3) := by decide +kernel
theorem dX5_step_216 : decode cX5_step 216 = .ok (.return_, 1) := by decide +kernel
theorem dX5_isDigit_0 : decode cX5_isDigit 0 = .ok (.iload_n 0, 1) := by decide +kernel
theorem dX5_isDigit_1 : decode cX5_isDigit 1 = .ok (.bipush 48, 2) := by decide +kernel
theorem dX5_isDigit_3 : decode cX5_isDigit 3 = .ok (.if_icmp .lt 13, 3) := by decide +kernel
theorem dX5_isDigit_6 : decode cX5_isDigit 6 = .ok (.iload_n 0, 1) := by decide +kernel
theorem dX5_isDigit_7 : decode cX5_isDigit 7 = .ok (.bipush 57, 2) := by decide +kernel
theorem dX5_isDigit_9 : decode cX5_isDigit 9 = .ok (.if_icmp .gt 7, 3) := by decide +kernel
theorem dX5_isDigit_12 : decode cX5_isDigit 12 = .ok (.iconst 1, 1) := by decide +kernel
theorem dX5_isDigit_13 : decode cX5_isDigit 13 = .ok (.goto 4, 3) := by decide +kernel
theorem dX5_isDigit_16 : decode cX5_isDigit 16 = .ok (.iconst 0, 1) := by decide +kernel
theorem dX5_isDigit_17 : decode cX5_isDigit 17 = .ok (.ireturn, 1) := by decide +kernel
theorem dX5_isLetter_0 : decode cX5_isLetter 0 = .ok (.iload_n 0, 1) := by decide +kernel
theorem dX5_isLetter_1 : decode cX5_isLetter 1 = .ok (.bipush 97, 2) := by decide +kernel
theorem dX5_isLetter_3 : decode cX5_isLetter 3 = .ok (.if_icmp .lt 13, 3) := by decide +kernel
theorem dX5_isLetter_6 : decode cX5_isLetter 6 = .ok (.iload_n 0, 1) := by decide +kernel
theorem dX5_isLetter_7 : decode cX5_isLetter 7 = .ok (.bipush 122, 2) := by decide +kernel
theorem dX5_isLetter_9 : decode cX5_isLetter 9 = .ok (.if_icmp .gt 7, 3) := by decide +kernel
theorem dX5_isLetter_12 : decode cX5_isLetter 12 = .ok (.iconst 1, 1) := by decide +kernel
theorem dX5_isLetter_13 : decode cX5_isLetter 13 = .ok (.goto 4, 3) := by decide +kernel
theorem dX5_isLetter_16 : decode cX5_isLetter 16 = .ok (.iconst 0, 1) := by decide +kernel
theorem dX5_isLetter_17 : decode cX5_isLetter 17 = .ok (.ireturn, 1) := by decide +kernel
theorem dX5_levelOf_0 : decode cX5_levelOf 0 = .ok (.iload_n 0, 1) := by decide +kernel
theorem dX5_levelOf_1 : decode cX5_levelOf 1 = .ok (.lookupswitch 93 #[(38, 85), (42, 91), (43, 89), (45, 89), (47, 91), (60, 87), (61, 87), (62, 87), (124, 83)], 83) := by decide +kernel
theorem dX5_levelOf_84 : decode cX5_levelOf 84 = .ok (.iconst 0, 1) := by decide +kernel
theorem dX5_levelOf_85 : decode cX5_levelOf 85 = .ok (.ireturn, 1) := by decide +kernel
theorem dX5_levelOf_86 : decode cX5_levelOf 86 = .ok (.iconst 1, 1) := by decide +kernel
theorem dX5_levelOf_87 : decode cX5_levelOf 87 = .ok (.ireturn, 1) := by decide +kernel
theorem dX5_levelOf_88 : decode cX5_levelOf 88 = .ok (.iconst 2, 1) := by decide +kernel
theorem dX5_levelOf_89 : decode cX5_levelOf 89 = .ok (.ireturn, 1) := by decide +kernel
theorem dX5_levelOf_90 : decode cX5_levelOf 90 = .ok (.iconst 3, 1) := by decide +kernel
theorem dX5_levelOf_91 : decode cX5_levelOf 91 = .ok (.ireturn, 1) := by decide +kernel
theorem dX5_levelOf_92 : decode cX5_levelOf 92 = .ok (.iconst 4, 1) := by decide +kernel
theorem dX5_levelOf_93 : decode cX5_levelOf 93 = .ok (.ireturn, 1) := by decide +kernel
theorem dX5_levelOf_94 : decode cX5_levelOf 94 = .ok (.iconst (-1), 1) := by decide +kernel
theorem dX5_levelOf_95 : decode cX5_levelOf 95 = .ok (.ireturn, 1) := by decide +kernel
theorem dX5_level_0 : decode cX5_level 0 = .ok (.aload_n 0, 1) := by decide +kernel
theorem dX5_level_1 : decode cX5_level 1 = .ok (.getfield 32, 3) := by decide +kernel
theorem dX5_level_4 : decode cX5_level 4 = .ok (.ifCond .lt 4, 3) := by decide +kernel
theorem dX5_level_7 : decode cX5_level 7 = .ok (.return_, 1) := by decide +kernel
theorem dX5_level_8 : decode cX5_level 8 = .ok (.iload_n 1, 1) := by decide +kernel
theorem dX5_level_9 : decode cX5_level 9 = .ok (.iconst 5, 1) := by decide +kernel
theorem dX5_level_10 : decode cX5_level 10 = .ok (.if_icmp .lt 9, 3) := by decide +kernel
theorem dX5_level_13 : decode cX5_level 13 = .ok (.aload_n 0, 1) := by decide +kernel
theorem dX5_level_14 : decode cX5_level 14 = .ok (.iload_n 2, 1) := by decide +kernel
theorem dX5_level_15 : decode cX5_level 15 = .ok (.invokevirtual 58, 3) := by decide +kernel
theorem dX5_level_18 : decode cX5_level 18 = .ok (.return_, 1) := by decide +kernel
theorem dX5_level_19 : decode cX5_level 19 = .ok (.aload_n 0, 1) := by decide +kernel
theorem dX5_level_20 : decode cX5_level 20 = .ok (.iload_n 1, 1) := by decide +kernel
theorem dX5_level_21 : decode cX5_level 21 = .ok (.iconst 1, 1) := by decide +kernel
theorem dX5_level_22 : decode cX5_level 22 = .ok (.iadd, 1) := by decide +kernel
theorem dX5_level_23 : decode cX5_level 23 = .ok (.iload_n 2, 1) := by decide +kernel
theorem dX5_level_24 : decode cX5_level 24 = .ok (.invokevirtual 38, 3) := by decide +kernel
theorem dX5_level_27 : decode cX5_level 27 = .ok (.iload_n 1, 1) := by decide +kernel
theorem dX5_level_28 : decode cX5_level 28 = .ok (.iconst 2, 1) := by decide +kernel
theorem dX5_level_29 : decode cX5_level 29 = .ok (.if_icmp .ne 7, 3) := by decide +kernel
theorem dX5_level_32 : decode cX5_level 32 = .ok (.iconst 1, 1) := by decide +kernel
theorem dX5_level_33 : decode cX5_level 33 = .ok (.goto 5, 3) := by decide +kernel
theorem dX5_level_36 : decode cX5_level 36 = .ok (.bipush 60, 2) := by decide +kernel
theorem dX5_level_38 : decode cX5_level 38 = .ok (.istore_n 3, 1) := by decide +kernel
theorem dX5_level_39 : decode cX5_level 39 = .ok (.iconst 0, 1) := by decide +kernel
theorem dX5_level_40 : decode cX5_level 40 = .ok (.istore 4, 2) := by decide +kernel
theorem dX5_level_42 : decode cX5_level 42 = .ok (.iload 4, 2) := by decide +kernel
theorem dX5_level_44 : decode cX5_level 44 = .ok (.iload_n 3, 1) := by decide +kernel
theorem dX5_level_45 : decode cX5_level 45 = .ok (.if_icmp .ge 58, 3) := by decide +kernel
theorem dX5_level_48 : decode cX5_level 48 = .ok (.aload_n 0, 1) := by decide +kernel
theorem dX5_level_49 : decode cX5_level 49 = .ok (.getfield 32, 3) := by decide +kernel
theorem dX5_level_52 : decode cX5_level 52 = .ok (.ifCond .ge 51, 3) := by decide +kernel
theorem dX5_level_55 : decode cX5_level 55 = .ok (.aload_n 0, 1) := by decide +kernel
theorem dX5_level_56 : decode cX5_level 56 = .ok (.getfield 42, 3) := by decide +kernel
theorem dX5_level_59 : decode cX5_level 59 = .ok (.invokestatic 62, 3) := by decide +kernel
theorem dX5_level_62 : decode cX5_level 62 = .ok (.iload_n 1, 1) := by decide +kernel
theorem dX5_level_63 : decode cX5_level 63 = .ok (.if_icmp .ne 40, 3) := by decide +kernel
theorem dX5_level_66 : decode cX5_level 66 = .ok (.aload_n 0, 1) := by decide +kernel
theorem dX5_level_67 : decode cX5_level 67 = .ok (.getfield 42, 3) := by decide +kernel
theorem dX5_level_70 : decode cX5_level 70 = .ok (.istore 5, 2) := by decide +kernel
theorem dX5_level_72 : decode cX5_level 72 = .ok (.aload_n 0, 1) := by decide +kernel
theorem dX5_level_73 : decode cX5_level 73 = .ok (.invokevirtual 35, 3) := by decide +kernel
theorem dX5_level_76 : decode cX5_level 76 = .ok (.aload_n 0, 1) := by decide +kernel
theorem dX5_level_77 : decode cX5_level 77 = .ok (.iload_n 1, 1) := by decide +kernel
theorem dX5_level_78 : decode cX5_level 78 = .ok (.iconst 1, 1) := by decide +kernel
theorem dX5_level_79 : decode cX5_level 79 = .ok (.iadd, 1) := by decide +kernel
theorem dX5_level_80 : decode cX5_level 80 = .ok (.iload_n 2, 1) := by decide +kernel
theorem dX5_level_81 : decode cX5_level 81 = .ok (.invokevirtual 38, 3) := by decide +kernel
theorem dX5_level_84 : decode cX5_level 84 = .ok (.aload_n 0, 1) := by decide +kernel
theorem dX5_level_85 : decode cX5_level 85 = .ok (.getfield 25, 3) := by decide +kernel
theorem dX5_level_88 : decode cX5_level 88 = .ok (.sipush (-1000), 3) := by decide +kernel
theorem dX5_level_91 : decode cX5_level 91 = .ok (.iload 5, 2) := by decide +kernel
theorem dX5_level_93 : decode cX5_level 93 = .ok (.isub, 1) := by decide +kernel
theorem dX5_level_94 : decode cX5_level 94 = .ok (.invokevirtual 68, 3) := by decide +kernel
theorem dX5_level_97 : decode cX5_level 97 = .ok (.iinc 4 1, 3) := by decide +kernel
theorem dX5_level_100 : decode cX5_level 100 = .ok (.goto (-58), 3) := by decide +kernel
theorem dX5_level_103 : decode cX5_level 103 = .ok (.return_, 1) := by decide +kernel
theorem dX5_one_0 : decode cX5_one 0 = .ok (.aload_n 0, 1) := by decide +kernel
theorem dX5_one_1 : decode cX5_one 1 = .ok (.getfield 42, 3) := by decide +kernel
theorem dX5_one_4 : decode cX5_one 4 = .ok (.bipush (-2), 2) := by decide +kernel
theorem dX5_one_6 : decode cX5_one 6 = .ok (.if_icmp .ne 10, 3) := by decide +kernel
theorem dX5_one_9 : decode cX5_one 9 = .ok (.aload_n 0, 1) := by decide +kernel
theorem dX5_one_10 : decode cX5_one 10 = .ok (.invokevirtual 71, 3) := by decide +kernel
theorem dX5_one_13 : decode cX5_one 13 = .ok (.goto 68, 3) := by decide +kernel
theorem dX5_one_16 : decode cX5_one 16 = .ok (.aload_n 0, 1) := by decide +kernel
theorem dX5_one_17 : decode cX5_one 17 = .ok (.getfield 42, 3) := by decide +kernel
theorem dX5_one_20 : decode cX5_one 20 = .ok (.bipush (-3), 2) := by decide +kernel
theorem dX5_one_22 : decode cX5_one 22 = .ok (.if_icmp .ne 11, 3) := by decide +kernel
theorem dX5_one_25 : decode cX5_one 25 = .ok (.aload_n 0, 1) := by decide +kernel
theorem dX5_one_26 : decode cX5_one 26 = .ok (.iload_n 1, 1) := by decide +kernel
theorem dX5_one_27 : decode cX5_one 27 = .ok (.invokevirtual 74, 3) := by decide +kernel
theorem dX5_one_30 : decode cX5_one 30 = .ok (.goto 51, 3) := by decide +kernel
theorem dX5_one_33 : decode cX5_one 33 = .ok (.aload_n 0, 1) := by decide +kernel
theorem dX5_one_34 : decode cX5_one 34 = .ok (.getfield 42, 3) := by decide +kernel
theorem dX5_one_37 : decode cX5_one 37 = .ok (.bipush 33, 2) := by decide +kernel
theorem dX5_one_39 : decode cX5_one 39 = .ok (.if_icmp .eq 12, 3) := by decide +kernel
theorem dX5_one_42 : decode cX5_one 42 = .ok (.aload_n 0, 1) := by decide +kernel
theorem dX5_one_43 : decode cX5_one 43 = .ok (.getfield 42, 3) := by decide +kernel
theorem dX5_one_46 : decode cX5_one 46 = .ok (.bipush 45, 2) := by decide +kernel
theorem dX5_one_48 : decode cX5_one 48 = .ok (.if_icmp .ne 11, 3) := by decide +kernel
theorem dX5_one_51 : decode cX5_one 51 = .ok (.aload_n 0, 1) := by decide +kernel
theorem dX5_one_52 : decode cX5_one 52 = .ok (.iload_n 1, 1) := by decide +kernel
theorem dX5_one_53 : decode cX5_one 53 = .ok (.invokevirtual 77, 3) := by decide +kernel
theorem dX5_one_56 : decode cX5_one 56 = .ok (.goto 25, 3) := by decide +kernel
theorem dX5_one_59 : decode cX5_one 59 = .ok (.aload_n 0, 1) := by decide +kernel
theorem dX5_one_60 : decode cX5_one 60 = .ok (.bipush 40, 2) := by decide +kernel
theorem dX5_one_62 : decode cX5_one 62 = .ok (.iload_n 1, 1) := by decide +kernel
theorem dX5_one_63 : decode cX5_one 63 = .ok (.invokevirtual 80, 3) := by decide +kernel
theorem dX5_one_66 : decode cX5_one 66 = .ok (.aload_n 0, 1) := by decide +kernel
theorem dX5_one_67 : decode cX5_one 67 = .ok (.iconst 0, 1) := by decide +kernel
theorem dX5_one_68 : decode cX5_one 68 = .ok (.iload_n 1, 1) := by decide +kernel
theorem dX5_one_69 : decode cX5_one 69 = .ok (.iconst 1, 1) := by decide +kernel
theorem dX5_one_70 : decode cX5_one 70 = .ok (.iadd, 1) := by decide +kernel
theorem dX5_one_71 : decode cX5_one 71 = .ok (.invokevirtual 38, 3) := by decide +kernel
theorem dX5_one_74 : decode cX5_one 74 = .ok (.aload_n 0, 1) := by decide +kernel
theorem dX5_one_75 : decode cX5_one 75 = .ok (.bipush 41, 2) := by decide +kernel
theorem dX5_one_77 : decode cX5_one 77 = .ok (.iconst 0, 1) := by decide +kernel
theorem dX5_one_78 : decode cX5_one 78 = .ok (.invokevirtual 80, 3) := by decide +kernel
theorem dX5_one_81 : decode cX5_one 81 = .ok (.return_, 1) := by decide +kernel
theorem dX5_number_0 : decode cX5_number 0 = .ok (.aload_n 0, 1) := by decide +kernel
theorem dX5_number_1 : decode cX5_number 1 = .ok (.getfield 29, 3) := by decide +kernel
theorem dX5_number_4 : decode cX5_number 4 = .ok (.aload_n 0, 1) := by decide +kernel
theorem dX5_number_5 : decode cX5_number 5 = .ok (.getfield 48, 3) := by decide +kernel
theorem dX5_number_8 : decode cX5_number 8 = .ok (.isub, 1) := by decide +kernel
theorem dX5_number_9 : decode cX5_number 9 = .ok (.iconst 4, 1) := by decide +kernel
theorem dX5_number_10 : decode cX5_number 10 = .ok (.if_icmp .le 8, 3) := by decide +kernel
theorem dX5_number_13 : decode cX5_number 13 = .ok (.aload_n 0, 1) := by decide +kernel
theorem dX5_number_14 : decode cX5_number 14 = .ok (.invokevirtual 45, 3) := by decide +kernel
theorem dX5_number_17 : decode cX5_number 17 = .ok (.return_, 1) := by decide +kernel
theorem dX5_number_18 : decode cX5_number 18 = .ok (.iconst 0, 1) := by decide +kernel
theorem dX5_number_19 : decode cX5_number 19 = .ok (.istore_n 1, 1) := by decide +kernel
theorem dX5_number_20 : decode cX5_number 20 = .ok (.aload_n 0, 1) := by decide +kernel
theorem dX5_number_21 : decode cX5_number 21 = .ok (.getfield 48, 3) := by decide +kernel
theorem dX5_number_24 : decode cX5_number 24 = .ok (.istore_n 2, 1) := by decide +kernel
theorem dX5_number_25 : decode cX5_number 25 = .ok (.iload_n 2, 1) := by decide +kernel
theorem dX5_number_26 : decode cX5_number 26 = .ok (.aload_n 0, 1) := by decide +kernel
theorem dX5_number_27 : decode cX5_number 27 = .ok (.getfield 29, 3) := by decide +kernel
theorem dX5_number_30 : decode cX5_number 30 = .ok (.if_icmp .ge 24, 3) := by decide +kernel
theorem dX5_number_33 : decode cX5_number 33 = .ok (.iload_n 1, 1) := by decide +kernel
theorem dX5_number_34 : decode cX5_number 34 = .ok (.bipush 10, 2) := by decide +kernel
theorem dX5_number_36 : decode cX5_number 36 = .ok (.imul, 1) := by decide +kernel
theorem dX5_number_37 : decode cX5_number 37 = .ok (.aload_n 0, 1) := by decide +kernel
theorem dX5_number_38 : decode cX5_number 38 = .ok (.getfield 9, 3) := by decide +kernel
theorem dX5_number_41 : decode cX5_number 41 = .ok (.iload_n 2, 1) := by decide +kernel
theorem dX5_number_42 : decode cX5_number 42 = .ok (.iaload, 1) := by decide +kernel
theorem dX5_number_43 : decode cX5_number 43 = .ok (.iadd, 1) := by decide +kernel
theorem dX5_number_44 : decode cX5_number 44 = .ok (.bipush 48, 2) := by decide +kernel
theorem dX5_number_46 : decode cX5_number 46 = .ok (.isub, 1) := by decide +kernel
theorem dX5_number_47 : decode cX5_number 47 = .ok (.istore_n 1, 1) := by decide +kernel
theorem dX5_number_48 : decode cX5_number 48 = .ok (.iinc 2 1, 3) := by decide +kernel
theorem dX5_number_51 : decode cX5_number 51 = .ok (.goto (-26), 3) := by decide +kernel
theorem dX5_number_54 : decode cX5_number 54 = .ok (.aload_n 0, 1) := by decide +kernel
theorem dX5_number_55 : decode cX5_number 55 = .ok (.getfield 25, 3) := by decide +kernel
theorem dX5_number_58 : decode cX5_number 58 = .ok (.iload_n 1, 1) := by decide +kernel
theorem dX5_number_59 : decode cX5_number 59 = .ok (.invokevirtual 68, 3) := by decide +kernel
theorem dX5_number_62 : decode cX5_number 62 = .ok (.aload_n 0, 1) := by decide +kernel
theorem dX5_number_63 : decode cX5_number 63 = .ok (.invokevirtual 35, 3) := by decide +kernel
theorem dX5_number_66 : decode cX5_number 66 = .ok (.return_, 1) := by decide +kernel
theorem dX5_signed_0 : decode cX5_signed 0 = .ok (.iload_n 1, 1) := by decide +kernel
theorem dX5_signed_1 : decode cX5_signed 1 = .ok (.iconst 5, 1) := by decide +kernel
theorem dX5_signed_2 : decode cX5_signed 2 = .ok (.if_icmp .lt 8, 3) := by decide +kernel
theorem dX5_signed_5 : decode cX5_signed 5 = .ok (.aload_n 0, 1) := by decide +kernel
theorem dX5_signed_6 : decode cX5_signed 6 = .ok (.invokevirtual 45, 3) := by decide +kernel
theorem dX5_signed_9 : decode cX5_signed 9 = .ok (.return_, 1) := by decide +kernel
theorem dX5_signed_10 : decode cX5_signed 10 = .ok (.aload_n 0, 1) := by decide +kernel
theorem dX5_signed_11 : decode cX5_signed 11 = .ok (.getfield 42, 3) := by decide +kernel
theorem dX5_signed_14 : decode cX5_signed 14 = .ok (.bipush 33, 2) := by decide +kernel
theorem dX5_signed_16 : decode cX5_signed 16 = .ok (.if_icmp .ne 8, 3) := by decide +kernel
theorem dX5_signed_19 : decode cX5_signed 19 = .ok (.bipush 33, 2) := by decide +kernel
theorem dX5_signed_21 : decode cX5_signed 21 = .ok (.goto 5, 3) := by decide +kernel
theorem dX5_signed_24 : decode cX5_signed 24 = .ok (.bipush 110, 2) := by decide +kernel
theorem dX5_signed_26 : decode cX5_signed 26 = .ok (.istore_n 2, 1) := by decide +kernel
theorem dX5_signed_27 : decode cX5_signed 27 = .ok (.aload_n 0, 1) := by decide +kernel
theorem dX5_signed_28 : decode cX5_signed 28 = .ok (.invokevirtual 35, 3) := by decide +kernel
theorem dX5_signed_31 : decode cX5_signed 31 = .ok (.aload_n 0, 1) := by decide +kernel
theorem dX5_signed_32 : decode cX5_signed 32 = .ok (.iload_n 1, 1) := by decide +kernel
theorem dX5_signed_33 : decode cX5_signed 33 = .ok (.iconst 1, 1) := by decide +kernel
theorem dX5_signed_34 : decode cX5_signed 34 = .ok (.iadd, 1) := by decide +kernel
theorem dX5_signed_35 : decode cX5_signed 35 = .ok (.invokevirtual 58, 3) := by decide +kernel
theorem dX5_signed_38 : decode cX5_signed 38 = .ok (.aload_n 0, 1) := by decide +kernel
theorem dX5_signed_39 : decode cX5_signed 39 = .ok (.getfield 25, 3) := by decide +kernel
theorem dX5_signed_42 : decode cX5_signed 42 = .ok (.sipush (-1000), 3) := by decide +kernel
theorem dX5_signed_45 : decode cX5_signed 45 = .ok (.iload_n 2, 1) := by decide +kernel
theorem dX5_signed_46 : decode cX5_signed 46 = .ok (.isub, 1) := by decide +kernel
theorem dX5_signed_47 : decode cX5_signed 47 = .ok (.invokevirtual 68, 3) := by decide +kernel
theorem dX5_signed_50 : decode cX5_signed 50 = .ok (.return_, 1) := by decide +kernel
theorem dX5_named_0 : decode cX5_named 0 = .ok (.aload_n 0, 1) := by decide +kernel
theorem dX5_named_1 : decode cX5_named 1 = .ok (.bipush 109, 2) := by decide +kernel
theorem dX5_named_3 : decode cX5_named 3 = .ok (.bipush 97, 2) := by decide +kernel
theorem dX5_named_5 : decode cX5_named 5 = .ok (.bipush 120, 2) := by decide +kernel
theorem dX5_named_7 : decode cX5_named 7 = .ok (.invokevirtual 83, 3) := by decide +kernel
theorem dX5_named_10 : decode cX5_named 10 = .ok (.ifCond .eq 8, 3) := by decide +kernel
theorem dX5_named_13 : decode cX5_named 13 = .ok (.bipush 103, 2) := by decide +kernel
theorem dX5_named_15 : decode cX5_named 15 = .ok (.goto 22, 3) := by decide +kernel
theorem dX5_named_18 : decode cX5_named 18 = .ok (.aload_n 0, 1) := by decide +kernel
theorem dX5_named_19 : decode cX5_named 19 = .ok (.bipush 109, 2) := by decide +kernel
theorem dX5_named_21 : decode cX5_named 21 = .ok (.bipush 105, 2) := by decide +kernel
theorem dX5_named_23 : decode cX5_named 23 = .ok (.bipush 110, 2) := by decide +kernel
theorem dX5_named_25 : decode cX5_named 25 = .ok (.invokevirtual 83, 3) := by decide +kernel
theorem dX5_named_28 : decode cX5_named 28 = .ok (.ifCond .eq 8, 3) := by decide +kernel
theorem dX5_named_31 : decode cX5_named 31 = .ok (.bipush 108, 2) := by decide +kernel
theorem dX5_named_33 : decode cX5_named 33 = .ok (.goto 4, 3) := by decide +kernel
theorem dX5_named_36 : decode cX5_named 36 = .ok (.iconst 0, 1) := by decide +kernel
theorem dX5_named_37 : decode cX5_named 37 = .ok (.istore_n 2, 1) := by decide +kernel
theorem dX5_named_38 : decode cX5_named 38 = .ok (.iload_n 2, 1) := by decide +kernel
theorem dX5_named_39 : decode cX5_named 39 = .ok (.ifCond .ne 8, 3) := by decide +kernel
theorem dX5_named_42 : decode cX5_named 42 = .ok (.aload_n 0, 1) := by decide +kernel
theorem dX5_named_43 : decode cX5_named 43 = .ok (.invokevirtual 87, 3) := by decide +kernel
theorem dX5_named_46 : decode cX5_named 46 = .ok (.return_, 1) := by decide +kernel
theorem dX5_named_47 : decode cX5_named 47 = .ok (.aload_n 0, 1) := by decide +kernel
theorem dX5_named_48 : decode cX5_named 48 = .ok (.invokevirtual 35, 3) := by decide +kernel
theorem dX5_named_51 : decode cX5_named 51 = .ok (.aload_n 0, 1) := by decide +kernel
theorem dX5_named_52 : decode cX5_named 52 = .ok (.bipush 40, 2) := by decide +kernel
theorem dX5_named_54 : decode cX5_named 54 = .ok (.iload_n 1, 1) := by decide +kernel
theorem dX5_named_55 : decode cX5_named 55 = .ok (.invokevirtual 80, 3) := by decide +kernel
theorem dX5_named_58 : decode cX5_named 58 = .ok (.aload_n 0, 1) := by decide +kernel
theorem dX5_named_59 : decode cX5_named 59 = .ok (.iconst 0, 1) := by decide +kernel
theorem dX5_named_60 : decode cX5_named 60 = .ok (.iload_n 1, 1) := by decide +kernel
theorem dX5_named_61 : decode cX5_named 61 = .ok (.iconst 1, 1) := by decide +kernel
theorem dX5_named_62 : decode cX5_named 62 = .ok (.iadd, 1) := by decide +kernel
theorem dX5_named_63 : decode cX5_named 63 = .ok (.invokevirtual 38, 3) := by decide +kernel
theorem dX5_named_66 : decode cX5_named 66 = .ok (.aload_n 0, 1) := by decide +kernel
theorem dX5_named_67 : decode cX5_named 67 = .ok (.bipush 44, 2) := by decide +kernel
theorem dX5_named_69 : decode cX5_named 69 = .ok (.iconst 0, 1) := by decide +kernel
theorem dX5_named_70 : decode cX5_named 70 = .ok (.invokevirtual 80, 3) := by decide +kernel
theorem dX5_named_73 : decode cX5_named 73 = .ok (.aload_n 0, 1) := by decide +kernel
theorem dX5_named_74 : decode cX5_named 74 = .ok (.iconst 0, 1) := by decide +kernel
theorem dX5_named_75 : decode cX5_named 75 = .ok (.iload_n 1, 1) := by decide +kernel
theorem dX5_named_76 : decode cX5_named 76 = .ok (.iconst 1, 1) := by decide +kernel
theorem dX5_named_77 : decode cX5_named 77 = .ok (.iadd, 1) := by decide +kernel
theorem dX5_named_78 : decode cX5_named 78 = .ok (.invokevirtual 38, 3) := by decide +kernel
theorem dX5_named_81 : decode cX5_named 81 = .ok (.aload_n 0, 1) := by decide +kernel
theorem dX5_named_82 : decode cX5_named 82 = .ok (.bipush 41, 2) := by decide +kernel
theorem dX5_named_84 : decode cX5_named 84 = .ok (.iconst 0, 1) := by decide +kernel
theorem dX5_named_85 : decode cX5_named 85 = .ok (.invokevirtual 80, 3) := by decide +kernel
theorem dX5_named_88 : decode cX5_named 88 = .ok (.aload_n 0, 1) := by decide +kernel
theorem dX5_named_89 : decode cX5_named 89 = .ok (.getfield 25, 3) := by decide +kernel
theorem dX5_named_92 : decode cX5_named 92 = .ok (.sipush (-1000), 3) := by decide +kernel
