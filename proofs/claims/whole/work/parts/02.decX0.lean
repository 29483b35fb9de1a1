theorem dX0_init_0 : decode cX0_init 0 = .ok (.aload_n 0, 1) := by decide +kernel
theorem dX0_init_1 : decode cX0_init 1 = .ok (.invokespecial 1, 3) := by decide +kernel
theorem dX0_init_4 : decode cX0_init 4 = .ok (.aload_n 0, 1) := by decide +kernel
theorem dX0_init_5 : decode cX0_init 5 = .ok (.bipush 32, 2) := by decide +kernel
theorem dX0_init_7 : decode cX0_init 7 = .ok (.newarray .int, 2) := by decide +kernel
theorem dX0_init_9 : decode cX0_init 9 = .ok (.putfield 9, 3) := by decide +kernel
theorem dX0_init_12 : decode cX0_init 12 = .ok (.aload_n 0, 1) := by decide +kernel
theorem dX0_init_13 : decode cX0_init 13 = .ok (.iconst 0, 1) := by decide +kernel
theorem dX0_init_14 : decode cX0_init 14 = .ok (.putfield 13, 3) := by decide +kernel
theorem dX0_init_17 : decode cX0_init 17 = .ok (.return_, 1) := by decide +kernel
theorem dX0_has_0 : decode cX0_has 0 = .ok (.iload_n 1, 1) := by decide +kernel
theorem dX0_has_1 : decode cX0_has 1 = .ok (.ifCond .lt 15, 3) := by decide +kernel
theorem dX0_has_4 : decode cX0_has 4 = .ok (.iload_n 1, 1) := by decide +kernel
theorem dX0_has_5 : decode cX0_has 5 = .ok (.aload_n 0, 1) := by decide +kernel
theorem dX0_has_6 : decode cX0_has 6 = .ok (.getfield 13, 3) := by decide +kernel
theorem dX0_has_9 : decode cX0_has 9 = .ok (.if_icmp .ge 7, 3) := by decide +kernel
theorem dX0_has_12 : decode cX0_has 12 = .ok (.iconst 1, 1) := by decide +kernel
theorem dX0_has_13 : decode cX0_has 13 = .ok (.goto 4, 3) := by decide +kernel
theorem dX0_has_16 : decode cX0_has 16 = .ok (.iconst 0, 1) := by decide +kernel
theorem dX0_has_17 : decode cX0_has 17 = .ok (.ireturn, 1) := by decide +kernel
theorem dX0_makeDoubled_0 : decode cX0_makeDoubled 0 = .ok (.aload_n 0, 1) := by decide +kernel
theorem dX0_makeDoubled_1 : decode cX0_makeDoubled 1 = .ok (.iconst 1, 1) := by decide +kernel
theorem dX0_makeDoubled_2 : decode cX0_makeDoubled 2 = .ok (.iload_n 1, 1) := by decide +kernel
theorem dX0_makeDoubled_3 : decode cX0_makeDoubled 3 = .ok (.ishl, 1) := by decide +kernel
theorem dX0_makeDoubled_4 : decode cX0_makeDoubled 4 = .ok (.putfield 13, 3) := by decide +kernel
theorem dX0_makeDoubled_7 : decode cX0_makeDoubled 7 = .ok (.iconst 0, 1) := by decide +kernel
theorem dX0_makeDoubled_8 : decode cX0_makeDoubled 8 = .ok (.istore_n 2, 1) := by decide +kernel
theorem dX0_makeDoubled_9 : decode cX0_makeDoubled 9 = .ok (.iload_n 2, 1) := by decide +kernel
theorem dX0_makeDoubled_10 : decode cX0_makeDoubled 10 = .ok (.aload_n 0, 1) := by decide +kernel
theorem dX0_makeDoubled_11 : decode cX0_makeDoubled 11 = .ok (.getfield 13, 3) := by decide +kernel
theorem dX0_makeDoubled_14 : decode cX0_makeDoubled 14 = .ok (.if_icmp .ge 51, 3) := by decide +kernel
theorem dX0_makeDoubled_17 : decode cX0_makeDoubled 17 = .ok (.aload_n 0, 1) := by decide +kernel
theorem dX0_makeDoubled_18 : decode cX0_makeDoubled 18 = .ok (.getfield 9, 3) := by decide +kernel
theorem dX0_makeDoubled_21 : decode cX0_makeDoubled 21 = .ok (.iload_n 2, 1) := by decide +kernel
theorem dX0_makeDoubled_22 : decode cX0_makeDoubled 22 = .ok (.iconst 0, 1) := by decide +kernel
theorem dX0_makeDoubled_23 : decode cX0_makeDoubled 23 = .ok (.iastore, 1) := by decide +kernel
theorem dX0_makeDoubled_24 : decode cX0_makeDoubled 24 = .ok (.iconst 0, 1) := by decide +kernel
theorem dX0_makeDoubled_25 : decode cX0_makeDoubled 25 = .ok (.istore_n 3, 1) := by decide +kernel
theorem dX0_makeDoubled_26 : decode cX0_makeDoubled 26 = .ok (.iload_n 3, 1) := by decide +kernel
theorem dX0_makeDoubled_27 : decode cX0_makeDoubled 27 = .ok (.aload_n 0, 1) := by decide +kernel
theorem dX0_makeDoubled_28 : decode cX0_makeDoubled 28 = .ok (.getfield 13, 3) := by decide +kernel
theorem dX0_makeDoubled_31 : decode cX0_makeDoubled 31 = .ok (.if_icmp .ge 28, 3) := by decide +kernel
theorem dX0_makeDoubled_34 : decode cX0_makeDoubled 34 = .ok (.aload_n 0, 1) := by decide +kernel
theorem dX0_makeDoubled_35 : decode cX0_makeDoubled 35 = .ok (.getfield 9, 3) := by decide +kernel
theorem dX0_makeDoubled_38 : decode cX0_makeDoubled 38 = .ok (.iload_n 2, 1) := by decide +kernel
theorem dX0_makeDoubled_39 : decode cX0_makeDoubled 39 = .ok (.dup2, 1) := by decide +kernel
theorem dX0_makeDoubled_40 : decode cX0_makeDoubled 40 = .ok (.iaload, 1) := by decide +kernel
theorem dX0_makeDoubled_41 : decode cX0_makeDoubled 41 = .ok (.iload_n 2, 1) := by decide +kernel
theorem dX0_makeDoubled_42 : decode cX0_makeDoubled 42 = .ok (.iload_n 3, 1) := by decide +kernel
theorem dX0_makeDoubled_43 : decode cX0_makeDoubled 43 = .ok (.iand, 1) := by decide +kernel
theorem dX0_makeDoubled_44 : decode cX0_makeDoubled 44 = .ok (.invokestatic 17, 3) := by decide +kernel
theorem dX0_makeDoubled_47 : decode cX0_makeDoubled 47 = .ok (.iconst 1, 1) := by decide +kernel
theorem dX0_makeDoubled_48 : decode cX0_makeDoubled 48 = .ok (.iand, 1) := by decide +kernel
theorem dX0_makeDoubled_49 : decode cX0_makeDoubled 49 = .ok (.iload_n 3, 1) := by decide +kernel
theorem dX0_makeDoubled_50 : decode cX0_makeDoubled 50 = .ok (.ishl, 1) := by decide +kernel
theorem dX0_makeDoubled_51 : decode cX0_makeDoubled 51 = .ok (.ior, 1) := by decide +kernel
theorem dX0_makeDoubled_52 : decode cX0_makeDoubled 52 = .ok (.iastore, 1) := by decide +kernel
theorem dX0_makeDoubled_53 : decode cX0_makeDoubled 53 = .ok (.iinc 3 1, 3) := by decide +kernel
theorem dX0_makeDoubled_56 : decode cX0_makeDoubled 56 = .ok (.goto (-30), 3) := by decide +kernel
theorem dX0_makeDoubled_59 : decode cX0_makeDoubled 59 = .ok (.iinc 2 1, 3) := by decide +kernel
theorem dX0_makeDoubled_62 : decode cX0_makeDoubled 62 = .ok (.goto (-53), 3) := by decide +kernel
theorem dX0_makeDoubled_65 : decode cX0_makeDoubled 65 = .ok (.return_, 1) := by decide +kernel
theorem dX0_makeByRests_0 : decode cX0_makeByRests 0 = .ok (.aload_n 0, 1) := by decide +kernel
theorem dX0_makeByRests_1 : decode cX0_makeByRests 1 = .ok (.iload_n 1, 1) := by decide +kernel
theorem dX0_makeByRests_2 : decode cX0_makeByRests 2 = .ok (.iconst 1, 1) := by decide +kernel
theorem dX0_makeByRests_3 : decode cX0_makeByRests 3 = .ok (.iadd, 1) := by decide +kernel
theorem dX0_makeByRests_4 : decode cX0_makeByRests 4 = .ok (.putfield 13, 3) := by decide +kernel
theorem dX0_makeByRests_7 : decode cX0_makeByRests 7 = .ok (.aload_n 0, 1) := by decide +kernel
theorem dX0_makeByRests_8 : decode cX0_makeByRests 8 = .ok (.getfield 9, 3) := by decide +kernel
theorem dX0_makeByRests_11 : decode cX0_makeByRests 11 = .ok (.iconst 0, 1) := by decide +kernel
theorem dX0_makeByRests_12 : decode cX0_makeByRests 12 = .ok (.iconst 0, 1) := by decide +kernel
theorem dX0_makeByRests_13 : decode cX0_makeByRests 13 = .ok (.iastore, 1) := by decide +kernel
theorem dX0_makeByRests_14 : decode cX0_makeByRests 14 = .ok (.iconst 1, 1) := by decide +kernel
theorem dX0_makeByRests_15 : decode cX0_makeByRests 15 = .ok (.istore_n 2, 1) := by decide +kernel
theorem dX0_makeByRests_16 : decode cX0_makeByRests 16 = .ok (.iload_n 2, 1) := by decide +kernel
theorem dX0_makeByRests_17 : decode cX0_makeByRests 17 = .ok (.aload_n 0, 1) := by decide +kernel
theorem dX0_makeByRests_18 : decode cX0_makeByRests 18 = .ok (.getfield 13, 3) := by decide +kernel
theorem dX0_makeByRests_21 : decode cX0_makeByRests 21 = .ok (.if_icmp .ge 60, 3) := by decide +kernel
theorem dX0_makeByRests_24 : decode cX0_makeByRests 24 = .ok (.aload_n 0, 1) := by decide +kernel
theorem dX0_makeByRests_25 : decode cX0_makeByRests 25 = .ok (.getfield 9, 3) := by decide +kernel
theorem dX0_makeByRests_28 : decode cX0_makeByRests 28 = .ok (.iload_n 2, 1) := by decide +kernel
theorem dX0_makeByRests_29 : decode cX0_makeByRests 29 = .ok (.iconst 0, 1) := by decide +kernel
theorem dX0_makeByRests_30 : decode cX0_makeByRests 30 = .ok (.iastore, 1) := by decide +kernel
theorem dX0_makeByRests_31 : decode cX0_makeByRests 31 = .ok (.iconst 1, 1) := by decide +kernel
theorem dX0_makeByRests_32 : decode cX0_makeByRests 32 = .ok (.istore_n 3, 1) := by decide +kernel
theorem dX0_makeByRests_33 : decode cX0_makeByRests 33 = .ok (.iload_n 3, 1) := by decide +kernel
theorem dX0_makeByRests_34 : decode cX0_makeByRests 34 = .ok (.aload_n 0, 1) := by decide +kernel
theorem dX0_makeByRests_35 : decode cX0_makeByRests 35 = .ok (.getfield 13, 3) := by decide +kernel
theorem dX0_makeByRests_38 : decode cX0_makeByRests 38 = .ok (.if_icmp .ge 37, 3) := by decide +kernel
theorem dX0_makeByRests_41 : decode cX0_makeByRests 41 = .ok (.aload_n 0, 1) := by decide +kernel
theorem dX0_makeByRests_42 : decode cX0_makeByRests 42 = .ok (.getfield 9, 3) := by decide +kernel
theorem dX0_makeByRests_45 : decode cX0_makeByRests 45 = .ok (.iload_n 2, 1) := by decide +kernel
theorem dX0_makeByRests_46 : decode cX0_makeByRests 46 = .ok (.dup2, 1) := by decide +kernel
theorem dX0_makeByRests_47 : decode cX0_makeByRests 47 = .ok (.iaload, 1) := by decide +kernel
theorem dX0_makeByRests_48 : decode cX0_makeByRests 48 = .ok (.iload_n 3, 1) := by decide +kernel
theorem dX0_makeByRests_49 : decode cX0_makeByRests 49 = .ok (.iload_n 2, 1) := by decide +kernel
theorem dX0_makeByRests_50 : decode cX0_makeByRests 50 = .ok (.isub, 1) := by decide +kernel
theorem dX0_makeByRests_51 : decode cX0_makeByRests 51 = .ok (.iload_n 1, 1) := by decide +kernel
theorem dX0_makeByRests_52 : decode cX0_makeByRests 52 = .ok (.iadd, 1) := by decide +kernel
theorem dX0_makeByRests_53 : decode cX0_makeByRests 53 = .ok (.iload_n 1, 1) := by decide +kernel
theorem dX0_makeByRests_54 : decode cX0_makeByRests 54 = .ok (.invokestatic 23, 3) := by decide +kernel
theorem dX0_makeByRests_57 : decode cX0_makeByRests 57 = .ok (.ifCond .eq 7, 3) := by decide +kernel
theorem dX0_makeByRests_60 : decode cX0_makeByRests 60 = .ok (.iconst 0, 1) := by decide +kernel
theorem dX0_makeByRests_61 : decode cX0_makeByRests 61 = .ok (.goto 6, 3) := by decide +kernel
theorem dX0_makeByRests_64 : decode cX0_makeByRests 64 = .ok (.iconst 1, 1) := by decide +kernel
theorem dX0_makeByRests_65 : decode cX0_makeByRests 65 = .ok (.iload_n 3, 1) := by decide +kernel
theorem dX0_makeByRests_66 : decode cX0_makeByRests 66 = .ok (.ishl, 1) := by decide +kernel
theorem dX0_makeByRests_67 : decode cX0_makeByRests 67 = .ok (.ior, 1) := by decide +kernel
theorem dX0_makeByRests_68 : decode cX0_makeByRests 68 = .ok (.iastore, 1) := by decide +kernel
theorem dX0_makeByRests_69 : decode cX0_makeByRests 69 = .ok (.iinc 3 1, 3) := by decide +kernel
theorem dX0_makeByRests_72 : decode cX0_makeByRests 72 = .ok (.goto (-39), 3) := by decide +kernel
theorem dX0_makeByRests_75 : decode cX0_makeByRests 75 = .ok (.iinc 2 1, 3) := by decide +kernel
theorem dX0_makeByRests_78 : decode cX0_makeByRests 78 = .ok (.goto (-62), 3) := by decide +kernel
theorem dX0_makeByRests_81 : decode cX0_makeByRests 81 = .ok (.return_, 1) := by decide +kernel
theorem dX0_doubleUp_0 : decode cX0_doubleUp 0 = .ok (.aload_n 0, 1) := by decide +kernel
theorem dX0_doubleUp_1 : decode cX0_doubleUp 1 = .ok (.getfield 13, 3) := by decide +kernel
theorem dX0_doubleUp_4 : decode cX0_doubleUp 4 = .ok (.istore_n 1, 1) := by decide +kernel
theorem dX0_doubleUp_5 : decode cX0_doubleUp 5 = .ok (.iconst 0, 1) := by decide +kernel
theorem dX0_doubleUp_6 : decode cX0_doubleUp 6 = .ok (.istore_n 2, 1) := by decide +kernel
theorem dX0_doubleUp_7 : decode cX0_doubleUp 7 = .ok (.iload_n 2, 1) := by decide +kernel
theorem dX0_doubleUp_8 : decode cX0_doubleUp 8 = .ok (.iload_n 1, 1) := by decide +kernel
theorem dX0_doubleUp_9 : decode cX0_doubleUp 9 = .ok (.if_icmp .ge 45, 3) := by decide +kernel
theorem dX0_doubleUp_12 : decode cX0_doubleUp 12 = .ok (.aload_n 0, 1) := by decide +kernel
theorem dX0_doubleUp_13 : decode cX0_doubleUp 13 = .ok (.getfield 9, 3) := by decide +kernel
theorem dX0_doubleUp_16 : decode cX0_doubleUp 16 = .ok (.iload_n 2, 1) := by decide +kernel
theorem dX0_doubleUp_17 : decode cX0_doubleUp 17 = .ok (.iaload, 1) := by decide +kernel
theorem dX0_doubleUp_18 : decode cX0_doubleUp 18 = .ok (.istore_n 3, 1) := by decide +kernel
theorem dX0_doubleUp_19 : decode cX0_doubleUp 19 = .ok (.aload_n 0, 1) := by decide +kernel
theorem dX0_doubleUp_20 : decode cX0_doubleUp 20 = .ok (.getfield 9, 3) := by decide +kernel
theorem dX0_doubleUp_23 : decode cX0_doubleUp 23 = .ok (.iload_n 2, 1) := by decide +kernel
theorem dX0_doubleUp_24 : decode cX0_doubleUp 24 = .ok (.iload_n 3, 1) := by decide +kernel
theorem dX0_doubleUp_25 : decode cX0_doubleUp 25 = .ok (.iload_n 3, 1) := by decide +kernel
theorem dX0_doubleUp_26 : decode cX0_doubleUp 26 = .ok (.iload_n 1, 1) := by decide +kernel
theorem dX0_doubleUp_27 : decode cX0_doubleUp 27 = .ok (.ishl, 1) := by decide +kernel
theorem dX0_doubleUp_28 : decode cX0_doubleUp 28 = .ok (.ior, 1) := by decide +kernel
theorem dX0_doubleUp_29 : decode cX0_doubleUp 29 = .ok (.iastore, 1) := by decide +kernel
theorem dX0_doubleUp_30 : decode cX0_doubleUp 30 = .ok (.aload_n 0, 1) := by decide +kernel
theorem dX0_doubleUp_31 : decode cX0_doubleUp 31 = .ok (.getfield 9, 3) := by decide +kernel
theorem dX0_doubleUp_34 : decode cX0_doubleUp 34 = .ok (.iload_n 2, 1) := by decide +kernel
theorem dX0_doubleUp_35 : decode cX0_doubleUp 35 = .ok (.iload_n 1, 1) := by decide +kernel
theorem dX0_doubleUp_36 : decode cX0_doubleUp 36 = .ok (.iadd, 1) := by decide +kernel
theorem dX0_doubleUp_37 : decode cX0_doubleUp 37 = .ok (.iload_n 3, 1) := by decide +kernel
theorem dX0_doubleUp_38 : decode cX0_doubleUp 38 = .ok (.iload_n 3, 1) := by decide +kernel
theorem dX0_doubleUp_39 : decode cX0_doubleUp 39 = .ok (.iload_n 1, 1) := by decide +kernel
theorem dX0_doubleUp_40 : decode cX0_doubleUp 40 = .ok (.invokestatic 29, 3) := by decide +kernel
theorem dX0_doubleUp_43 : decode cX0_doubleUp 43 = .ok (.ixor, 1) := by decide +kernel
theorem dX0_doubleUp_44 : decode cX0_doubleUp 44 = .ok (.iload_n 1, 1) := by decide +kernel
theorem dX0_doubleUp_45 : decode cX0_doubleUp 45 = .ok (.ishl, 1) := by decide +kernel
theorem dX0_doubleUp_46 : decode cX0_doubleUp 46 = .ok (.ior, 1) := by decide +kernel
theorem dX0_doubleUp_47 : decode cX0_doubleUp 47 = .ok (.iastore, 1) := by decide +kernel
theorem dX0_doubleUp_48 : decode cX0_doubleUp 48 = .ok (.iinc 2 1, 3) := by decide +kernel
theorem dX0_doubleUp_51 : decode cX0_doubleUp 51 = .ok (.goto (-44), 3) := by decide +kernel
theorem dX0_doubleUp_54 : decode cX0_doubleUp 54 = .ok (.aload_n 0, 1) := by decide +kernel
theorem dX0_doubleUp_55 : decode cX0_doubleUp 55 = .ok (.iconst 2, 1) := by decide +kernel
theorem dX0_doubleUp_56 : decode cX0_doubleUp 56 = .ok (.iload_n 1, 1) := by decide +kernel
theorem dX0_doubleUp_57 : decode cX0_doubleUp 57 = .ok (.imul, 1) := by decide +kernel
theorem dX0_doubleUp_58 : decode cX0_doubleUp 58 = .ok (.putfield 13, 3) := by decide +kernel
theorem dX0_doubleUp_61 : decode cX0_doubleUp 61 = .ok (.return_, 1) := by decide +kernel
theorem dX0_allColumns_0 : decode cX0_allColumns 0 = .ok (.iconst (-1), 1) := by decide +kernel
theorem dX0_allColumns_1 : decode cX0_allColumns 1 = .ok (.bipush 32, 2) := by decide +kernel
theorem dX0_allColumns_3 : decode cX0_allColumns 3 = .ok (.iload_n 0, 1) := by decide +kernel
theorem dX0_allColumns_4 : decode cX0_allColumns 4 = .ok (.isub, 1) := by decide +kernel
theorem dX0_allColumns_5 : decode cX0_allColumns 5 = .ok (.iushr, 1) := by decide +kernel
theorem dX0_allColumns_6 : decode cX0_allColumns 6 = .ok (.ireturn, 1) := by decide +kernel
theorem dX0_swapRows_0 : decode cX0_swapRows 0 = .ok (.iload_n 1, 1) := by decide +kernel
theorem dX0_swapRows_1 : decode cX0_swapRows 1 = .ok (.iload_n 2, 1) := by decide +kernel
theorem dX0_swapRows_2 : decode cX0_swapRows 2 = .ok (.if_icmp .ne 20, 3) := by decide +kernel
theorem dX0_swapRows_5 : decode cX0_swapRows 5 = .ok (.aload_n 0, 1) := by decide +kernel
theorem dX0_swapRows_6 : decode cX0_swapRows 6 = .ok (.getfield 9, 3) := by decide +kernel
theorem dX0_swapRows_9 : decode cX0_swapRows 9 = .ok (.iload_n 1, 1) := by decide +kernel
theorem dX0_swapRows_10 : decode cX0_swapRows 10 = .ok (.dup2, 1) := by decide +kernel
theorem dX0_swapRows_11 : decode cX0_swapRows 11 = .ok (.iaload, 1) := by decide +kernel
theorem dX0_swapRows_12 : decode cX0_swapRows 12 = .ok (.aload_n 0, 1) := by decide +kernel
theorem dX0_swapRows_13 : decode cX0_swapRows 13 = .ok (.getfield 13, 3) := by decide +kernel
theorem dX0_swapRows_16 : decode cX0_swapRows 16 = .ok (.invokestatic 29, 3) := by decide +kernel
theorem dX0_swapRows_19 : decode cX0_swapRows 19 = .ok (.ixor, 1) := by decide +kernel
theorem dX0_swapRows_20 : decode cX0_swapRows 20 = .ok (.iastore, 1) := by decide +kernel
theorem dX0_swapRows_21 : decode cX0_swapRows 21 = .ok (.return_, 1) := by decide +kernel
theorem dX0_swapRows_22 : decode cX0_swapRows 22 = .ok (.aload_n 0, 1) := by decide +kernel
theorem dX0_swapRows_23 : decode cX0_swapRows 23 = .ok (.getfield 9, 3) := by decide +kernel
theorem dX0_swapRows_26 : decode cX0_swapRows 26 = .ok (.iload_n 1, 1) := by decide +kernel
theorem dX0_swapRows_27 : decode cX0_swapRows 27 = .ok (.iaload, 1) := by decide +kernel
theorem dX0_swapRows_28 : decode cX0_swapRows 28 = .ok (.istore_n 3, 1) := by decide +kernel
theorem dX0_swapRows_29 : decode cX0_swapRows 29 = .ok (.aload_n 0, 1) := by decide +kernel
theorem dX0_swapRows_30 : decode cX0_swapRows 30 = .ok (.getfield 9, 3) := by decide +kernel
theorem dX0_swapRows_33 : decode cX0_swapRows 33 = .ok (.iload_n 1, 1) := by decide +kernel
theorem dX0_swapRows_34 : decode cX0_swapRows 34 = .ok (.aload_n 0, 1) := by decide +kernel
theorem dX0_swapRows_35 : decode cX0_swapRows 35 = .ok (.getfield 9, 3) := by decide +kernel
theorem dX0_swapRows_38 : decode cX0_swapRows 38 = .ok (.iload_n 2, 1) := by decide +kernel
theorem dX0_swapRows_39 : decode cX0_swapRows 39 = .ok (.iaload, 1) := by decide +kernel
theorem dX0_swapRows_40 : decode cX0_swapRows 40 = .ok (.iastore, 1) := by decide +kernel
theorem dX0_swapRows_41 : decode cX0_swapRows 41 = .ok (.aload_n 0, 1) := by decide +kernel
theorem dX0_swapRows_42 : decode cX0_swapRows 42 = .ok (.getfield 9, 3) := by decide +kernel
theorem dX0_swapRows_45 : decode cX0_swapRows 45 = .ok (.iload_n 2, 1) := by decide +kernel
theorem dX0_swapRows_46 : decode cX0_swapRows 46 = .ok (.iload_n 3, 1) := by decide +kernel
theorem dX0_swapRows_47 : decode cX0_swapRows 47 = .ok (.iastore, 1) := by decide +kernel
theorem dX0_swapRows_48 : decode cX0_swapRows 48 = .ok (.return_, 1) := by decide +kernel
theorem dX0_signAt_0 : decode cX0_signAt 0 = .ok (.aload_n 0, 1) := by decide +kernel
theorem dX0_signAt_1 : decode cX0_signAt 1 = .ok (.getfield 9, 3) := by decide +kernel
theorem dX0_signAt_4 : decode cX0_signAt 4 = .ok (.iload_n 1, 1) := by decide +kernel
theorem dX0_signAt_5 : decode cX0_signAt 5 = .ok (.iaload, 1) := by decide +kernel
theorem dX0_signAt_6 : decode cX0_signAt 6 = .ok (.iload_n 2, 1) := by decide +kernel
theorem dX0_signAt_7 : decode cX0_signAt 7 = .ok (.ishr, 1) := by decide +kernel
theorem dX0_signAt_8 : decode cX0_signAt 8 = .ok (.iconst 1, 1) := by decide +kernel
theorem dX0_signAt_9 : decode cX0_signAt 9 = .ok (.iand, 1) := by decide +kernel
theorem dX0_signAt_10 : decode cX0_signAt 10 = .ok (.ifCond .ne 7, 3) := by decide +kernel
theorem dX0_signAt_13 : decode cX0_signAt 13 = .ok (.iconst 1, 1) := by decide +kernel
theorem dX0_signAt_14 : decode cX0_signAt 14 = .ok (.goto 4, 3) := by decide +kernel
theorem dX0_signAt_17 : decode cX0_signAt 17 = .ok (.iconst (-1), 1) := by decide +kernel
theorem dX0_signAt_18 : decode cX0_signAt 18 = .ok (.ireturn, 1) := by decide +kernel
theorem dX0_rowProduct_0 : decode cX0_rowProduct 0 = .ok (.aload_n 0, 1) := by decide +kernel
theorem dX0_rowProduct_1 : decode cX0_rowProduct 1 = .ok (.getfield 13, 3) := by decide +kernel
theorem dX0_rowProduct_4 : decode cX0_rowProduct 4 = .ok (.iconst 2, 1) := by decide +kernel
theorem dX0_rowProduct_5 : decode cX0_rowProduct 5 = .ok (.aload_n 0, 1) := by decide +kernel
theorem dX0_rowProduct_6 : decode cX0_rowProduct 6 = .ok (.getfield 9, 3) := by decide +kernel
theorem dX0_rowProduct_9 : decode cX0_rowProduct 9 = .ok (.iload_n 1, 1) := by decide +kernel
theorem dX0_rowProduct_10 : decode cX0_rowProduct 10 = .ok (.iaload, 1) := by decide +kernel
theorem dX0_rowProduct_11 : decode cX0_rowProduct 11 = .ok (.aload_n 0, 1) := by decide +kernel
theorem dX0_rowProduct_12 : decode cX0_rowProduct 12 = .ok (.getfield 9, 3) := by decide +kernel
theorem dX0_rowProduct_15 : decode cX0_rowProduct 15 = .ok (.iload_n 2, 1) := by decide +kernel
theorem dX0_rowProduct_16 : decode cX0_rowProduct 16 = .ok (.iaload, 1) := by decide +kernel
theorem dX0_rowProduct_17 : decode cX0_rowProduct 17 = .ok (.ixor, 1) := by decide +kernel
theorem dX0_rowProduct_18 : decode cX0_rowProduct 18 = .ok (.invokestatic 17, 3) := by decide +kernel
theorem dX0_rowProduct_21 : decode cX0_rowProduct 21 = .ok (.imul, 1) := by decide +kernel
theorem dX0_rowProduct_22 : decode cX0_rowProduct 22 = .ok (.isub, 1) := by decide +kernel
theorem dX0_rowProduct_23 : decode cX0_rowProduct 23 = .ok (.ireturn, 1) := by decide +kernel
