theorem dX4_init_0 : decode cX4_init 0 = .ok (.aload_n 0, 1) := by decide +kernel
theorem dX4_init_1 : decode cX4_init 1 = .ok (.invokespecial 3, 3) := by decide +kernel
theorem dX4_init_4 : decode cX4_init 4 = .ok (.aload_n 0, 1) := by decide +kernel
theorem dX4_init_5 : decode cX4_init 5 = .ok (.bipush 14, 2) := by decide +kernel
theorem dX4_init_7 : decode cX4_init 7 = .ok (.bipush 15, 2) := by decide +kernel
theorem dX4_init_9 : decode cX4_init 9 = .ok (.multianewarray 11 2, 4) := by decide +kernel
theorem dX4_init_13 : decode cX4_init 13 = .ok (.putfield 13, 3) := by decide +kernel
theorem dX4_init_16 : decode cX4_init 16 = .ok (.aload_n 0, 1) := by decide +kernel
theorem dX4_init_17 : decode cX4_init 17 = .ok (.bipush 14, 2) := by decide +kernel
theorem dX4_init_19 : decode cX4_init 19 = .ok (.newarray .long, 2) := by decide +kernel
theorem dX4_init_21 : decode cX4_init 21 = .ok (.putfield 16, 3) := by decide +kernel
theorem dX4_init_24 : decode cX4_init 24 = .ok (.aload_n 0, 1) := by decide +kernel
theorem dX4_init_25 : decode cX4_init 25 = .ok (.bipush 14, 2) := by decide +kernel
theorem dX4_init_27 : decode cX4_init 27 = .ok (.newarray .long, 2) := by decide +kernel
theorem dX4_init_29 : decode cX4_init 29 = .ok (.putfield 20, 3) := by decide +kernel
theorem dX4_init_32 : decode cX4_init 32 = .ok (.aload_n 0, 1) := by decide +kernel
theorem dX4_init_33 : decode cX4_init 33 = .ok (.lconst 1, 1) := by decide +kernel
theorem dX4_init_34 : decode cX4_init 34 = .ok (.putfield 23, 3) := by decide +kernel
theorem dX4_init_37 : decode cX4_init 37 = .ok (.aload_n 0, 1) := by decide +kernel
theorem dX4_init_38 : decode cX4_init 38 = .ok (.iconst 0, 1) := by decide +kernel
theorem dX4_init_39 : decode cX4_init 39 = .ok (.putfield 27, 3) := by decide +kernel
theorem dX4_init_42 : decode cX4_init 42 = .ok (.return_, 1) := by decide +kernel
theorem dX4_reduce_0 : decode cX4_reduce 0 = .ok (.aload_n 1, 1) := by decide +kernel
theorem dX4_reduce_1 : decode cX4_reduce 1 = .ok (.getfield 31, 3) := by decide +kernel
theorem dX4_reduce_4 : decode cX4_reduce 4 = .ok (.bipush 14, 2) := by decide +kernel
theorem dX4_reduce_6 : decode cX4_reduce 6 = .ok (.invokestatic 37, 3) := by decide +kernel
theorem dX4_reduce_9 : decode cX4_reduce 9 = .ok (.istore_n 2, 1) := by decide +kernel
theorem dX4_reduce_10 : decode cX4_reduce 10 = .ok (.aload_n 0, 1) := by decide +kernel
theorem dX4_reduce_11 : decode cX4_reduce 11 = .ok (.aload_n 1, 1) := by decide +kernel
theorem dX4_reduce_12 : decode cX4_reduce 12 = .ok (.iload_n 2, 1) := by decide +kernel
theorem dX4_reduce_13 : decode cX4_reduce 13 = .ok (.invokevirtual 43, 3) := by decide +kernel
theorem dX4_reduce_16 : decode cX4_reduce 16 = .ok (.lconst 1, 1) := by decide +kernel
theorem dX4_reduce_17 : decode cX4_reduce 17 = .ok (.lstore_n 3, 1) := by decide +kernel
theorem dX4_reduce_18 : decode cX4_reduce 18 = .ok (.iconst 0, 1) := by decide +kernel
theorem dX4_reduce_19 : decode cX4_reduce 19 = .ok (.istore 5, 2) := by decide +kernel
theorem dX4_reduce_21 : decode cX4_reduce 21 = .ok (.iload 5, 2) := by decide +kernel
theorem dX4_reduce_23 : decode cX4_reduce 23 = .ok (.iload_n 2, 1) := by decide +kernel
theorem dX4_reduce_24 : decode cX4_reduce 24 = .ok (.if_icmp .ge 55, 3) := by decide +kernel
theorem dX4_reduce_27 : decode cX4_reduce 27 = .ok (.aload_n 0, 1) := by decide +kernel
theorem dX4_reduce_28 : decode cX4_reduce 28 = .ok (.iload 5, 2) := by decide +kernel
theorem dX4_reduce_30 : decode cX4_reduce 30 = .ok (.iload_n 2, 1) := by decide +kernel
theorem dX4_reduce_31 : decode cX4_reduce 31 = .ok (.invokevirtual 47, 3) := by decide +kernel
theorem dX4_reduce_34 : decode cX4_reduce 34 = .ok (.istore 6, 2) := by decide +kernel
theorem dX4_reduce_36 : decode cX4_reduce 36 = .ok (.iload 6, 2) := by decide +kernel
theorem dX4_reduce_38 : decode cX4_reduce 38 = .ok (.iconst (-1), 1) := by decide +kernel
theorem dX4_reduce_39 : decode cX4_reduce 39 = .ok (.if_icmp .ne 6, 3) := by decide +kernel
theorem dX4_reduce_42 : decode cX4_reduce 42 = .ok (.iload 5, 2) := by decide +kernel
theorem dX4_reduce_44 : decode cX4_reduce 44 = .ok (.ireturn, 1) := by decide +kernel
theorem dX4_reduce_45 : decode cX4_reduce 45 = .ok (.aload_n 0, 1) := by decide +kernel
theorem dX4_reduce_46 : decode cX4_reduce 46 = .ok (.iload 5, 2) := by decide +kernel
theorem dX4_reduce_48 : decode cX4_reduce 48 = .ok (.iload 6, 2) := by decide +kernel
theorem dX4_reduce_50 : decode cX4_reduce 50 = .ok (.iload_n 2, 1) := by decide +kernel
theorem dX4_reduce_51 : decode cX4_reduce 51 = .ok (.invokevirtual 50, 3) := by decide +kernel
theorem dX4_reduce_54 : decode cX4_reduce 54 = .ok (.aload_n 0, 1) := by decide +kernel
theorem dX4_reduce_55 : decode cX4_reduce 55 = .ok (.iload 5, 2) := by decide +kernel
theorem dX4_reduce_57 : decode cX4_reduce 57 = .ok (.iload_n 2, 1) := by decide +kernel
theorem dX4_reduce_58 : decode cX4_reduce 58 = .ok (.lload_n 3, 1) := by decide +kernel
theorem dX4_reduce_59 : decode cX4_reduce 59 = .ok (.invokevirtual 54, 3) := by decide +kernel
theorem dX4_reduce_62 : decode cX4_reduce 62 = .ok (.aload_n 0, 1) := by decide +kernel
theorem dX4_reduce_63 : decode cX4_reduce 63 = .ok (.getfield 13, 3) := by decide +kernel
theorem dX4_reduce_66 : decode cX4_reduce 66 = .ok (.iload 5, 2) := by decide +kernel
theorem dX4_reduce_68 : decode cX4_reduce 68 = .ok (.aaload, 1) := by decide +kernel
theorem dX4_reduce_69 : decode cX4_reduce 69 = .ok (.iload 5, 2) := by decide +kernel
theorem dX4_reduce_71 : decode cX4_reduce 71 = .ok (.laload, 1) := by decide +kernel
theorem dX4_reduce_72 : decode cX4_reduce 72 = .ok (.lstore_n 3, 1) := by decide +kernel
theorem dX4_reduce_73 : decode cX4_reduce 73 = .ok (.iinc 5 1, 3) := by decide +kernel
theorem dX4_reduce_76 : decode cX4_reduce 76 = .ok (.goto (-55), 3) := by decide +kernel
theorem dX4_reduce_79 : decode cX4_reduce 79 = .ok (.iload_n 2, 1) := by decide +kernel
theorem dX4_reduce_80 : decode cX4_reduce 80 = .ok (.ireturn, 1) := by decide +kernel
theorem dX4_fillCells_0 : decode cX4_fillCells 0 = .ok (.iconst 0, 1) := by decide +kernel
theorem dX4_fillCells_1 : decode cX4_fillCells 1 = .ok (.istore_n 3, 1) := by decide +kernel
theorem dX4_fillCells_2 : decode cX4_fillCells 2 = .ok (.iload_n 3, 1) := by decide +kernel
theorem dX4_fillCells_3 : decode cX4_fillCells 3 = .ok (.iload_n 2, 1) := by decide +kernel
theorem dX4_fillCells_4 : decode cX4_fillCells 4 = .ok (.if_icmp .ge 58, 3) := by decide +kernel
theorem dX4_fillCells_7 : decode cX4_fillCells 7 = .ok (.iconst 0, 1) := by decide +kernel
theorem dX4_fillCells_8 : decode cX4_fillCells 8 = .ok (.istore 4, 2) := by decide +kernel
theorem dX4_fillCells_10 : decode cX4_fillCells 10 = .ok (.iload 4, 2) := by decide +kernel
theorem dX4_fillCells_12 : decode cX4_fillCells 12 = .ok (.iload_n 2, 1) := by decide +kernel
theorem dX4_fillCells_13 : decode cX4_fillCells 13 = .ok (.if_icmp .ge 26, 3) := by decide +kernel
theorem dX4_fillCells_16 : decode cX4_fillCells 16 = .ok (.aload_n 0, 1) := by decide +kernel
theorem dX4_fillCells_17 : decode cX4_fillCells 17 = .ok (.getfield 13, 3) := by decide +kernel
theorem dX4_fillCells_20 : decode cX4_fillCells 20 = .ok (.iload_n 3, 1) := by decide +kernel
theorem dX4_fillCells_21 : decode cX4_fillCells 21 = .ok (.aaload, 1) := by decide +kernel
theorem dX4_fillCells_22 : decode cX4_fillCells 22 = .ok (.iload 4, 2) := by decide +kernel
theorem dX4_fillCells_24 : decode cX4_fillCells 24 = .ok (.aload_n 1, 1) := by decide +kernel
theorem dX4_fillCells_25 : decode cX4_fillCells 25 = .ok (.iload 4, 2) := by decide +kernel
theorem dX4_fillCells_27 : decode cX4_fillCells 27 = .ok (.iload_n 3, 1) := by decide +kernel
theorem dX4_fillCells_28 : decode cX4_fillCells 28 = .ok (.invokevirtual 58, 3) := by decide +kernel
theorem dX4_fillCells_31 : decode cX4_fillCells 31 = .ok (.i2l, 1) := by decide +kernel
theorem dX4_fillCells_32 : decode cX4_fillCells 32 = .ok (.lastore, 1) := by decide +kernel
theorem dX4_fillCells_33 : decode cX4_fillCells 33 = .ok (.iinc 4 1, 3) := by decide +kernel
theorem dX4_fillCells_36 : decode cX4_fillCells 36 = .ok (.goto (-26), 3) := by decide +kernel
theorem dX4_fillCells_39 : decode cX4_fillCells 39 = .ok (.aload_n 0, 1) := by decide +kernel
theorem dX4_fillCells_40 : decode cX4_fillCells 40 = .ok (.getfield 13, 3) := by decide +kernel
theorem dX4_fillCells_43 : decode cX4_fillCells 43 = .ok (.iload_n 3, 1) := by decide +kernel
theorem dX4_fillCells_44 : decode cX4_fillCells 44 = .ok (.aaload, 1) := by decide +kernel
theorem dX4_fillCells_45 : decode cX4_fillCells 45 = .ok (.iload_n 2, 1) := by decide +kernel
theorem dX4_fillCells_46 : decode cX4_fillCells 46 = .ok (.iload_n 3, 1) := by decide +kernel
theorem dX4_fillCells_47 : decode cX4_fillCells 47 = .ok (.ifCond .ne 7, 3) := by decide +kernel
theorem dX4_fillCells_50 : decode cX4_fillCells 50 = .ok (.lconst 1, 1) := by decide +kernel
theorem dX4_fillCells_51 : decode cX4_fillCells 51 = .ok (.goto 4, 3) := by decide +kernel
theorem dX4_fillCells_54 : decode cX4_fillCells 54 = .ok (.lconst 0, 1) := by decide +kernel
theorem dX4_fillCells_55 : decode cX4_fillCells 55 = .ok (.lastore, 1) := by decide +kernel
theorem dX4_fillCells_56 : decode cX4_fillCells 56 = .ok (.iinc 3 1, 3) := by decide +kernel
theorem dX4_fillCells_59 : decode cX4_fillCells 59 = .ok (.goto (-57), 3) := by decide +kernel
theorem dX4_fillCells_62 : decode cX4_fillCells 62 = .ok (.return_, 1) := by decide +kernel
theorem dX4_rowToLead_0 : decode cX4_rowToLead 0 = .ok (.iload_n 1, 1) := by decide +kernel
theorem dX4_rowToLead_1 : decode cX4_rowToLead 1 = .ok (.istore_n 3, 1) := by decide +kernel
theorem dX4_rowToLead_2 : decode cX4_rowToLead 2 = .ok (.iload_n 3, 1) := by decide +kernel
theorem dX4_rowToLead_3 : decode cX4_rowToLead 3 = .ok (.iload_n 2, 1) := by decide +kernel
theorem dX4_rowToLead_4 : decode cX4_rowToLead 4 = .ok (.if_icmp .ge 24, 3) := by decide +kernel
theorem dX4_rowToLead_7 : decode cX4_rowToLead 7 = .ok (.aload_n 0, 1) := by decide +kernel
theorem dX4_rowToLead_8 : decode cX4_rowToLead 8 = .ok (.getfield 13, 3) := by decide +kernel
theorem dX4_rowToLead_11 : decode cX4_rowToLead 11 = .ok (.iload_n 3, 1) := by decide +kernel
theorem dX4_rowToLead_12 : decode cX4_rowToLead 12 = .ok (.aaload, 1) := by decide +kernel
theorem dX4_rowToLead_13 : decode cX4_rowToLead 13 = .ok (.iload_n 1, 1) := by decide +kernel
theorem dX4_rowToLead_14 : decode cX4_rowToLead 14 = .ok (.laload, 1) := by decide +kernel
theorem dX4_rowToLead_15 : decode cX4_rowToLead 15 = .ok (.lconst 0, 1) := by decide +kernel
theorem dX4_rowToLead_16 : decode cX4_rowToLead 16 = .ok (.lcmp, 1) := by decide +kernel
theorem dX4_rowToLead_17 : decode cX4_rowToLead 17 = .ok (.ifCond .eq 5, 3) := by decide +kernel
theorem dX4_rowToLead_20 : decode cX4_rowToLead 20 = .ok (.iload_n 3, 1) := by decide +kernel
theorem dX4_rowToLead_21 : decode cX4_rowToLead 21 = .ok (.ireturn, 1) := by decide +kernel
theorem dX4_rowToLead_22 : decode cX4_rowToLead 22 = .ok (.iinc 3 1, 3) := by decide +kernel
theorem dX4_rowToLead_25 : decode cX4_rowToLead 25 = .ok (.goto (-23), 3) := by decide +kernel
theorem dX4_rowToLead_28 : decode cX4_rowToLead 28 = .ok (.iconst (-1), 1) := by decide +kernel
theorem dX4_rowToLead_29 : decode cX4_rowToLead 29 = .ok (.ireturn, 1) := by decide +kernel
theorem dX4_swapCells_0 : decode cX4_swapCells 0 = .ok (.iconst 0, 1) := by decide +kernel
theorem dX4_swapCells_1 : decode cX4_swapCells 1 = .ok (.istore 4, 2) := by decide +kernel
theorem dX4_swapCells_3 : decode cX4_swapCells 3 = .ok (.iload 4, 2) := by decide +kernel
theorem dX4_swapCells_5 : decode cX4_swapCells 5 = .ok (.iload_n 3, 1) := by decide +kernel
theorem dX4_swapCells_6 : decode cX4_swapCells 6 = .ok (.if_icmp .gt 49, 3) := by decide +kernel
theorem dX4_swapCells_9 : decode cX4_swapCells 9 = .ok (.aload_n 0, 1) := by decide +kernel
theorem dX4_swapCells_10 : decode cX4_swapCells 10 = .ok (.getfield 13, 3) := by decide +kernel
theorem dX4_swapCells_13 : decode cX4_swapCells 13 = .ok (.iload_n 1, 1) := by decide +kernel
theorem dX4_swapCells_14 : decode cX4_swapCells 14 = .ok (.aaload, 1) := by decide +kernel
theorem dX4_swapCells_15 : decode cX4_swapCells 15 = .ok (.iload 4, 2) := by decide +kernel
theorem dX4_swapCells_17 : decode cX4_swapCells 17 = .ok (.laload, 1) := by decide +kernel
theorem dX4_swapCells_18 : decode cX4_swapCells 18 = .ok (.lstore 5, 2) := by decide +kernel
theorem dX4_swapCells_20 : decode cX4_swapCells 20 = .ok (.aload_n 0, 1) := by decide +kernel
theorem dX4_swapCells_21 : decode cX4_swapCells 21 = .ok (.getfield 13, 3) := by decide +kernel
theorem dX4_swapCells_24 : decode cX4_swapCells 24 = .ok (.iload_n 1, 1) := by decide +kernel
theorem dX4_swapCells_25 : decode cX4_swapCells 25 = .ok (.aaload, 1) := by decide +kernel
theorem dX4_swapCells_26 : decode cX4_swapCells 26 = .ok (.iload 4, 2) := by decide +kernel
theorem dX4_swapCells_28 : decode cX4_swapCells 28 = .ok (.aload_n 0, 1) := by decide +kernel
theorem dX4_swapCells_29 : decode cX4_swapCells 29 = .ok (.getfield 13, 3) := by decide +kernel
theorem dX4_swapCells_32 : decode cX4_swapCells 32 = .ok (.iload_n 2, 1) := by decide +kernel
theorem dX4_swapCells_33 : decode cX4_swapCells 33 = .ok (.aaload, 1) := by decide +kernel
theorem dX4_swapCells_34 : decode cX4_swapCells 34 = .ok (.iload 4, 2) := by decide +kernel
theorem dX4_swapCells_36 : decode cX4_swapCells 36 = .ok (.laload, 1) := by decide +kernel
theorem dX4_swapCells_37 : decode cX4_swapCells 37 = .ok (.lastore, 1) := by decide +kernel
theorem dX4_swapCells_38 : decode cX4_swapCells 38 = .ok (.aload_n 0, 1) := by decide +kernel
theorem dX4_swapCells_39 : decode cX4_swapCells 39 = .ok (.getfield 13, 3) := by decide +kernel
theorem dX4_swapCells_42 : decode cX4_swapCells 42 = .ok (.iload_n 2, 1) := by decide +kernel
theorem dX4_swapCells_43 : decode cX4_swapCells 43 = .ok (.aaload, 1) := by decide +kernel
theorem dX4_swapCells_44 : decode cX4_swapCells 44 = .ok (.iload 4, 2) := by decide +kernel
theorem dX4_swapCells_46 : decode cX4_swapCells 46 = .ok (.lload 5, 2) := by decide +kernel
theorem dX4_swapCells_48 : decode cX4_swapCells 48 = .ok (.lastore, 1) := by decide +kernel
theorem dX4_swapCells_49 : decode cX4_swapCells 49 = .ok (.iinc 4 1, 3) := by decide +kernel
theorem dX4_swapCells_52 : decode cX4_swapCells 52 = .ok (.goto (-49), 3) := by decide +kernel
theorem dX4_swapCells_55 : decode cX4_swapCells 55 = .ok (.return_, 1) := by decide +kernel
theorem dX4_clearColumn_0 : decode cX4_clearColumn 0 = .ok (.aload_n 0, 1) := by decide +kernel
theorem dX4_clearColumn_1 : decode cX4_clearColumn 1 = .ok (.getfield 13, 3) := by decide +kernel
theorem dX4_clearColumn_4 : decode cX4_clearColumn 4 = .ok (.iload_n 1, 1) := by decide +kernel
theorem dX4_clearColumn_5 : decode cX4_clearColumn 5 = .ok (.aaload, 1) := by decide +kernel
theorem dX4_clearColumn_6 : decode cX4_clearColumn 6 = .ok (.iload_n 1, 1) := by decide +kernel
theorem dX4_clearColumn_7 : decode cX4_clearColumn 7 = .ok (.laload, 1) := by decide +kernel
theorem dX4_clearColumn_8 : decode cX4_clearColumn 8 = .ok (.lstore 5, 2) := by decide +kernel
theorem dX4_clearColumn_10 : decode cX4_clearColumn 10 = .ok (.iconst 0, 1) := by decide +kernel
theorem dX4_clearColumn_11 : decode cX4_clearColumn 11 = .ok (.istore 7, 2) := by decide +kernel
theorem dX4_clearColumn_13 : decode cX4_clearColumn 13 = .ok (.iload 7, 2) := by decide +kernel
theorem dX4_clearColumn_15 : decode cX4_clearColumn 15 = .ok (.iload_n 2, 1) := by decide +kernel
theorem dX4_clearColumn_16 : decode cX4_clearColumn 16 = .ok (.if_icmp .ge 81, 3) := by decide +kernel
theorem dX4_clearColumn_19 : decode cX4_clearColumn 19 = .ok (.aload_n 0, 1) := by decide +kernel
theorem dX4_clearColumn_20 : decode cX4_clearColumn 20 = .ok (.getfield 13, 3) := by decide +kernel
theorem dX4_clearColumn_23 : decode cX4_clearColumn 23 = .ok (.iload 7, 2) := by decide +kernel
theorem dX4_clearColumn_25 : decode cX4_clearColumn 25 = .ok (.aaload, 1) := by decide +kernel
theorem dX4_clearColumn_26 : decode cX4_clearColumn 26 = .ok (.iload_n 1, 1) := by decide +kernel
theorem dX4_clearColumn_27 : decode cX4_clearColumn 27 = .ok (.laload, 1) := by decide +kernel
theorem dX4_clearColumn_28 : decode cX4_clearColumn 28 = .ok (.lstore 8, 2) := by decide +kernel
theorem dX4_clearColumn_30 : decode cX4_clearColumn 30 = .ok (.iconst 0, 1) := by decide +kernel
theorem dX4_clearColumn_31 : decode cX4_clearColumn 31 = .ok (.istore 10, 2) := by decide +kernel
theorem dX4_clearColumn_33 : decode cX4_clearColumn 33 = .ok (.iload 10, 2) := by decide +kernel
theorem dX4_clearColumn_35 : decode cX4_clearColumn 35 = .ok (.iload_n 2, 1) := by decide +kernel
theorem dX4_clearColumn_36 : decode cX4_clearColumn 36 = .ok (.if_icmp .gt 55, 3) := by decide +kernel
theorem dX4_clearColumn_39 : decode cX4_clearColumn 39 = .ok (.iload 7, 2) := by decide +kernel
theorem dX4_clearColumn_41 : decode cX4_clearColumn 41 = .ok (.iload_n 1, 1) := by decide +kernel
theorem dX4_clearColumn_42 : decode cX4_clearColumn 42 = .ok (.if_icmp .eq 49, 3) := by decide +kernel
theorem dX4_clearColumn_45 : decode cX4_clearColumn 45 = .ok (.aload_n 0, 1) := by decide +kernel
theorem dX4_clearColumn_46 : decode cX4_clearColumn 46 = .ok (.getfield 13, 3) := by decide +kernel
theorem dX4_clearColumn_49 : decode cX4_clearColumn 49 = .ok (.iload 7, 2) := by decide +kernel
theorem dX4_clearColumn_51 : decode cX4_clearColumn 51 = .ok (.aaload, 1) := by decide +kernel
theorem dX4_clearColumn_52 : decode cX4_clearColumn 52 = .ok (.iload 10, 2) := by decide +kernel
theorem dX4_clearColumn_54 : decode cX4_clearColumn 54 = .ok (.lload 5, 2) := by decide +kernel
theorem dX4_clearColumn_56 : decode cX4_clearColumn 56 = .ok (.aload_n 0, 1) := by decide +kernel
theorem dX4_clearColumn_57 : decode cX4_clearColumn 57 = .ok (.getfield 13, 3) := by decide +kernel
theorem dX4_clearColumn_60 : decode cX4_clearColumn 60 = .ok (.iload 7, 2) := by decide +kernel
theorem dX4_clearColumn_62 : decode cX4_clearColumn 62 = .ok (.aaload, 1) := by decide +kernel
theorem dX4_clearColumn_63 : decode cX4_clearColumn 63 = .ok (.iload 10, 2) := by decide +kernel
theorem dX4_clearColumn_65 : decode cX4_clearColumn 65 = .ok (.laload, 1) := by decide +kernel
theorem dX4_clearColumn_66 : decode cX4_clearColumn 66 = .ok (.lmul, 1) := by decide +kernel
theorem dX4_clearColumn_67 : decode cX4_clearColumn 67 = .ok (.lload 8, 2) := by decide +kernel
theorem dX4_clearColumn_69 : decode cX4_clearColumn 69 = .ok (.aload_n 0, 1) := by decide +kernel
theorem dX4_clearColumn_70 : decode cX4_clearColumn 70 = .ok (.getfield 13, 3) := by decide +kernel
theorem dX4_clearColumn_73 : decode cX4_clearColumn 73 = .ok (.iload_n 1, 1) := by decide +kernel
theorem dX4_clearColumn_74 : decode cX4_clearColumn 74 = .ok (.aaload, 1) := by decide +kernel
theorem dX4_clearColumn_75 : decode cX4_clearColumn 75 = .ok (.iload 10, 2) := by decide +kernel
theorem dX4_clearColumn_77 : decode cX4_clearColumn 77 = .ok (.laload, 1) := by decide +kernel
theorem dX4_clearColumn_78 : decode cX4_clearColumn 78 = .ok (.lmul, 1) := by decide +kernel
theorem dX4_clearColumn_79 : decode cX4_clearColumn 79 = .ok (.lsub, 1) := by decide +kernel
theorem dX4_clearColumn_80 : decode cX4_clearColumn 80 = .ok (.lload_n 3, 1) := by decide +kernel
theorem dX4_clearColumn_81 : decode cX4_clearColumn 81 = .ok (.invokestatic 61, 3) := by decide +kernel
theorem dX4_clearColumn_84 : decode cX4_clearColumn 84 = .ok (.lastore, 1) := by decide +kernel
theorem dX4_clearColumn_85 : decode cX4_clearColumn 85 = .ok (.iinc 10 1, 3) := by decide +kernel
theorem dX4_clearColumn_88 : decode cX4_clearColumn 88 = .ok (.goto (-55), 3) := by decide +kernel
theorem dX4_clearColumn_91 : decode cX4_clearColumn 91 = .ok (.iinc 7 1, 3) := by decide +kernel
theorem dX4_clearColumn_94 : decode cX4_clearColumn 94 = .ok (.goto (-81), 3) := by decide +kernel
theorem dX4_clearColumn_97 : decode cX4_clearColumn 97 = .ok (.return_, 1) := by decide +kernel
theorem dX4_invert_0 : decode cX4_invert 0 = .ok (.aload_n 1, 1) := by decide +kernel
theorem dX4_invert_1 : decode cX4_invert 1 = .ok (.getfield 31, 3) := by decide +kernel
theorem dX4_invert_4 : decode cX4_invert 4 = .ok (.bipush 14, 2) := by decide +kernel
theorem dX4_invert_6 : decode cX4_invert 6 = .ok (.invokestatic 37, 3) := by decide +kernel
theorem dX4_invert_9 : decode cX4_invert 9 = .ok (.istore_n 2, 1) := by decide +kernel
theorem dX4_invert_10 : decode cX4_invert 10 = .ok (.aload_n 0, 1) := by decide +kernel
theorem dX4_invert_11 : decode cX4_invert 11 = .ok (.aload_n 1, 1) := by decide +kernel
theorem dX4_invert_12 : decode cX4_invert 12 = .ok (.invokevirtual 65, 3) := by decide +kernel
theorem dX4_invert_15 : decode cX4_invert 15 = .ok (.iload_n 2, 1) := by decide +kernel
theorem dX4_invert_16 : decode cX4_invert 16 = .ok (.if_icmp .ge 5, 3) := by decide +kernel
theorem dX4_invert_19 : decode cX4_invert 19 = .ok (.iconst 0, 1) := by decide +kernel
theorem dX4_invert_20 : decode cX4_invert 20 = .ok (.ireturn, 1) := by decide +kernel
theorem dX4_invert_21 : decode cX4_invert 21 = .ok (.aload_n 0, 1) := by decide +kernel
theorem dX4_invert_22 : decode cX4_invert 22 = .ok (.getfield 13, 3) := by decide +kernel
theorem dX4_invert_25 : decode cX4_invert 25 = .ok (.iload_n 2, 1) := by decide +kernel
theorem dX4_invert_26 : decode cX4_invert 26 = .ok (.iconst 1, 1) := by decide +kernel
theorem dX4_invert_27 : decode cX4_invert 27 = .ok (.isub, 1) := by decide +kernel
theorem dX4_invert_28 : decode cX4_invert 28 = .ok (.aaload, 1) := by decide +kernel
theorem dX4_invert_29 : decode cX4_invert 29 = .ok (.iload_n 2, 1) := by decide +kernel
theorem dX4_invert_30 : decode cX4_invert 30 = .ok (.iconst 1, 1) := by decide +kernel
theorem dX4_invert_31 : decode cX4_invert 31 = .ok (.isub, 1) := by decide +kernel
theorem dX4_invert_32 : decode cX4_invert 32 = .ok (.laload, 1) := by decide +kernel
theorem dX4_invert_33 : decode cX4_invert 33 = .ok (.lstore_n 3, 1) := by decide +kernel
theorem dX4_invert_34 : decode cX4_invert 34 = .ok (.lload_n 3, 1) := by decide +kernel
theorem dX4_invert_35 : decode cX4_invert 35 = .ok (.lstore 5, 2) := by decide +kernel
theorem dX4_invert_37 : decode cX4_invert 37 = .ok (.iconst 0, 1) := by decide +kernel
theorem dX4_invert_38 : decode cX4_invert 38 = .ok (.istore 7, 2) := by decide +kernel
theorem dX4_invert_40 : decode cX4_invert 40 = .ok (.iload 7, 2) := by decide +kernel
theorem dX4_invert_42 : decode cX4_invert 42 = .ok (.iload_n 2, 1) := by decide +kernel
theorem dX4_invert_43 : decode cX4_invert 43 = .ok (.if_icmp .ge 25, 3) := by decide +kernel
theorem dX4_invert_46 : decode cX4_invert 46 = .ok (.lload 5, 2) := by decide +kernel
theorem dX4_invert_48 : decode cX4_invert 48 = .ok (.aload_n 0, 1) := by decide +kernel
theorem dX4_invert_49 : decode cX4_invert 49 = .ok (.getfield 13, 3) := by decide +kernel
theorem dX4_invert_52 : decode cX4_invert 52 = .ok (.iload 7, 2) := by decide +kernel
theorem dX4_invert_54 : decode cX4_invert 54 = .ok (.aaload, 1) := by decide +kernel
theorem dX4_invert_55 : decode cX4_invert 55 = .ok (.iload_n 2, 1) := by decide +kernel
theorem dX4_invert_56 : decode cX4_invert 56 = .ok (.laload, 1) := by decide +kernel
theorem dX4_invert_57 : decode cX4_invert 57 = .ok (.invokestatic 69, 3) := by decide +kernel
theorem dX4_invert_60 : decode cX4_invert 60 = .ok (.lstore 5, 2) := by decide +kernel
theorem dX4_invert_62 : decode cX4_invert 62 = .ok (.iinc 7 1, 3) := by decide +kernel
theorem dX4_invert_65 : decode cX4_invert 65 = .ok (.goto (-25), 3) := by decide +kernel
theorem dX4_invert_68 : decode cX4_invert 68 = .ok (.lload_n 3, 1) := by decide +kernel
theorem dX4_invert_69 : decode cX4_invert 69 = .ok (.lconst 0, 1) := by decide +kernel
theorem dX4_invert_70 : decode cX4_invert 70 = .ok (.lcmp, 1) := by decide +kernel
theorem dX4_invert_71 : decode cX4_invert 71 = .ok (.ifCond .ge 9, 3) := by decide +kernel
theorem dX4_invert_74 : decode cX4_invert 74 = .ok (.lload 5, 2) := by decide +kernel
theorem dX4_invert_76 : decode cX4_invert 76 = .ok (.lneg, 1) := by decide +kernel
theorem dX4_invert_77 : decode cX4_invert 77 = .ok (.goto 5, 3) := by decide +kernel
theorem dX4_invert_80 : decode cX4_invert 80 = .ok (.lload 5, 2) := by decide +kernel
theorem dX4_invert_82 : decode cX4_invert 82 = .ok (.lstore 7, 2) := by decide +kernel
theorem dX4_invert_84 : decode cX4_invert 84 = .ok (.aload_n 0, 1) := by decide +kernel
theorem dX4_invert_85 : decode cX4_invert 85 = .ok (.lload_n 3, 1) := by decide +kernel
theorem dX4_invert_86 : decode cX4_invert 86 = .ok (.lload 7, 2) := by decide +kernel
theorem dX4_invert_88 : decode cX4_invert 88 = .ok (.invokestatic 61, 3) := by decide +kernel
theorem dX4_invert_91 : decode cX4_invert 91 = .ok (.putfield 23, 3) := by decide +kernel
theorem dX4_invert_94 : decode cX4_invert 94 = .ok (.iconst 0, 1) := by decide +kernel
theorem dX4_invert_95 : decode cX4_invert 95 = .ok (.istore 9, 2) := by decide +kernel
theorem dX4_invert_97 : decode cX4_invert 97 = .ok (.iload 9, 2) := by decide +kernel
theorem dX4_invert_99 : decode cX4_invert 99 = .ok (.iload_n 2, 1) := by decide +kernel
theorem dX4_invert_100 : decode cX4_invert 100 = .ok (.if_icmp .ge 35, 3) := by decide +kernel
theorem dX4_invert_103 : decode cX4_invert 103 = .ok (.aload_n 0, 1) := by decide +kernel
theorem dX4_invert_104 : decode cX4_invert 104 = .ok (.getfield 16, 3) := by decide +kernel
theorem dX4_invert_107 : decode cX4_invert 107 = .ok (.iload 9, 2) := by decide +kernel
theorem dX4_invert_109 : decode cX4_invert 109 = .ok (.aload_n 0, 1) := by decide +kernel
theorem dX4_invert_110 : decode cX4_invert 110 = .ok (.getfield 13, 3) := by decide +kernel
theorem dX4_invert_113 : decode cX4_invert 113 = .ok (.aload_n 1, 1) := by decide +kernel
theorem dX4_invert_114 : decode cX4_invert 114 = .ok (.iload 9, 2) := by decide +kernel
theorem dX4_invert_116 : decode cX4_invert 116 = .ok (.ineg, 1) := by decide +kernel
theorem dX4_invert_117 : decode cX4_invert 117 = .ok (.invokevirtual 72, 3) := by decide +kernel
theorem dX4_invert_120 : decode cX4_invert 120 = .ok (.aaload, 1) := by decide +kernel
theorem dX4_invert_121 : decode cX4_invert 121 = .ok (.iload_n 2, 1) := by decide +kernel
theorem dX4_invert_122 : decode cX4_invert 122 = .ok (.laload, 1) := by decide +kernel
theorem dX4_invert_123 : decode cX4_invert 123 = .ok (.lload 7, 2) := by decide +kernel
theorem dX4_invert_125 : decode cX4_invert 125 = .ok (.invokestatic 61, 3) := by decide +kernel
theorem dX4_invert_128 : decode cX4_invert 128 = .ok (.lastore, 1) := by decide +kernel
theorem dX4_invert_129 : decode cX4_invert 129 = .ok (.iinc 9 1, 3) := by decide +kernel
theorem dX4_invert_132 : decode cX4_invert 132 = .ok (.goto (-35), 3) := by decide +kernel
theorem dX4_invert_135 : decode cX4_invert 135 = .ok (.iconst 1, 1) := by decide +kernel
theorem dX4_invert_136 : decode cX4_invert 136 = .ok (.ireturn, 1) := by decide +kernel
theorem dX4_backAt_0 : decode cX4_backAt 0 = .ok (.iload_n 1, 1) := by decide +kernel
theorem dX4_backAt_1 : decode cX4_backAt 1 = .ok (.ifCond .lt 18, 3) := by decide +kernel
theorem dX4_backAt_4 : decode cX4_backAt 4 = .ok (.iload_n 1, 1) := by decide +kernel
theorem dX4_backAt_5 : decode cX4_backAt 5 = .ok (.bipush 14, 2) := by decide +kernel
theorem dX4_backAt_7 : decode cX4_backAt 7 = .ok (.if_icmp .ge 12, 3) := by decide +kernel
theorem dX4_backAt_10 : decode cX4_backAt 10 = .ok (.aload_n 0, 1) := by decide +kernel
theorem dX4_backAt_11 : decode cX4_backAt 11 = .ok (.getfield 16, 3) := by decide +kernel
theorem dX4_backAt_14 : decode cX4_backAt 14 = .ok (.iload_n 1, 1) := by decide +kernel
theorem dX4_backAt_15 : decode cX4_backAt 15 = .ok (.laload, 1) := by decide +kernel
theorem dX4_backAt_16 : decode cX4_backAt 16 = .ok (.goto 4, 3) := by decide +kernel
theorem dX4_backAt_19 : decode cX4_backAt 19 = .ok (.lconst 0, 1) := by decide +kernel
theorem dX4_backAt_20 : decode cX4_backAt 20 = .ok (.lreturn, 1) := by decide +kernel
theorem dX4_noisePart_0 : decode cX4_noisePart 0 = .ok (.lconst 0, 1) := by decide +kernel
theorem dX4_noisePart_1 : decode cX4_noisePart 1 = .ok (.lstore_n 3, 1) := by decide +kernel
theorem dX4_noisePart_2 : decode cX4_noisePart 2 = .ok (.iconst 0, 1) := by decide +kernel
theorem dX4_noisePart_3 : decode cX4_noisePart 3 = .ok (.istore 5, 2) := by decide +kernel
theorem dX4_noisePart_5 : decode cX4_noisePart 5 = .ok (.iload 5, 2) := by decide +kernel
theorem dX4_noisePart_7 : decode cX4_noisePart 7 = .ok (.iload_n 2, 1) := by decide +kernel
theorem dX4_noisePart_8 : decode cX4_noisePart 8 = .ok (.if_icmp .ge 34, 3) := by decide +kernel
theorem dX4_noisePart_11 : decode cX4_noisePart 11 = .ok (.iload 5, 2) := by decide +kernel
theorem dX4_noisePart_13 : decode cX4_noisePart 13 = .ok (.bipush 14, 2) := by decide +kernel
theorem dX4_noisePart_15 : decode cX4_noisePart 15 = .ok (.if_icmp .ge 27, 3) := by decide +kernel
theorem dX4_noisePart_18 : decode cX4_noisePart 18 = .ok (.lload_n 3, 1) := by decide +kernel
theorem dX4_noisePart_19 : decode cX4_noisePart 19 = .ok (.aload_n 0, 1) := by decide +kernel
theorem dX4_noisePart_20 : decode cX4_noisePart 20 = .ok (.getfield 16, 3) := by decide +kernel
theorem dX4_noisePart_23 : decode cX4_noisePart 23 = .ok (.iload 5, 2) := by decide +kernel
theorem dX4_noisePart_25 : decode cX4_noisePart 25 = .ok (.laload, 1) := by decide +kernel
theorem dX4_noisePart_26 : decode cX4_noisePart 26 = .ok (.aload_n 0, 1) := by decide +kernel
theorem dX4_noisePart_27 : decode cX4_noisePart 27 = .ok (.getfield 16, 3) := by decide +kernel
theorem dX4_noisePart_30 : decode cX4_noisePart 30 = .ok (.iload 5, 2) := by decide +kernel
theorem dX4_noisePart_32 : decode cX4_noisePart 32 = .ok (.laload, 1) := by decide +kernel
theorem dX4_noisePart_33 : decode cX4_noisePart 33 = .ok (.lmul, 1) := by decide +kernel
theorem dX4_noisePart_34 : decode cX4_noisePart 34 = .ok (.ladd, 1) := by decide +kernel
theorem dX4_noisePart_35 : decode cX4_noisePart 35 = .ok (.lstore_n 3, 1) := by decide +kernel
theorem dX4_noisePart_36 : decode cX4_noisePart 36 = .ok (.iinc 5 1, 3) := by decide +kernel
theorem dX4_noisePart_39 : decode cX4_noisePart 39 = .ok (.goto (-34), 3) := by decide +kernel
theorem dX4_noisePart_42 : decode cX4_noisePart 42 = .ok (.aload_n 0, 1) := by decide +kernel
theorem dX4_noisePart_43 : decode cX4_noisePart 43 = .ok (.getfield 23, 3) := by decide +kernel
theorem dX4_noisePart_46 : decode cX4_noisePart 46 = .ok (.aload_n 0, 1) := by decide +kernel
theorem dX4_noisePart_47 : decode cX4_noisePart 47 = .ok (.getfield 23, 3) := by decide +kernel
theorem dX4_noisePart_50 : decode cX4_noisePart 50 = .ok (.lmul, 1) := by decide +kernel
theorem dX4_noisePart_51 : decode cX4_noisePart 51 = .ok (.lstore 5, 2) := by decide +kernel
theorem dX4_noisePart_53 : decode cX4_noisePart 53 = .ok (.iload_n 1, 1) := by decide +kernel
theorem dX4_noisePart_54 : decode cX4_noisePart 54 = .ok (.ifCond .eq 7, 3) := by decide +kernel
theorem dX4_noisePart_57 : decode cX4_noisePart 57 = .ok (.lload_n 3, 1) := by decide +kernel
theorem dX4_noisePart_58 : decode cX4_noisePart 58 = .ok (.goto 5, 3) := by decide +kernel
theorem dX4_noisePart_61 : decode cX4_noisePart 61 = .ok (.lload 5, 2) := by decide +kernel
theorem dX4_noisePart_63 : decode cX4_noisePart 63 = .ok (.lload_n 3, 1) := by decide +kernel
theorem dX4_noisePart_64 : decode cX4_noisePart 64 = .ok (.lload 5, 2) := by decide +kernel
theorem dX4_noisePart_66 : decode cX4_noisePart 66 = .ok (.invokestatic 69, 3) := by decide +kernel
theorem dX4_noisePart_69 : decode cX4_noisePart 69 = .ok (.invokestatic 61, 3) := by decide +kernel
theorem dX4_noisePart_72 : decode cX4_noisePart 72 = .ok (.lreturn, 1) := by decide +kernel
theorem dX4_showLost_0 : decode cX4_showLost 0 = .ok (.iload_n 2, 1) := by decide +kernel
theorem dX4_showLost_1 : decode cX4_showLost 1 = .ok (.ifCond .ne 7, 3) := by decide +kernel
theorem dX4_showLost_4 : decode cX4_showLost 4 = .ok (.lconst 1, 1) := by decide +kernel
theorem dX4_showLost_5 : decode cX4_showLost 5 = .ok (.goto 15, 3) := by decide +kernel
theorem dX4_showLost_8 : decode cX4_showLost 8 = .ok (.aload_n 0, 1) := by decide +kernel
theorem dX4_showLost_9 : decode cX4_showLost 9 = .ok (.getfield 13, 3) := by decide +kernel
theorem dX4_showLost_12 : decode cX4_showLost 12 = .ok (.iload_n 2, 1) := by decide +kernel
theorem dX4_showLost_13 : decode cX4_showLost 13 = .ok (.iconst 1, 1) := by decide +kernel
theorem dX4_showLost_14 : decode cX4_showLost 14 = .ok (.isub, 1) := by decide +kernel
theorem dX4_showLost_15 : decode cX4_showLost 15 = .ok (.aaload, 1) := by decide +kernel
theorem dX4_showLost_16 : decode cX4_showLost 16 = .ok (.iload_n 2, 1) := by decide +kernel
theorem dX4_showLost_17 : decode cX4_showLost 17 = .ok (.iconst 1, 1) := by decide +kernel
theorem dX4_showLost_18 : decode cX4_showLost 18 = .ok (.isub, 1) := by decide +kernel
theorem dX4_showLost_19 : decode cX4_showLost 19 = .ok (.laload, 1) := by decide +kernel
theorem dX4_showLost_20 : decode cX4_showLost 20 = .ok (.lstore_n 3, 1) := by decide +kernel
theorem dX4_showLost_21 : decode cX4_showLost 21 = .ok (.lload_n 3, 1) := by decide +kernel
theorem dX4_showLost_22 : decode cX4_showLost 22 = .ok (.lstore 5, 2) := by decide +kernel
theorem dX4_showLost_24 : decode cX4_showLost 24 = .ok (.iconst 0, 1) := by decide +kernel
theorem dX4_showLost_25 : decode cX4_showLost 25 = .ok (.istore 7, 2) := by decide +kernel
theorem dX4_showLost_27 : decode cX4_showLost 27 = .ok (.iload 7, 2) := by decide +kernel
theorem dX4_showLost_29 : decode cX4_showLost 29 = .ok (.iload_n 2, 1) := by decide +kernel
theorem dX4_showLost_30 : decode cX4_showLost 30 = .ok (.if_icmp .ge 25, 3) := by decide +kernel
theorem dX4_showLost_33 : decode cX4_showLost 33 = .ok (.lload 5, 2) := by decide +kernel
theorem dX4_showLost_35 : decode cX4_showLost 35 = .ok (.aload_n 0, 1) := by decide +kernel
theorem dX4_showLost_36 : decode cX4_showLost 36 = .ok (.getfield 13, 3) := by decide +kernel
theorem dX4_showLost_39 : decode cX4_showLost 39 = .ok (.iload 7, 2) := by decide +kernel
theorem dX4_showLost_41 : decode cX4_showLost 41 = .ok (.aaload, 1) := by decide +kernel
theorem dX4_showLost_42 : decode cX4_showLost 42 = .ok (.iload_n 2, 1) := by decide +kernel
theorem dX4_showLost_43 : decode cX4_showLost 43 = .ok (.laload, 1) := by decide +kernel
theorem dX4_showLost_44 : decode cX4_showLost 44 = .ok (.invokestatic 69, 3) := by decide +kernel
theorem dX4_showLost_47 : decode cX4_showLost 47 = .ok (.lstore 5, 2) := by decide +kernel
theorem dX4_showLost_49 : decode cX4_showLost 49 = .ok (.iinc 7 1, 3) := by decide +kernel
theorem dX4_showLost_52 : decode cX4_showLost 52 = .ok (.goto (-25), 3) := by decide +kernel
theorem dX4_showLost_55 : decode cX4_showLost 55 = .ok (.lload_n 3, 1) := by decide +kernel
theorem dX4_showLost_56 : decode cX4_showLost 56 = .ok (.lconst 0, 1) := by decide +kernel
theorem dX4_showLost_57 : decode cX4_showLost 57 = .ok (.lcmp, 1) := by decide +kernel
theorem dX4_showLost_58 : decode cX4_showLost 58 = .ok (.ifCond .ge 9, 3) := by decide +kernel
theorem dX4_showLost_61 : decode cX4_showLost 61 = .ok (.lload 5, 2) := by decide +kernel
theorem dX4_showLost_63 : decode cX4_showLost 63 = .ok (.lneg, 1) := by decide +kernel
theorem dX4_showLost_64 : decode cX4_showLost 64 = .ok (.goto 5, 3) := by decide +kernel
theorem dX4_showLost_67 : decode cX4_showLost 67 = .ok (.lload 5, 2) := by decide +kernel
theorem dX4_showLost_69 : decode cX4_showLost 69 = .ok (.lstore 7, 2) := by decide +kernel
theorem dX4_showLost_71 : decode cX4_showLost 71 = .ok (.iconst 0, 1) := by decide +kernel
theorem dX4_showLost_72 : decode cX4_showLost 72 = .ok (.istore 9, 2) := by decide +kernel
theorem dX4_showLost_74 : decode cX4_showLost 74 = .ok (.iload 9, 2) := by decide +kernel
theorem dX4_showLost_76 : decode cX4_showLost 76 = .ok (.aload_n 1, 1) := by decide +kernel
theorem dX4_showLost_77 : decode cX4_showLost 77 = .ok (.getfield 31, 3) := by decide +kernel
theorem dX4_showLost_80 : decode cX4_showLost 80 = .ok (.if_icmp .ge 56, 3) := by decide +kernel
theorem dX4_showLost_83 : decode cX4_showLost 83 = .ok (.iload 9, 2) := by decide +kernel
theorem dX4_showLost_85 : decode cX4_showLost 85 = .ok (.iload_n 2, 1) := by decide +kernel
theorem dX4_showLost_86 : decode cX4_showLost 86 = .ok (.if_icmp .ge 16, 3) := by decide +kernel
theorem dX4_showLost_89 : decode cX4_showLost 89 = .ok (.aload_n 0, 1) := by decide +kernel
theorem dX4_showLost_90 : decode cX4_showLost 90 = .ok (.getfield 13, 3) := by decide +kernel
theorem dX4_showLost_93 : decode cX4_showLost 93 = .ok (.iload 9, 2) := by decide +kernel
theorem dX4_showLost_95 : decode cX4_showLost 95 = .ok (.aaload, 1) := by decide +kernel
theorem dX4_showLost_96 : decode cX4_showLost 96 = .ok (.iload_n 2, 1) := by decide +kernel
theorem dX4_showLost_97 : decode cX4_showLost 97 = .ok (.laload, 1) := by decide +kernel
theorem dX4_showLost_98 : decode cX4_showLost 98 = .ok (.lneg, 1) := by decide +kernel
theorem dX4_showLost_99 : decode cX4_showLost 99 = .ok (.goto 14, 3) := by decide +kernel
theorem dX4_showLost_102 : decode cX4_showLost 102 = .ok (.iload 9, 2) := by decide +kernel
theorem dX4_showLost_104 : decode cX4_showLost 104 = .ok (.iload_n 2, 1) := by decide +kernel
theorem dX4_showLost_105 : decode cX4_showLost 105 = .ok (.if_icmp .ne 7, 3) := by decide +kernel
theorem dX4_showLost_108 : decode cX4_showLost 108 = .ok (.lload_n 3, 1) := by decide +kernel
theorem dX4_showLost_109 : decode cX4_showLost 109 = .ok (.goto 4, 3) := by decide +kernel
theorem dX4_showLost_112 : decode cX4_showLost 112 = .ok (.lconst 0, 1) := by decide +kernel
theorem dX4_showLost_113 : decode cX4_showLost 113 = .ok (.lstore 10, 2) := by decide +kernel
theorem dX4_showLost_115 : decode cX4_showLost 115 = .ok (.aload_n 1, 1) := by decide +kernel
theorem dX4_showLost_116 : decode cX4_showLost 116 = .ok (.iconst 1, 1) := by decide +kernel
theorem dX4_showLost_117 : decode cX4_showLost 117 = .ok (.iload 9, 2) := by decide +kernel
theorem dX4_showLost_119 : decode cX4_showLost 119 = .ok (.lload 10, 2) := by decide +kernel
theorem dX4_showLost_121 : decode cX4_showLost 121 = .ok (.lload 7, 2) := by decide +kernel
theorem dX4_showLost_123 : decode cX4_showLost 123 = .ok (.invokestatic 61, 3) := by decide +kernel
theorem dX4_showLost_126 : decode cX4_showLost 126 = .ok (.l2i, 1) := by decide +kernel
theorem dX4_showLost_127 : decode cX4_showLost 127 = .ok (.invokevirtual 76, 3) := by decide +kernel
theorem dX4_showLost_130 : decode cX4_showLost 130 = .ok (.iinc 9 1, 3) := by decide +kernel
theorem dX4_showLost_133 : decode cX4_showLost 133 = .ok (.goto (-59), 3) := by decide +kernel
theorem dX4_showLost_136 : decode cX4_showLost 136 = .ok (.return_, 1) := by decide +kernel
theorem dX4_showSolved_0 : decode cX4_showSolved 0 = .ok (.aload_n 1, 1) := by decide +kernel
theorem dX4_showSolved_1 : decode cX4_showSolved 1 = .ok (.getfield 31, 3) := by decide +kernel
theorem dX4_showSolved_4 : decode cX4_showSolved 4 = .ok (.bipush 14, 2) := by decide +kernel
theorem dX4_showSolved_6 : decode cX4_showSolved 6 = .ok (.invokestatic 37, 3) := by decide +kernel
theorem dX4_showSolved_9 : decode cX4_showSolved 9 = .ok (.istore_n 2, 1) := by decide +kernel
theorem dX4_showSolved_10 : decode cX4_showSolved 10 = .ok (.iconst 0, 1) := by decide +kernel
theorem dX4_showSolved_11 : decode cX4_showSolved 11 = .ok (.istore_n 3, 1) := by decide +kernel
theorem dX4_showSolved_12 : decode cX4_showSolved 12 = .ok (.iload_n 3, 1) := by decide +kernel
theorem dX4_showSolved_13 : decode cX4_showSolved 13 = .ok (.iload_n 2, 1) := by decide +kernel
theorem dX4_showSolved_14 : decode cX4_showSolved 14 = .ok (.if_icmp .ge 126, 3) := by decide +kernel
theorem dX4_showSolved_17 : decode cX4_showSolved 17 = .ok (.lconst 0, 1) := by decide +kernel
theorem dX4_showSolved_18 : decode cX4_showSolved 18 = .ok (.lstore 4, 2) := by decide +kernel
theorem dX4_showSolved_20 : decode cX4_showSolved 20 = .ok (.iconst 0, 1) := by decide +kernel
theorem dX4_showSolved_21 : decode cX4_showSolved 21 = .ok (.istore 6, 2) := by decide +kernel
theorem dX4_showSolved_23 : decode cX4_showSolved 23 = .ok (.iload 6, 2) := by decide +kernel
theorem dX4_showSolved_25 : decode cX4_showSolved 25 = .ok (.iload_n 2, 1) := by decide +kernel
theorem dX4_showSolved_26 : decode cX4_showSolved 26 = .ok (.if_icmp .ge 36, 3) := by decide +kernel
theorem dX4_showSolved_29 : decode cX4_showSolved 29 = .ok (.lload 4, 2) := by decide +kernel
theorem dX4_showSolved_31 : decode cX4_showSolved 31 = .ok (.aload_n 0, 1) := by decide +kernel
theorem dX4_showSolved_32 : decode cX4_showSolved 32 = .ok (.getfield 16, 3) := by decide +kernel
theorem dX4_showSolved_35 : decode cX4_showSolved 35 = .ok (.iload 6, 2) := by decide +kernel
theorem dX4_showSolved_37 : decode cX4_showSolved 37 = .ok (.laload, 1) := by decide +kernel
theorem dX4_showSolved_38 : decode cX4_showSolved 38 = .ok (.aload_n 1, 1) := by decide +kernel
theorem dX4_showSolved_39 : decode cX4_showSolved 39 = .ok (.iconst 2, 1) := by decide +kernel
theorem dX4_showSolved_40 : decode cX4_showSolved 40 = .ok (.aload_n 1, 1) := by decide +kernel
theorem dX4_showSolved_41 : decode cX4_showSolved 41 = .ok (.iload_n 3, 1) := by decide +kernel
theorem dX4_showSolved_42 : decode cX4_showSolved 42 = .ok (.iload 6, 2) := by decide +kernel
theorem dX4_showSolved_44 : decode cX4_showSolved 44 = .ok (.iadd, 1) := by decide +kernel
theorem dX4_showSolved_45 : decode cX4_showSolved 45 = .ok (.invokevirtual 72, 3) := by decide +kernel
theorem dX4_showSolved_48 : decode cX4_showSolved 48 = .ok (.invokevirtual 79, 3) := by decide +kernel
theorem dX4_showSolved_51 : decode cX4_showSolved 51 = .ok (.i2l, 1) := by decide +kernel
theorem dX4_showSolved_52 : decode cX4_showSolved 52 = .ok (.lmul, 1) := by decide +kernel
theorem dX4_showSolved_53 : decode cX4_showSolved 53 = .ok (.ladd, 1) := by decide +kernel
theorem dX4_showSolved_54 : decode cX4_showSolved 54 = .ok (.lstore 4, 2) := by decide +kernel
theorem dX4_showSolved_56 : decode cX4_showSolved 56 = .ok (.iinc 6 1, 3) := by decide +kernel
theorem dX4_showSolved_59 : decode cX4_showSolved 59 = .ok (.goto (-36), 3) := by decide +kernel
theorem dX4_showSolved_62 : decode cX4_showSolved 62 = .ok (.aload_n 0, 1) := by decide +kernel
theorem dX4_showSolved_63 : decode cX4_showSolved 63 = .ok (.getfield 20, 3) := by decide +kernel
theorem dX4_showSolved_66 : decode cX4_showSolved 66 = .ok (.iload_n 3, 1) := by decide +kernel
theorem dX4_showSolved_67 : decode cX4_showSolved 67 = .ok (.lload 4, 2) := by decide +kernel
theorem dX4_showSolved_69 : decode cX4_showSolved 69 = .ok (.aload_n 0, 1) := by decide +kernel
theorem dX4_showSolved_70 : decode cX4_showSolved 70 = .ok (.getfield 23, 3) := by decide +kernel
theorem dX4_showSolved_73 : decode cX4_showSolved 73 = .ok (.invokestatic 61, 3) := by decide +kernel
theorem dX4_showSolved_76 : decode cX4_showSolved 76 = .ok (.lastore, 1) := by decide +kernel
theorem dX4_showSolved_77 : decode cX4_showSolved 77 = .ok (.aload_n 0, 1) := by decide +kernel
theorem dX4_showSolved_78 : decode cX4_showSolved 78 = .ok (.getfield 20, 3) := by decide +kernel
theorem dX4_showSolved_81 : decode cX4_showSolved 81 = .ok (.iload_n 3, 1) := by decide +kernel
theorem dX4_showSolved_82 : decode cX4_showSolved 82 = .ok (.laload, 1) := by decide +kernel
theorem dX4_showSolved_83 : decode cX4_showSolved 83 = .ok (.ldc2_w 82, 3) := by decide +kernel
theorem dX4_showSolved_86 : decode cX4_showSolved 86 = .ok (.lcmp, 1) := by decide +kernel
theorem dX4_showSolved_87 : decode cX4_showSolved 87 = .ok (.ifCond .lt 20, 3) := by decide +kernel
theorem dX4_showSolved_90 : decode cX4_showSolved 90 = .ok (.aload_n 0, 1) := by decide +kernel
theorem dX4_showSolved_91 : decode cX4_showSolved 91 = .ok (.getfield 20, 3) := by decide +kernel
theorem dX4_showSolved_94 : decode cX4_showSolved 94 = .ok (.iload_n 3, 1) := by decide +kernel
theorem dX4_showSolved_95 : decode cX4_showSolved 95 = .ok (.laload, 1) := by decide +kernel
theorem dX4_showSolved_96 : decode cX4_showSolved 96 = .ok (.ldc2_w 84, 3) := by decide +kernel
theorem dX4_showSolved_99 : decode cX4_showSolved 99 = .ok (.lcmp, 1) := by decide +kernel
theorem dX4_showSolved_100 : decode cX4_showSolved 100 = .ok (.ifCond .gt 7, 3) := by decide +kernel
theorem dX4_showSolved_103 : decode cX4_showSolved 103 = .ok (.iconst 1, 1) := by decide +kernel
theorem dX4_showSolved_104 : decode cX4_showSolved 104 = .ok (.goto 4, 3) := by decide +kernel
theorem dX4_showSolved_107 : decode cX4_showSolved 107 = .ok (.iconst 0, 1) := by decide +kernel
theorem dX4_showSolved_108 : decode cX4_showSolved 108 = .ok (.istore 6, 2) := by decide +kernel
theorem dX4_showSolved_110 : decode cX4_showSolved 110 = .ok (.iload 6, 2) := by decide +kernel
theorem dX4_showSolved_112 : decode cX4_showSolved 112 = .ok (.ifCond .eq 20, 3) := by decide +kernel
theorem dX4_showSolved_115 : decode cX4_showSolved 115 = .ok (.aload_n 0, 1) := by decide +kernel
theorem dX4_showSolved_116 : decode cX4_showSolved 116 = .ok (.getfield 20, 3) := by decide +kernel
theorem dX4_showSolved_119 : decode cX4_showSolved 119 = .ok (.iload_n 3, 1) := by decide +kernel
theorem dX4_showSolved_120 : decode cX4_showSolved 120 = .ok (.laload, 1) := by decide +kernel
theorem dX4_showSolved_121 : decode cX4_showSolved 121 = .ok (.aload_n 0, 1) := by decide +kernel
theorem dX4_showSolved_122 : decode cX4_showSolved 122 = .ok (.getfield 23, 3) := by decide +kernel
theorem dX4_showSolved_125 : decode cX4_showSolved 125 = .ok (.lmul, 1) := by decide +kernel
theorem dX4_showSolved_126 : decode cX4_showSolved 126 = .ok (.lload 4, 2) := by decide +kernel
theorem dX4_showSolved_128 : decode cX4_showSolved 128 = .ok (.lcmp, 1) := by decide +kernel
theorem dX4_showSolved_129 : decode cX4_showSolved 129 = .ok (.ifCond .eq 5, 3) := by decide +kernel
theorem dX4_showSolved_132 : decode cX4_showSolved 132 = .ok (.iconst 0, 1) := by decide +kernel
theorem dX4_showSolved_133 : decode cX4_showSolved 133 = .ok (.ireturn, 1) := by decide +kernel
theorem dX4_showSolved_134 : decode cX4_showSolved 134 = .ok (.iinc 3 1, 3) := by decide +kernel
theorem dX4_showSolved_137 : decode cX4_showSolved 137 = .ok (.goto (-125), 3) := by decide +kernel
theorem dX4_showSolved_140 : decode cX4_showSolved 140 = .ok (.iconst 0, 1) := by decide +kernel
theorem dX4_showSolved_141 : decode cX4_showSolved 141 = .ok (.istore_n 3, 1) := by decide +kernel
theorem dX4_showSolved_142 : decode cX4_showSolved 142 = .ok (.iload_n 3, 1) := by decide +kernel
theorem dX4_showSolved_143 : decode cX4_showSolved 143 = .ok (.iload_n 2, 1) := by decide +kernel
theorem dX4_showSolved_144 : decode cX4_showSolved 144 = .ok (.if_icmp .ge 22, 3) := by decide +kernel
theorem dX4_showSolved_147 : decode cX4_showSolved 147 = .ok (.aload_n 1, 1) := by decide +kernel
theorem dX4_showSolved_148 : decode cX4_showSolved 148 = .ok (.iconst 1, 1) := by decide +kernel
theorem dX4_showSolved_149 : decode cX4_showSolved 149 = .ok (.iload_n 3, 1) := by decide +kernel
theorem dX4_showSolved_150 : decode cX4_showSolved 150 = .ok (.aload_n 0, 1) := by decide +kernel
theorem dX4_showSolved_151 : decode cX4_showSolved 151 = .ok (.getfield 20, 3) := by decide +kernel
theorem dX4_showSolved_154 : decode cX4_showSolved 154 = .ok (.iload_n 3, 1) := by decide +kernel
theorem dX4_showSolved_155 : decode cX4_showSolved 155 = .ok (.laload, 1) := by decide +kernel
theorem dX4_showSolved_156 : decode cX4_showSolved 156 = .ok (.l2i, 1) := by decide +kernel
theorem dX4_showSolved_157 : decode cX4_showSolved 157 = .ok (.invokevirtual 76, 3) := by decide +kernel
theorem dX4_showSolved_160 : decode cX4_showSolved 160 = .ok (.iinc 3 1, 3) := by decide +kernel
theorem dX4_showSolved_163 : decode cX4_showSolved 163 = .ok (.goto (-21), 3) := by decide +kernel
theorem dX4_showSolved_166 : decode cX4_showSolved 166 = .ok (.iconst 1, 1) := by decide +kernel
theorem dX4_showSolved_167 : decode cX4_showSolved 167 = .ok (.ireturn, 1) := by decide +kernel
