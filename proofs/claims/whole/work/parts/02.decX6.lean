theorem dX6_init_0 : decode cX6_init 0 = .ok (.aload_n 0, 1) := by decide +kernel
theorem dX6_init_1 : decode cX6_init 1 = .ok (.invokespecial 1, 3) := by decide +kernel
theorem dX6_init_4 : decode cX6_init 4 = .ok (.aload_n 0, 1) := by decide +kernel
theorem dX6_init_5 : decode cX6_init 5 = .ok (.iconst 1, 1) := by decide +kernel
theorem dX6_init_6 : decode cX6_init 6 = .ok (.putfield 7, 3) := by decide +kernel
theorem dX6_init_9 : decode cX6_init 9 = .ok (.aload_n 0, 1) := by decide +kernel
theorem dX6_init_10 : decode cX6_init 10 = .ok (.bipush 60, 2) := by decide +kernel
theorem dX6_init_12 : decode cX6_init 12 = .ok (.newarray .int, 2) := by decide +kernel
theorem dX6_init_14 : decode cX6_init 14 = .ok (.putfield 13, 3) := by decide +kernel
theorem dX6_init_17 : decode cX6_init 17 = .ok (.aload_n 0, 1) := by decide +kernel
theorem dX6_init_18 : decode cX6_init 18 = .ok (.bipush 60, 2) := by decide +kernel
theorem dX6_init_20 : decode cX6_init 20 = .ok (.newarray .int, 2) := by decide +kernel
theorem dX6_init_22 : decode cX6_init 22 = .ok (.putfield 17, 3) := by decide +kernel
theorem dX6_init_25 : decode cX6_init 25 = .ok (.aload_n 0, 1) := by decide +kernel
theorem dX6_init_26 : decode cX6_init 26 = .ok (.bipush 60, 2) := by decide +kernel
theorem dX6_init_28 : decode cX6_init 28 = .ok (.newarray .int, 2) := by decide +kernel
theorem dX6_init_30 : decode cX6_init 30 = .ok (.putfield 20, 3) := by decide +kernel
theorem dX6_init_33 : decode cX6_init 33 = .ok (.aload_n 0, 1) := by decide +kernel
theorem dX6_init_34 : decode cX6_init 34 = .ok (.bipush 60, 2) := by decide +kernel
theorem dX6_init_36 : decode cX6_init 36 = .ok (.newarray .boolean, 2) := by decide +kernel
theorem dX6_init_38 : decode cX6_init 38 = .ok (.putfield 23, 3) := by decide +kernel
theorem dX6_init_41 : decode cX6_init 41 = .ok (.aload_n 0, 1) := by decide +kernel
theorem dX6_init_42 : decode cX6_init 42 = .ok (.iconst (-1), 1) := by decide +kernel
theorem dX6_init_43 : decode cX6_init 43 = .ok (.putfield 27, 3) := by decide +kernel
theorem dX6_init_46 : decode cX6_init 46 = .ok (.aload_n 0, 1) := by decide +kernel
theorem dX6_init_47 : decode cX6_init 47 = .ok (.bipush 60, 2) := by decide +kernel
theorem dX6_init_49 : decode cX6_init 49 = .ok (.newarray .int, 2) := by decide +kernel
theorem dX6_init_51 : decode cX6_init 51 = .ok (.putfield 30, 3) := by decide +kernel
theorem dX6_init_54 : decode cX6_init 54 = .ok (.aload_n 0, 1) := by decide +kernel
theorem dX6_init_55 : decode cX6_init 55 = .ok (.bipush 14, 2) := by decide +kernel
theorem dX6_init_57 : decode cX6_init 57 = .ok (.newarray .long, 2) := by decide +kernel
theorem dX6_init_59 : decode cX6_init 59 = .ok (.putfield 33, 3) := by decide +kernel
theorem dX6_init_62 : decode cX6_init 62 = .ok (.aload_n 0, 1) := by decide +kernel
theorem dX6_init_63 : decode cX6_init 63 = .ok (.iconst (-1), 1) := by decide +kernel
theorem dX6_init_64 : decode cX6_init 64 = .ok (.putfield 37, 3) := by decide +kernel
theorem dX6_init_67 : decode cX6_init 67 = .ok (.aload_n 0, 1) := by decide +kernel
theorem dX6_init_68 : decode cX6_init 68 = .ok (.sipush 1024, 3) := by decide +kernel
theorem dX6_init_71 : decode cX6_init 71 = .ok (.newarray .int, 2) := by decide +kernel
theorem dX6_init_73 : decode cX6_init 73 = .ok (.putfield 40, 3) := by decide +kernel
theorem dX6_init_76 : decode cX6_init 76 = .ok (.aload_n 0, 1) := by decide +kernel
theorem dX6_init_77 : decode cX6_init 77 = .ok (.sipush 800, 3) := by decide +kernel
theorem dX6_init_80 : decode cX6_init 80 = .ok (.newarray .int, 2) := by decide +kernel
theorem dX6_init_82 : decode cX6_init 82 = .ok (.putfield 43, 3) := by decide +kernel
theorem dX6_init_85 : decode cX6_init 85 = .ok (.aload_n 0, 1) := by decide +kernel
theorem dX6_init_86 : decode cX6_init 86 = .ok (.sipush 210, 3) := by decide +kernel
theorem dX6_init_89 : decode cX6_init 89 = .ok (.newarray .long, 2) := by decide +kernel
theorem dX6_init_91 : decode cX6_init 91 = .ok (.putfield 46, 3) := by decide +kernel
theorem dX6_init_94 : decode cX6_init 94 = .ok (.aload_n 0, 1) := by decide +kernel
theorem dX6_init_95 : decode cX6_init 95 = .ok (.bipush 15, 2) := by decide +kernel
theorem dX6_init_97 : decode cX6_init 97 = .ok (.newarray .long, 2) := by decide +kernel
theorem dX6_init_99 : decode cX6_init 99 = .ok (.putfield 49, 3) := by decide +kernel
theorem dX6_init_102 : decode cX6_init 102 = .ok (.aload_n 0, 1) := by decide +kernel
theorem dX6_init_103 : decode cX6_init 103 = .ok (.bipush 14, 2) := by decide +kernel
theorem dX6_init_105 : decode cX6_init 105 = .ok (.newarray .long, 2) := by decide +kernel
theorem dX6_init_107 : decode cX6_init 107 = .ok (.putfield 52, 3) := by decide +kernel
theorem dX6_init_110 : decode cX6_init 110 = .ok (.aload_n 0, 1) := by decide +kernel
theorem dX6_init_111 : decode cX6_init 111 = .ok (.bipush 60, 2) := by decide +kernel
theorem dX6_init_113 : decode cX6_init 113 = .ok (.newarray .int, 2) := by decide +kernel
theorem dX6_init_115 : decode cX6_init 115 = .ok (.putfield 55, 3) := by decide +kernel
theorem dX6_init_118 : decode cX6_init 118 = .ok (.return_, 1) := by decide +kernel
theorem dX6_thrown_0 : decode cX6_thrown 0 = .ok (.aload_n 0, 1) := by decide +kernel
theorem dX6_thrown_1 : decode cX6_thrown 1 = .ok (.getfield 58, 3) := by decide +kernel
theorem dX6_thrown_4 : decode cX6_thrown 4 = .ok (.ireturn, 1) := by decide +kernel
theorem dX6_no_0 : decode cX6_no 0 = .ok (.aload_n 0, 1) := by decide +kernel
theorem dX6_no_1 : decode cX6_no 1 = .ok (.iload_n 1, 1) := by decide +kernel
theorem dX6_no_2 : decode cX6_no 2 = .ok (.putfield 61, 3) := by decide +kernel
theorem dX6_no_5 : decode cX6_no 5 = .ok (.iconst (-1), 1) := by decide +kernel
theorem dX6_no_6 : decode cX6_no 6 = .ok (.ireturn, 1) := by decide +kernel
theorem dX6_not_0 : decode cX6_not 0 = .ok (.aload_n 0, 1) := by decide +kernel
theorem dX6_not_1 : decode cX6_not 1 = .ok (.iload_n 1, 1) := by decide +kernel
theorem dX6_not_2 : decode cX6_not 2 = .ok (.putfield 61, 3) := by decide +kernel
theorem dX6_not_5 : decode cX6_not 5 = .ok (.iconst 0, 1) := by decide +kernel
theorem dX6_not_6 : decode cX6_not 6 = .ok (.ireturn, 1) := by decide +kernel
theorem dX6_start_0 : decode cX6_start 0 = .ok (.aload_n 0, 1) := by decide +kernel
theorem dX6_start_1 : decode cX6_start 1 = .ok (.iconst 0, 1) := by decide +kernel
theorem dX6_start_2 : decode cX6_start 2 = .ok (.putfield 61, 3) := by decide +kernel
theorem dX6_start_5 : decode cX6_start 5 = .ok (.return_, 1) := by decide +kernel
theorem dX6_isPlace_0 : decode cX6_isPlace 0 = .ok (.iload_n 1, 1) := by decide +kernel
theorem dX6_isPlace_1 : decode cX6_isPlace 1 = .ok (.ifCond .lt 15, 3) := by decide +kernel
theorem dX6_isPlace_4 : decode cX6_isPlace 4 = .ok (.iload_n 1, 1) := by decide +kernel
theorem dX6_isPlace_5 : decode cX6_isPlace 5 = .ok (.aload_n 0, 1) := by decide +kernel
theorem dX6_isPlace_6 : decode cX6_isPlace 6 = .ok (.getfield 7, 3) := by decide +kernel
theorem dX6_isPlace_9 : decode cX6_isPlace 9 = .ok (.if_icmp .ge 7, 3) := by decide +kernel
theorem dX6_isPlace_12 : decode cX6_isPlace 12 = .ok (.iconst 1, 1) := by decide +kernel
theorem dX6_isPlace_13 : decode cX6_isPlace 13 = .ok (.goto 4, 3) := by decide +kernel
theorem dX6_isPlace_16 : decode cX6_isPlace 16 = .ok (.iconst 0, 1) := by decide +kernel
theorem dX6_isPlace_17 : decode cX6_isPlace 17 = .ok (.ireturn, 1) := by decide +kernel
theorem dX6_begin_0 : decode cX6_begin 0 = .ok (.aload_n 0, 1) := by decide +kernel
theorem dX6_begin_1 : decode cX6_begin 1 = .ok (.iload_n 1, 1) := by decide +kernel
theorem dX6_begin_2 : decode cX6_begin 2 = .ok (.putfield 7, 3) := by decide +kernel
theorem dX6_begin_5 : decode cX6_begin 5 = .ok (.iconst 0, 1) := by decide +kernel
theorem dX6_begin_6 : decode cX6_begin 6 = .ok (.istore_n 2, 1) := by decide +kernel
theorem dX6_begin_7 : decode cX6_begin 7 = .ok (.iload_n 2, 1) := by decide +kernel
theorem dX6_begin_8 : decode cX6_begin 8 = .ok (.bipush 60, 2) := by decide +kernel
theorem dX6_begin_10 : decode cX6_begin 10 = .ok (.if_icmp .ge 37, 3) := by decide +kernel
theorem dX6_begin_13 : decode cX6_begin 13 = .ok (.aload_n 0, 1) := by decide +kernel
theorem dX6_begin_14 : decode cX6_begin 14 = .ok (.getfield 13, 3) := by decide +kernel
theorem dX6_begin_17 : decode cX6_begin 17 = .ok (.iload_n 2, 1) := by decide +kernel
theorem dX6_begin_18 : decode cX6_begin 18 = .ok (.iconst 0, 1) := by decide +kernel
theorem dX6_begin_19 : decode cX6_begin 19 = .ok (.iastore, 1) := by decide +kernel
theorem dX6_begin_20 : decode cX6_begin 20 = .ok (.aload_n 0, 1) := by decide +kernel
theorem dX6_begin_21 : decode cX6_begin 21 = .ok (.getfield 17, 3) := by decide +kernel
theorem dX6_begin_24 : decode cX6_begin 24 = .ok (.iload_n 2, 1) := by decide +kernel
theorem dX6_begin_25 : decode cX6_begin 25 = .ok (.iconst 0, 1) := by decide +kernel
theorem dX6_begin_26 : decode cX6_begin 26 = .ok (.iastore, 1) := by decide +kernel
theorem dX6_begin_27 : decode cX6_begin 27 = .ok (.aload_n 0, 1) := by decide +kernel
theorem dX6_begin_28 : decode cX6_begin 28 = .ok (.getfield 20, 3) := by decide +kernel
theorem dX6_begin_31 : decode cX6_begin 31 = .ok (.iload_n 2, 1) := by decide +kernel
theorem dX6_begin_32 : decode cX6_begin 32 = .ok (.iconst 0, 1) := by decide +kernel
theorem dX6_begin_33 : decode cX6_begin 33 = .ok (.iastore, 1) := by decide +kernel
theorem dX6_begin_34 : decode cX6_begin 34 = .ok (.aload_n 0, 1) := by decide +kernel
theorem dX6_begin_35 : decode cX6_begin 35 = .ok (.getfield 23, 3) := by decide +kernel
theorem dX6_begin_38 : decode cX6_begin 38 = .ok (.iload_n 2, 1) := by decide +kernel
theorem dX6_begin_39 : decode cX6_begin 39 = .ok (.iconst 0, 1) := by decide +kernel
theorem dX6_begin_40 : decode cX6_begin 40 = .ok (.bastore, 1) := by decide +kernel
theorem dX6_begin_41 : decode cX6_begin 41 = .ok (.iinc 2 1, 3) := by decide +kernel
theorem dX6_begin_44 : decode cX6_begin 44 = .ok (.goto (-37), 3) := by decide +kernel
theorem dX6_begin_47 : decode cX6_begin 47 = .ok (.aload_n 0, 1) := by decide +kernel
theorem dX6_begin_48 : decode cX6_begin 48 = .ok (.lconst 0, 1) := by decide +kernel
theorem dX6_begin_49 : decode cX6_begin 49 = .ok (.putfield 64, 3) := by decide +kernel
theorem dX6_begin_52 : decode cX6_begin 52 = .ok (.return_, 1) := by decide +kernel
theorem dX6_ring_0 : decode cX6_ring 0 = .ok (.aload_n 0, 1) := by decide +kernel
theorem dX6_ring_1 : decode cX6_ring 1 = .ok (.invokevirtual 68, 3) := by decide +kernel
theorem dX6_ring_4 : decode cX6_ring 4 = .ok (.iload_n 1, 1) := by decide +kernel
theorem dX6_ring_5 : decode cX6_ring 5 = .ok (.iconst 1, 1) := by decide +kernel
theorem dX6_ring_6 : decode cX6_ring 6 = .ok (.if_icmp .lt 9, 3) := by decide +kernel
theorem dX6_ring_9 : decode cX6_ring 9 = .ok (.iload_n 1, 1) := by decide +kernel
theorem dX6_ring_10 : decode cX6_ring 10 = .ok (.bipush 60, 2) := by decide +kernel
theorem dX6_ring_12 : decode cX6_ring 12 = .ok (.if_icmp .le 9, 3) := by decide +kernel
theorem dX6_ring_15 : decode cX6_ring 15 = .ok (.aload_n 0, 1) := by decide +kernel
theorem dX6_ring_16 : decode cX6_ring 16 = .ok (.iconst 1, 1) := by decide +kernel
theorem dX6_ring_17 : decode cX6_ring 17 = .ok (.invokevirtual 71, 3) := by decide +kernel
theorem dX6_ring_20 : decode cX6_ring 20 = .ok (.ireturn, 1) := by decide +kernel
theorem dX6_ring_21 : decode cX6_ring 21 = .ok (.aload_n 0, 1) := by decide +kernel
theorem dX6_ring_22 : decode cX6_ring 22 = .ok (.iload_n 1, 1) := by decide +kernel
theorem dX6_ring_23 : decode cX6_ring 23 = .ok (.invokevirtual 75, 3) := by decide +kernel
theorem dX6_ring_26 : decode cX6_ring 26 = .ok (.iconst 1, 1) := by decide +kernel
theorem dX6_ring_27 : decode cX6_ring 27 = .ok (.ireturn, 1) := by decide +kernel
theorem dX6_sheet_0 : decode cX6_sheet 0 = .ok (.aload_n 0, 1) := by decide +kernel
theorem dX6_sheet_1 : decode cX6_sheet 1 = .ok (.invokevirtual 68, 3) := by decide +kernel
theorem dX6_sheet_4 : decode cX6_sheet 4 = .ok (.iload_n 1, 1) := by decide +kernel
theorem dX6_sheet_5 : decode cX6_sheet 5 = .ok (.ifCond .lt 19, 3) := by decide +kernel
theorem dX6_sheet_8 : decode cX6_sheet 8 = .ok (.iload_n 1, 1) := by decide +kernel
theorem dX6_sheet_9 : decode cX6_sheet 9 = .ok (.iconst 3, 1) := by decide +kernel
theorem dX6_sheet_10 : decode cX6_sheet 10 = .ok (.if_icmp .gt 14, 3) := by decide +kernel
theorem dX6_sheet_13 : decode cX6_sheet 13 = .ok (.iload_n 1, 1) := by decide +kernel
theorem dX6_sheet_14 : decode cX6_sheet 14 = .ok (.iconst 3, 1) := by decide +kernel
theorem dX6_sheet_15 : decode cX6_sheet 15 = .ok (.if_icmp .ge 15, 3) := by decide +kernel
theorem dX6_sheet_18 : decode cX6_sheet 18 = .ok (.iload_n 2, 1) := by decide +kernel
theorem dX6_sheet_19 : decode cX6_sheet 19 = .ok (.bipush 60, 2) := by decide +kernel
theorem dX6_sheet_21 : decode cX6_sheet 21 = .ok (.if_icmp .le 9, 3) := by decide +kernel
theorem dX6_sheet_24 : decode cX6_sheet 24 = .ok (.aload_n 0, 1) := by decide +kernel
theorem dX6_sheet_25 : decode cX6_sheet 25 = .ok (.iconst 1, 1) := by decide +kernel
theorem dX6_sheet_26 : decode cX6_sheet 26 = .ok (.invokevirtual 79, 3) := by decide +kernel
theorem dX6_sheet_29 : decode cX6_sheet 29 = .ok (.ireturn, 1) := by decide +kernel
theorem dX6_sheet_30 : decode cX6_sheet 30 = .ok (.iload_n 1, 1) := by decide +kernel
theorem dX6_sheet_31 : decode cX6_sheet 31 = .ok (.iconst 3, 1) := by decide +kernel
theorem dX6_sheet_32 : decode cX6_sheet 32 = .ok (.if_icmp .ge 13, 3) := by decide +kernel
theorem dX6_sheet_35 : decode cX6_sheet 35 = .ok (.iload_n 2, 1) := by decide +kernel
theorem dX6_sheet_36 : decode cX6_sheet 36 = .ok (.ifCond .ge 9, 3) := by decide +kernel
theorem dX6_sheet_39 : decode cX6_sheet 39 = .ok (.aload_n 0, 1) := by decide +kernel
theorem dX6_sheet_40 : decode cX6_sheet 40 = .ok (.iconst 4, 1) := by decide +kernel
theorem dX6_sheet_41 : decode cX6_sheet 41 = .ok (.invokevirtual 79, 3) := by decide +kernel
theorem dX6_sheet_44 : decode cX6_sheet 44 = .ok (.ireturn, 1) := by decide +kernel
theorem dX6_sheet_45 : decode cX6_sheet 45 = .ok (.aload_n 0, 1) := by decide +kernel
theorem dX6_sheet_46 : decode cX6_sheet 46 = .ok (.iload_n 1, 1) := by decide +kernel
theorem dX6_sheet_47 : decode cX6_sheet 47 = .ok (.putfield 27, 3) := by decide +kernel
theorem dX6_sheet_50 : decode cX6_sheet 50 = .ok (.aload_n 0, 1) := by decide +kernel
theorem dX6_sheet_51 : decode cX6_sheet 51 = .ok (.iload_n 1, 1) := by decide +kernel
theorem dX6_sheet_52 : decode cX6_sheet 52 = .ok (.iconst 3, 1) := by decide +kernel
theorem dX6_sheet_53 : decode cX6_sheet 53 = .ok (.if_icmp .ne 7, 3) := by decide +kernel
theorem dX6_sheet_56 : decode cX6_sheet 56 = .ok (.iconst 0, 1) := by decide +kernel
theorem dX6_sheet_57 : decode cX6_sheet 57 = .ok (.goto 4, 3) := by decide +kernel
theorem dX6_sheet_60 : decode cX6_sheet 60 = .ok (.iload_n 2, 1) := by decide +kernel
theorem dX6_sheet_61 : decode cX6_sheet 61 = .ok (.putfield 83, 3) := by decide +kernel
theorem dX6_sheet_64 : decode cX6_sheet 64 = .ok (.iconst 0, 1) := by decide +kernel
theorem dX6_sheet_65 : decode cX6_sheet 65 = .ok (.istore_n 3, 1) := by decide +kernel
theorem dX6_sheet_66 : decode cX6_sheet 66 = .ok (.iload_n 3, 1) := by decide +kernel
theorem dX6_sheet_67 : decode cX6_sheet 67 = .ok (.bipush 60, 2) := by decide +kernel
theorem dX6_sheet_69 : decode cX6_sheet 69 = .ok (.if_icmp .ge 16, 3) := by decide +kernel
theorem dX6_sheet_72 : decode cX6_sheet 72 = .ok (.aload_n 0, 1) := by decide +kernel
theorem dX6_sheet_73 : decode cX6_sheet 73 = .ok (.getfield 30, 3) := by decide +kernel
theorem dX6_sheet_76 : decode cX6_sheet 76 = .ok (.iload_n 3, 1) := by decide +kernel
theorem dX6_sheet_77 : decode cX6_sheet 77 = .ok (.iconst 0, 1) := by decide +kernel
theorem dX6_sheet_78 : decode cX6_sheet 78 = .ok (.iastore, 1) := by decide +kernel
theorem dX6_sheet_79 : decode cX6_sheet 79 = .ok (.iinc 3 1, 3) := by decide +kernel
theorem dX6_sheet_82 : decode cX6_sheet 82 = .ok (.goto (-16), 3) := by decide +kernel
theorem dX6_sheet_85 : decode cX6_sheet 85 = .ok (.aload_n 0, 1) := by decide +kernel
theorem dX6_sheet_86 : decode cX6_sheet 86 = .ok (.getfield 83, 3) := by decide +kernel
theorem dX6_sheet_89 : decode cX6_sheet 89 = .ok (.ireturn, 1) := by decide +kernel
theorem dX6_entry_0 : decode cX6_entry 0 = .ok (.aload_n 0, 1) := by decide +kernel
theorem dX6_entry_1 : decode cX6_entry 1 = .ok (.invokevirtual 68, 3) := by decide +kernel
theorem dX6_entry_4 : decode cX6_entry 4 = .ok (.aload_n 0, 1) := by decide +kernel
theorem dX6_entry_5 : decode cX6_entry 5 = .ok (.getfield 27, 3) := by decide +kernel
theorem dX6_entry_8 : decode cX6_entry 8 = .ok (.iconst (-1), 1) := by decide +kernel
theorem dX6_entry_9 : decode cX6_entry 9 = .ok (.if_icmp .eq 11, 3) := by decide +kernel
theorem dX6_entry_12 : decode cX6_entry 12 = .ok (.aload_n 0, 1) := by decide +kernel
theorem dX6_entry_13 : decode cX6_entry 13 = .ok (.getfield 27, 3) := by decide +kernel
theorem dX6_entry_16 : decode cX6_entry 16 = .ok (.iconst 3, 1) := by decide +kernel
theorem dX6_entry_17 : decode cX6_entry 17 = .ok (.if_icmp .ne 9, 3) := by decide +kernel
theorem dX6_entry_20 : decode cX6_entry 20 = .ok (.aload_n 0, 1) := by decide +kernel
theorem dX6_entry_21 : decode cX6_entry 21 = .ok (.iconst 2, 1) := by decide +kernel
theorem dX6_entry_22 : decode cX6_entry 22 = .ok (.invokevirtual 71, 3) := by decide +kernel
theorem dX6_entry_25 : decode cX6_entry 25 = .ok (.ireturn, 1) := by decide +kernel
theorem dX6_entry_26 : decode cX6_entry 26 = .ok (.iload_n 1, 1) := by decide +kernel
theorem dX6_entry_27 : decode cX6_entry 27 = .ok (.ifCond .lt 11, 3) := by decide +kernel
theorem dX6_entry_30 : decode cX6_entry 30 = .ok (.iload_n 1, 1) := by decide +kernel
theorem dX6_entry_31 : decode cX6_entry 31 = .ok (.aload_n 0, 1) := by decide +kernel
theorem dX6_entry_32 : decode cX6_entry 32 = .ok (.getfield 83, 3) := by decide +kernel
theorem dX6_entry_35 : decode cX6_entry 35 = .ok (.if_icmp .lt 9, 3) := by decide +kernel
theorem dX6_entry_38 : decode cX6_entry 38 = .ok (.aload_n 0, 1) := by decide +kernel
theorem dX6_entry_39 : decode cX6_entry 39 = .ok (.iconst 1, 1) := by decide +kernel
theorem dX6_entry_40 : decode cX6_entry 40 = .ok (.invokevirtual 71, 3) := by decide +kernel
theorem dX6_entry_43 : decode cX6_entry 43 = .ok (.ireturn, 1) := by decide +kernel
theorem dX6_entry_44 : decode cX6_entry 44 = .ok (.bipush 32, 2) := by decide +kernel
theorem dX6_entry_46 : decode cX6_entry 46 = .ok (.bipush 8, 2) := by decide +kernel
theorem dX6_entry_48 : decode cX6_entry 48 = .ok (.aload_n 0, 1) := by decide +kernel
theorem dX6_entry_49 : decode cX6_entry 49 = .ok (.getfield 27, 3) := by decide +kernel
theorem dX6_entry_52 : decode cX6_entry 52 = .ok (.ishl, 1) := by decide +kernel
theorem dX6_entry_53 : decode cX6_entry 53 = .ok (.isub, 1) := by decide +kernel
theorem dX6_entry_54 : decode cX6_entry 54 = .ok (.istore_n 3, 1) := by decide +kernel
theorem dX6_entry_55 : decode cX6_entry 55 = .ok (.aload_n 0, 1) := by decide +kernel
theorem dX6_entry_56 : decode cX6_entry 56 = .ok (.getfield 30, 3) := by decide +kernel
theorem dX6_entry_59 : decode cX6_entry 59 = .ok (.iload_n 1, 1) := by decide +kernel
theorem dX6_entry_60 : decode cX6_entry 60 = .ok (.iload_n 2, 1) := by decide +kernel
theorem dX6_entry_61 : decode cX6_entry 61 = .ok (.iload_n 3, 1) := by decide +kernel
theorem dX6_entry_62 : decode cX6_entry 62 = .ok (.ishl, 1) := by decide +kernel
theorem dX6_entry_63 : decode cX6_entry 63 = .ok (.iload_n 3, 1) := by decide +kernel
theorem dX6_entry_64 : decode cX6_entry 64 = .ok (.ishr, 1) := by decide +kernel
theorem dX6_entry_65 : decode cX6_entry 65 = .ok (.iastore, 1) := by decide +kernel
theorem dX6_entry_66 : decode cX6_entry 66 = .ok (.iconst 1, 1) := by decide +kernel
theorem dX6_entry_67 : decode cX6_entry 67 = .ok (.ireturn, 1) := by decide +kernel
theorem dX6_most_0 : decode cX6_most 0 = .ok (.iload_n 0, 1) := by decide +kernel
theorem dX6_most_1 : decode cX6_most 1 = .ok (.ifCond .ne 7, 3) := by decide +kernel
theorem dX6_most_4 : decode cX6_most 4 = .ok (.iconst 1, 1) := by decide +kernel
theorem dX6_most_5 : decode cX6_most 5 = .ok (.goto 16, 3) := by decide +kernel
theorem dX6_most_8 : decode cX6_most 8 = .ok (.iload_n 0, 1) := by decide +kernel
theorem dX6_most_9 : decode cX6_most 9 = .ok (.iconst 1, 1) := by decide +kernel
theorem dX6_most_10 : decode cX6_most 10 = .ok (.if_icmp .ne 9, 3) := by decide +kernel
theorem dX6_most_13 : decode cX6_most 13 = .ok (.sipush 1000, 3) := by decide +kernel
theorem dX6_most_16 : decode cX6_most 16 = .ok (.goto 5, 3) := by decide +kernel
theorem dX6_most_19 : decode cX6_most 19 = .ok (.ldc 86, 2) := by decide +kernel
theorem dX6_most_21 : decode cX6_most 21 = .ok (.ireturn, 1) := by decide +kernel
theorem dX6_lay_0 : decode cX6_lay 0 = .ok (.aload_n 0, 1) := by decide +kernel
theorem dX6_lay_1 : decode cX6_lay 1 = .ok (.invokevirtual 68, 3) := by decide +kernel
theorem dX6_lay_4 : decode cX6_lay 4 = .ok (.iload_n 1, 1) := by decide +kernel
theorem dX6_lay_5 : decode cX6_lay 5 = .ok (.ifCond .lt 8, 3) := by decide +kernel
theorem dX6_lay_8 : decode cX6_lay 8 = .ok (.iload_n 1, 1) := by decide +kernel
theorem dX6_lay_9 : decode cX6_lay 9 = .ok (.iconst 2, 1) := by decide +kernel
theorem dX6_lay_10 : decode cX6_lay 10 = .ok (.if_icmp .le 9, 3) := by decide +kernel
theorem dX6_lay_13 : decode cX6_lay 13 = .ok (.aload_n 0, 1) := by decide +kernel
theorem dX6_lay_14 : decode cX6_lay 14 = .ok (.iconst 1, 1) := by decide +kernel
theorem dX6_lay_15 : decode cX6_lay 15 = .ok (.invokevirtual 71, 3) := by decide +kernel
theorem dX6_lay_18 : decode cX6_lay 18 = .ok (.ireturn, 1) := by decide +kernel
theorem dX6_lay_19 : decode cX6_lay 19 = .ok (.aload_n 0, 1) := by decide +kernel
theorem dX6_lay_20 : decode cX6_lay 20 = .ok (.getfield 27, 3) := by decide +kernel
theorem dX6_lay_23 : decode cX6_lay 23 = .ok (.iconst (-1), 1) := by decide +kernel
theorem dX6_lay_24 : decode cX6_lay 24 = .ok (.if_icmp .ne 9, 3) := by decide +kernel
theorem dX6_lay_27 : decode cX6_lay 27 = .ok (.aload_n 0, 1) := by decide +kernel
theorem dX6_lay_28 : decode cX6_lay 28 = .ok (.iconst 2, 1) := by decide +kernel
theorem dX6_lay_29 : decode cX6_lay 29 = .ok (.invokevirtual 71, 3) := by decide +kernel
theorem dX6_lay_32 : decode cX6_lay 32 = .ok (.ireturn, 1) := by decide +kernel
theorem dX6_lay_33 : decode cX6_lay 33 = .ok (.iconst 0, 1) := by decide +kernel
theorem dX6_lay_34 : decode cX6_lay 34 = .ok (.istore_n 2, 1) := by decide +kernel
theorem dX6_lay_35 : decode cX6_lay 35 = .ok (.iload_n 2, 1) := by decide +kernel
theorem dX6_lay_36 : decode cX6_lay 36 = .ok (.aload_n 0, 1) := by decide +kernel
theorem dX6_lay_37 : decode cX6_lay 37 = .ok (.getfield 7, 3) := by decide +kernel
theorem dX6_lay_40 : decode cX6_lay 40 = .ok (.if_icmp .ge 42, 3) := by decide +kernel
theorem dX6_lay_43 : decode cX6_lay 43 = .ok (.aload_n 0, 1) := by decide +kernel
theorem dX6_lay_44 : decode cX6_lay 44 = .ok (.getfield 30, 3) := by decide +kernel
theorem dX6_lay_47 : decode cX6_lay 47 = .ok (.iload_n 2, 1) := by decide +kernel
theorem dX6_lay_48 : decode cX6_lay 48 = .ok (.iaload, 1) := by decide +kernel
theorem dX6_lay_49 : decode cX6_lay 49 = .ok (.iload_n 1, 1) := by decide +kernel
theorem dX6_lay_50 : decode cX6_lay 50 = .ok (.invokestatic 87, 3) := by decide +kernel
theorem dX6_lay_53 : decode cX6_lay 53 = .ok (.ineg, 1) := by decide +kernel
theorem dX6_lay_54 : decode cX6_lay 54 = .ok (.if_icmp .lt 16, 3) := by decide +kernel
theorem dX6_lay_57 : decode cX6_lay 57 = .ok (.aload_n 0, 1) := by decide +kernel
theorem dX6_lay_58 : decode cX6_lay 58 = .ok (.getfield 30, 3) := by decide +kernel
theorem dX6_lay_61 : decode cX6_lay 61 = .ok (.iload_n 2, 1) := by decide +kernel
theorem dX6_lay_62 : decode cX6_lay 62 = .ok (.iaload, 1) := by decide +kernel
theorem dX6_lay_63 : decode cX6_lay 63 = .ok (.iload_n 1, 1) := by decide +kernel
theorem dX6_lay_64 : decode cX6_lay 64 = .ok (.invokestatic 87, 3) := by decide +kernel
theorem dX6_lay_67 : decode cX6_lay 67 = .ok (.if_icmp .le 9, 3) := by decide +kernel
theorem dX6_lay_70 : decode cX6_lay 70 = .ok (.aload_n 0, 1) := by decide +kernel
theorem dX6_lay_71 : decode cX6_lay 71 = .ok (.iconst 1, 1) := by decide +kernel
theorem dX6_lay_72 : decode cX6_lay 72 = .ok (.invokevirtual 71, 3) := by decide +kernel
theorem dX6_lay_75 : decode cX6_lay 75 = .ok (.ireturn, 1) := by decide +kernel
theorem dX6_lay_76 : decode cX6_lay 76 = .ok (.iinc 2 1, 3) := by decide +kernel
theorem dX6_lay_79 : decode cX6_lay 79 = .ok (.goto (-44), 3) := by decide +kernel
theorem dX6_lay_82 : decode cX6_lay 82 = .ok (.iconst 0, 1) := by decide +kernel
theorem dX6_lay_83 : decode cX6_lay 83 = .ok (.istore_n 2, 1) := by decide +kernel
theorem dX6_lay_84 : decode cX6_lay 84 = .ok (.iload_n 2, 1) := by decide +kernel
theorem dX6_lay_85 : decode cX6_lay 85 = .ok (.aload_n 0, 1) := by decide +kernel
theorem dX6_lay_86 : decode cX6_lay 86 = .ok (.getfield 7, 3) := by decide +kernel
theorem dX6_lay_89 : decode cX6_lay 89 = .ok (.if_icmp .ge 21, 3) := by decide +kernel
theorem dX6_lay_92 : decode cX6_lay 92 = .ok (.aload_n 0, 1) := by decide +kernel
theorem dX6_lay_93 : decode cX6_lay 93 = .ok (.iload_n 1, 1) := by decide +kernel
theorem dX6_lay_94 : decode cX6_lay 94 = .ok (.iload_n 2, 1) := by decide +kernel
theorem dX6_lay_95 : decode cX6_lay 95 = .ok (.aload_n 0, 1) := by decide +kernel
theorem dX6_lay_96 : decode cX6_lay 96 = .ok (.getfield 30, 3) := by decide +kernel
theorem dX6_lay_99 : decode cX6_lay 99 = .ok (.iload_n 2, 1) := by decide +kernel
theorem dX6_lay_100 : decode cX6_lay 100 = .ok (.iaload, 1) := by decide +kernel
theorem dX6_lay_101 : decode cX6_lay 101 = .ok (.invokevirtual 90, 3) := by decide +kernel
theorem dX6_lay_104 : decode cX6_lay 104 = .ok (.iinc 2 1, 3) := by decide +kernel
theorem dX6_lay_107 : decode cX6_lay 107 = .ok (.goto (-23), 3) := by decide +kernel
theorem dX6_lay_110 : decode cX6_lay 110 = .ok (.aload_n 0, 1) := by decide +kernel
theorem dX6_lay_111 : decode cX6_lay 111 = .ok (.iconst (-1), 1) := by decide +kernel
theorem dX6_lay_112 : decode cX6_lay 112 = .ok (.putfield 27, 3) := by decide +kernel
theorem dX6_lay_115 : decode cX6_lay 115 = .ok (.iconst 1, 1) := by decide +kernel
theorem dX6_lay_116 : decode cX6_lay 116 = .ok (.ireturn, 1) := by decide +kernel
theorem dX6_put_0 : decode cX6_put 0 = .ok (.iload_n 1, 1) := by decide +kernel
theorem dX6_put_1 : decode cX6_put 1 = .ok (.ifCond .ne 18, 3) := by decide +kernel
theorem dX6_put_4 : decode cX6_put 4 = .ok (.aload_n 0, 1) := by decide +kernel
theorem dX6_put_5 : decode cX6_put 5 = .ok (.getfield 13, 3) := by decide +kernel
theorem dX6_put_8 : decode cX6_put 8 = .ok (.iload_n 2, 1) := by decide +kernel
theorem dX6_put_9 : decode cX6_put 9 = .ok (.iload_n 3, 1) := by decide +kernel
theorem dX6_put_10 : decode cX6_put 10 = .ok (.iastore, 1) := by decide +kernel
theorem dX6_put_11 : decode cX6_put 11 = .ok (.aload_n 0, 1) := by decide +kernel
theorem dX6_put_12 : decode cX6_put 12 = .ok (.lconst 0, 1) := by decide +kernel
theorem dX6_put_13 : decode cX6_put 13 = .ok (.putfield 64, 3) := by decide +kernel
theorem dX6_put_16 : decode cX6_put 16 = .ok (.goto 32, 3) := by decide +kernel
theorem dX6_put_19 : decode cX6_put 19 = .ok (.iload_n 1, 1) := by decide +kernel
theorem dX6_put_20 : decode cX6_put 20 = .ok (.iconst 1, 1) := by decide +kernel
theorem dX6_put_21 : decode cX6_put 21 = .ok (.if_icmp .ne 13, 3) := by decide +kernel
theorem dX6_put_24 : decode cX6_put 24 = .ok (.aload_n 0, 1) := by decide +kernel
theorem dX6_put_25 : decode cX6_put 25 = .ok (.getfield 17, 3) := by decide +kernel
theorem dX6_put_28 : decode cX6_put 28 = .ok (.iload_n 2, 1) := by decide +kernel
theorem dX6_put_29 : decode cX6_put 29 = .ok (.iload_n 3, 1) := by decide +kernel
theorem dX6_put_30 : decode cX6_put 30 = .ok (.iastore, 1) := by decide +kernel
theorem dX6_put_31 : decode cX6_put 31 = .ok (.goto 17, 3) := by decide +kernel
theorem dX6_put_34 : decode cX6_put 34 = .ok (.aload_n 0, 1) := by decide +kernel
theorem dX6_put_35 : decode cX6_put 35 = .ok (.getfield 20, 3) := by decide +kernel
theorem dX6_put_38 : decode cX6_put 38 = .ok (.iload_n 2, 1) := by decide +kernel
theorem dX6_put_39 : decode cX6_put 39 = .ok (.iload_n 3, 1) := by decide +kernel
theorem dX6_put_40 : decode cX6_put 40 = .ok (.iastore, 1) := by decide +kernel
theorem dX6_put_41 : decode cX6_put 41 = .ok (.aload_n 0, 1) := by decide +kernel
theorem dX6_put_42 : decode cX6_put 42 = .ok (.getfield 23, 3) := by decide +kernel
theorem dX6_put_45 : decode cX6_put 45 = .ok (.iload_n 2, 1) := by decide +kernel
theorem dX6_put_46 : decode cX6_put 46 = .ok (.iconst 0, 1) := by decide +kernel
theorem dX6_put_47 : decode cX6_put 47 = .ok (.bastore, 1) := by decide +kernel
theorem dX6_put_48 : decode cX6_put 48 = .ok (.return_, 1) := by decide +kernel
theorem dX6_set_0 : decode cX6_set 0 = .ok (.aload_n 0, 1) := by decide +kernel
theorem dX6_set_1 : decode cX6_set 1 = .ok (.invokevirtual 68, 3) := by decide +kernel
theorem dX6_set_4 : decode cX6_set 4 = .ok (.iload_n 1, 1) := by decide +kernel
theorem dX6_set_5 : decode cX6_set 5 = .ok (.ifCond .lt 33, 3) := by decide +kernel
theorem dX6_set_8 : decode cX6_set 8 = .ok (.iload_n 1, 1) := by decide +kernel
theorem dX6_set_9 : decode cX6_set 9 = .ok (.iconst 2, 1) := by decide +kernel
theorem dX6_set_10 : decode cX6_set 10 = .ok (.if_icmp .gt 28, 3) := by decide +kernel
theorem dX6_set_13 : decode cX6_set 13 = .ok (.aload_n 0, 1) := by decide +kernel
theorem dX6_set_14 : decode cX6_set 14 = .ok (.iload_n 2, 1) := by decide +kernel
theorem dX6_set_15 : decode cX6_set 15 = .ok (.invokevirtual 94, 3) := by decide +kernel
theorem dX6_set_18 : decode cX6_set 18 = .ok (.ifCond .eq 20, 3) := by decide +kernel
theorem dX6_set_21 : decode cX6_set 21 = .ok (.iload_n 3, 1) := by decide +kernel
theorem dX6_set_22 : decode cX6_set 22 = .ok (.iload_n 1, 1) := by decide +kernel
theorem dX6_set_23 : decode cX6_set 23 = .ok (.invokestatic 87, 3) := by decide +kernel
theorem dX6_set_26 : decode cX6_set 26 = .ok (.ineg, 1) := by decide +kernel
theorem dX6_set_27 : decode cX6_set 27 = .ok (.if_icmp .lt 11, 3) := by decide +kernel
theorem dX6_set_30 : decode cX6_set 30 = .ok (.iload_n 3, 1) := by decide +kernel
theorem dX6_set_31 : decode cX6_set 31 = .ok (.iload_n 1, 1) := by decide +kernel
theorem dX6_set_32 : decode cX6_set 32 = .ok (.invokestatic 87, 3) := by decide +kernel
theorem dX6_set_35 : decode cX6_set 35 = .ok (.if_icmp .le 9, 3) := by decide +kernel
theorem dX6_set_38 : decode cX6_set 38 = .ok (.aload_n 0, 1) := by decide +kernel
theorem dX6_set_39 : decode cX6_set 39 = .ok (.iconst 1, 1) := by decide +kernel
theorem dX6_set_40 : decode cX6_set 40 = .ok (.invokevirtual 71, 3) := by decide +kernel
theorem dX6_set_43 : decode cX6_set 43 = .ok (.ireturn, 1) := by decide +kernel
theorem dX6_set_44 : decode cX6_set 44 = .ok (.aload_n 0, 1) := by decide +kernel
theorem dX6_set_45 : decode cX6_set 45 = .ok (.iload_n 1, 1) := by decide +kernel
theorem dX6_set_46 : decode cX6_set 46 = .ok (.iload_n 2, 1) := by decide +kernel
theorem dX6_set_47 : decode cX6_set 47 = .ok (.iload_n 3, 1) := by decide +kernel
theorem dX6_set_48 : decode cX6_set 48 = .ok (.invokevirtual 90, 3) := by decide +kernel
theorem dX6_set_51 : decode cX6_set 51 = .ok (.iconst 1, 1) := by decide +kernel
theorem dX6_set_52 : decode cX6_set 52 = .ok (.ireturn, 1) := by decide +kernel
theorem dX6_miss_0 : decode cX6_miss 0 = .ok (.aload_n 0, 1) := by decide +kernel
theorem dX6_miss_1 : decode cX6_miss 1 = .ok (.invokevirtual 68, 3) := by decide +kernel
theorem dX6_miss_4 : decode cX6_miss 4 = .ok (.aload_n 0, 1) := by decide +kernel
theorem dX6_miss_5 : decode cX6_miss 5 = .ok (.iload_n 1, 1) := by decide +kernel
theorem dX6_miss_6 : decode cX6_miss 6 = .ok (.invokevirtual 94, 3) := by decide +kernel
theorem dX6_miss_9 : decode cX6_miss 9 = .ok (.ifCond .ne 9, 3) := by decide +kernel
theorem dX6_miss_12 : decode cX6_miss 12 = .ok (.aload_n 0, 1) := by decide +kernel
theorem dX6_miss_13 : decode cX6_miss 13 = .ok (.iconst 1, 1) := by decide +kernel
theorem dX6_miss_14 : decode cX6_miss 14 = .ok (.invokevirtual 71, 3) := by decide +kernel
theorem dX6_miss_17 : decode cX6_miss 17 = .ok (.ireturn, 1) := by decide +kernel
theorem dX6_miss_18 : decode cX6_miss 18 = .ok (.aload_n 0, 1) := by decide +kernel
theorem dX6_miss_19 : decode cX6_miss 19 = .ok (.getfield 23, 3) := by decide +kernel
theorem dX6_miss_22 : decode cX6_miss 22 = .ok (.iload_n 1, 1) := by decide +kernel
theorem dX6_miss_23 : decode cX6_miss 23 = .ok (.iconst 1, 1) := by decide +kernel
theorem dX6_miss_24 : decode cX6_miss 24 = .ok (.bastore, 1) := by decide +kernel
theorem dX6_miss_25 : decode cX6_miss 25 = .ok (.iconst 1, 1) := by decide +kernel
theorem dX6_miss_26 : decode cX6_miss 26 = .ok (.ireturn, 1) := by decide +kernel
theorem dX6_at_0 : decode cX6_at 0 = .ok (.aload_n 0, 1) := by decide +kernel
theorem dX6_at_1 : decode cX6_at 1 = .ok (.iconst 0, 1) := by decide +kernel
theorem dX6_at_2 : decode cX6_at 2 = .ok (.putfield 58, 3) := by decide +kernel
theorem dX6_at_5 : decode cX6_at 5 = .ok (.iload_n 1, 1) := by decide +kernel
theorem dX6_at_6 : decode cX6_at 6 = .ok (.ifCond .lt 30, 3) := by decide +kernel
theorem dX6_at_9 : decode cX6_at 9 = .ok (.iload_n 1, 1) := by decide +kernel
theorem dX6_at_10 : decode cX6_at 10 = .ok (.iconst 2, 1) := by decide +kernel
theorem dX6_at_11 : decode cX6_at 11 = .ok (.if_icmp .gt 25, 3) := by decide +kernel
theorem dX6_at_14 : decode cX6_at 14 = .ok (.aload_n 0, 1) := by decide +kernel
theorem dX6_at_15 : decode cX6_at 15 = .ok (.iload_n 2, 1) := by decide +kernel
theorem dX6_at_16 : decode cX6_at 16 = .ok (.invokevirtual 94, 3) := by decide +kernel
theorem dX6_at_19 : decode cX6_at 19 = .ok (.ifCond .eq 17, 3) := by decide +kernel
theorem dX6_at_22 : decode cX6_at 22 = .ok (.iload_n 1, 1) := by decide +kernel
theorem dX6_at_23 : decode cX6_at 23 = .ok (.iconst 2, 1) := by decide +kernel
theorem dX6_at_24 : decode cX6_at 24 = .ok (.if_icmp .ne 19, 3) := by decide +kernel
theorem dX6_at_27 : decode cX6_at 27 = .ok (.aload_n 0, 1) := by decide +kernel
theorem dX6_at_28 : decode cX6_at 28 = .ok (.getfield 23, 3) := by decide +kernel
theorem dX6_at_31 : decode cX6_at 31 = .ok (.iload_n 2, 1) := by decide +kernel
theorem dX6_at_32 : decode cX6_at 32 = .ok (.baload, 1) := by decide +kernel
theorem dX6_at_33 : decode cX6_at 33 = .ok (.ifCond .eq 10, 3) := by decide +kernel
theorem dX6_at_36 : decode cX6_at 36 = .ok (.aload_n 0, 1) := by decide +kernel
theorem dX6_at_37 : decode cX6_at 37 = .ok (.iconst 1, 1) := by decide +kernel
theorem dX6_at_38 : decode cX6_at 38 = .ok (.putfield 58, 3) := by decide +kernel
theorem dX6_at_41 : decode cX6_at 41 = .ok (.iconst 0, 1) := by decide +kernel
theorem dX6_at_42 : decode cX6_at 42 = .ok (.ireturn, 1) := by decide +kernel
theorem dX6_at_43 : decode cX6_at 43 = .ok (.iload_n 1, 1) := by decide +kernel
theorem dX6_at_44 : decode cX6_at 44 = .ok (.ifCond .ne 12, 3) := by decide +kernel
theorem dX6_at_47 : decode cX6_at 47 = .ok (.aload_n 0, 1) := by decide +kernel
theorem dX6_at_48 : decode cX6_at 48 = .ok (.getfield 13, 3) := by decide +kernel
theorem dX6_at_51 : decode cX6_at 51 = .ok (.iload_n 2, 1) := by decide +kernel
theorem dX6_at_52 : decode cX6_at 52 = .ok (.iaload, 1) := by decide +kernel
theorem dX6_at_53 : decode cX6_at 53 = .ok (.goto 23, 3) := by decide +kernel
theorem dX6_at_56 : decode cX6_at 56 = .ok (.iload_n 1, 1) := by decide +kernel
theorem dX6_at_57 : decode cX6_at 57 = .ok (.iconst 1, 1) := by decide +kernel
theorem dX6_at_58 : decode cX6_at 58 = .ok (.if_icmp .ne 12, 3) := by decide +kernel
theorem dX6_at_61 : decode cX6_at 61 = .ok (.aload_n 0, 1) := by decide +kernel
theorem dX6_at_62 : decode cX6_at 62 = .ok (.getfield 17, 3) := by decide +kernel
theorem dX6_at_65 : decode cX6_at 65 = .ok (.iload_n 2, 1) := by decide +kernel
theorem dX6_at_66 : decode cX6_at 66 = .ok (.iaload, 1) := by decide +kernel
theorem dX6_at_67 : decode cX6_at 67 = .ok (.goto 9, 3) := by decide +kernel
theorem dX6_at_70 : decode cX6_at 70 = .ok (.aload_n 0, 1) := by decide +kernel
theorem dX6_at_71 : decode cX6_at 71 = .ok (.getfield 20, 3) := by decide +kernel
theorem dX6_at_74 : decode cX6_at 74 = .ok (.iload_n 2, 1) := by decide +kernel
theorem dX6_at_75 : decode cX6_at 75 = .ok (.iaload, 1) := by decide +kernel
theorem dX6_at_76 : decode cX6_at 76 = .ok (.ireturn, 1) := by decide +kernel
theorem dX6_meetsAt_0 : decode cX6_meetsAt 0 = .ok (.iconst 0, 1) := by decide +kernel
theorem dX6_meetsAt_1 : decode cX6_meetsAt 1 = .ok (.istore_n 2, 1) := by decide +kernel
theorem dX6_meetsAt_2 : decode cX6_meetsAt 2 = .ok (.iconst 0, 1) := by decide +kernel
theorem dX6_meetsAt_3 : decode cX6_meetsAt 3 = .ok (.istore_n 3, 1) := by decide +kernel
theorem dX6_meetsAt_4 : decode cX6_meetsAt 4 = .ok (.iload_n 3, 1) := by decide +kernel
theorem dX6_meetsAt_5 : decode cX6_meetsAt 5 = .ok (.aload_n 0, 1) := by decide +kernel
theorem dX6_meetsAt_6 : decode cX6_meetsAt 6 = .ok (.getfield 7, 3) := by decide +kernel
theorem dX6_meetsAt_9 : decode cX6_meetsAt 9 = .ok (.if_icmp .ge 32, 3) := by decide +kernel
theorem dX6_meetsAt_12 : decode cX6_meetsAt 12 = .ok (.iload_n 2, 1) := by decide +kernel
theorem dX6_meetsAt_13 : decode cX6_meetsAt 13 = .ok (.aload_n 0, 1) := by decide +kernel
theorem dX6_meetsAt_14 : decode cX6_meetsAt 14 = .ok (.getfield 13, 3) := by decide +kernel
theorem dX6_meetsAt_17 : decode cX6_meetsAt 17 = .ok (.iload_n 3, 1) := by decide +kernel
theorem dX6_meetsAt_18 : decode cX6_meetsAt 18 = .ok (.iaload, 1) := by decide +kernel
theorem dX6_meetsAt_19 : decode cX6_meetsAt 19 = .ok (.aload_n 0, 1) := by decide +kernel
theorem dX6_meetsAt_20 : decode cX6_meetsAt 20 = .ok (.getfield 13, 3) := by decide +kernel
theorem dX6_meetsAt_23 : decode cX6_meetsAt 23 = .ok (.iload_n 3, 1) := by decide +kernel
theorem dX6_meetsAt_24 : decode cX6_meetsAt 24 = .ok (.iload_n 1, 1) := by decide +kernel
theorem dX6_meetsAt_25 : decode cX6_meetsAt 25 = .ok (.iadd, 1) := by decide +kernel
theorem dX6_meetsAt_26 : decode cX6_meetsAt 26 = .ok (.aload_n 0, 1) := by decide +kernel
theorem dX6_meetsAt_27 : decode cX6_meetsAt 27 = .ok (.getfield 7, 3) := by decide +kernel
theorem dX6_meetsAt_30 : decode cX6_meetsAt 30 = .ok (.irem, 1) := by decide +kernel
theorem dX6_meetsAt_31 : decode cX6_meetsAt 31 = .ok (.iaload, 1) := by decide +kernel
theorem dX6_meetsAt_32 : decode cX6_meetsAt 32 = .ok (.imul, 1) := by decide +kernel
theorem dX6_meetsAt_33 : decode cX6_meetsAt 33 = .ok (.iadd, 1) := by decide +kernel
theorem dX6_meetsAt_34 : decode cX6_meetsAt 34 = .ok (.istore_n 2, 1) := by decide +kernel
theorem dX6_meetsAt_35 : decode cX6_meetsAt 35 = .ok (.iinc 3 1, 3) := by decide +kernel
theorem dX6_meetsAt_38 : decode cX6_meetsAt 38 = .ok (.goto (-34), 3) := by decide +kernel
theorem dX6_meetsAt_41 : decode cX6_meetsAt 41 = .ok (.iload_n 2, 1) := by decide +kernel
theorem dX6_meetsAt_42 : decode cX6_meetsAt 42 = .ok (.ireturn, 1) := by decide +kernel
theorem dX6_firstOff_0 : decode cX6_firstOff 0 = .ok (.iconst 2, 1) := by decide +kernel
theorem dX6_firstOff_1 : decode cX6_firstOff 1 = .ok (.istore_n 1, 1) := by decide +kernel
theorem dX6_firstOff_2 : decode cX6_firstOff 2 = .ok (.iload_n 1, 1) := by decide +kernel
theorem dX6_firstOff_3 : decode cX6_firstOff 3 = .ok (.aload_n 0, 1) := by decide +kernel
theorem dX6_firstOff_4 : decode cX6_firstOff 4 = .ok (.getfield 7, 3) := by decide +kernel
theorem dX6_firstOff_7 : decode cX6_firstOff 7 = .ok (.if_icmp .ge 24, 3) := by decide +kernel
theorem dX6_firstOff_10 : decode cX6_firstOff 10 = .ok (.aload_n 0, 1) := by decide +kernel
theorem dX6_firstOff_11 : decode cX6_firstOff 11 = .ok (.iload_n 1, 1) := by decide +kernel
theorem dX6_firstOff_12 : decode cX6_firstOff 12 = .ok (.invokevirtual 97, 3) := by decide +kernel
theorem dX6_firstOff_15 : decode cX6_firstOff 15 = .ok (.aload_n 0, 1) := by decide +kernel
theorem dX6_firstOff_16 : decode cX6_firstOff 16 = .ok (.iconst 1, 1) := by decide +kernel
theorem dX6_firstOff_17 : decode cX6_firstOff 17 = .ok (.invokevirtual 97, 3) := by decide +kernel
theorem dX6_firstOff_20 : decode cX6_firstOff 20 = .ok (.if_icmp .eq 5, 3) := by decide +kernel
theorem dX6_firstOff_23 : decode cX6_firstOff 23 = .ok (.iload_n 1, 1) := by decide +kernel
theorem dX6_firstOff_24 : decode cX6_firstOff 24 = .ok (.ireturn, 1) := by decide +kernel
theorem dX6_firstOff_25 : decode cX6_firstOff 25 = .ok (.iinc 1 1, 3) := by decide +kernel
theorem dX6_firstOff_28 : decode cX6_firstOff 28 = .ok (.goto (-26), 3) := by decide +kernel
theorem dX6_firstOff_31 : decode cX6_firstOff 31 = .ok (.iconst (-1), 1) := by decide +kernel
theorem dX6_firstOff_32 : decode cX6_firstOff 32 = .ok (.ireturn, 1) := by decide +kernel
theorem dX6_count_0 : decode cX6_count 0 = .ok (.aload_n 0, 1) := by decide +kernel
theorem dX6_count_1 : decode cX6_count 1 = .ok (.invokevirtual 68, 3) := by decide +kernel
theorem dX6_count_4 : decode cX6_count 4 = .ok (.iconst 0, 1) := by decide +kernel
theorem dX6_count_5 : decode cX6_count 5 = .ok (.istore_n 2, 1) := by decide +kernel
theorem dX6_count_6 : decode cX6_count 6 = .ok (.iload_n 1, 1) := by decide +kernel
theorem dX6_count_7 : decode cX6_count 7 = .ok (.tableswitch 183 0 7 #[45, 50, 81, 112, 142, 156, 161, 178], 45) := by decide +kernel
theorem dX6_count_52 : decode cX6_count 52 = .ok (.aload_n 0, 1) := by decide +kernel
theorem dX6_count_53 : decode cX6_count 53 = .ok (.getfield 7, 3) := by decide +kernel
theorem dX6_count_56 : decode cX6_count 56 = .ok (.ireturn, 1) := by decide +kernel
theorem dX6_count_57 : decode cX6_count 57 = .ok (.iconst 0, 1) := by decide +kernel
theorem dX6_count_58 : decode cX6_count 58 = .ok (.istore_n 3, 1) := by decide +kernel
theorem dX6_count_59 : decode cX6_count 59 = .ok (.iload_n 3, 1) := by decide +kernel
theorem dX6_count_60 : decode cX6_count 60 = .ok (.aload_n 0, 1) := by decide +kernel
theorem dX6_count_61 : decode cX6_count 61 = .ok (.getfield 7, 3) := by decide +kernel
theorem dX6_count_64 : decode cX6_count 64 = .ok (.if_icmp .ge 22, 3) := by decide +kernel
theorem dX6_count_67 : decode cX6_count 67 = .ok (.aload_n 0, 1) := by decide +kernel
theorem dX6_count_68 : decode cX6_count 68 = .ok (.getfield 13, 3) := by decide +kernel
theorem dX6_count_71 : decode cX6_count 71 = .ok (.iload_n 3, 1) := by decide +kernel
theorem dX6_count_72 : decode cX6_count 72 = .ok (.iaload, 1) := by decide +kernel
theorem dX6_count_73 : decode cX6_count 73 = .ok (.iconst 1, 1) := by decide +kernel
theorem dX6_count_74 : decode cX6_count 74 = .ok (.if_icmp .ne 6, 3) := by decide +kernel
theorem dX6_count_77 : decode cX6_count 77 = .ok (.iinc 2 1, 3) := by decide +kernel
theorem dX6_count_80 : decode cX6_count 80 = .ok (.iinc 3 1, 3) := by decide +kernel
theorem dX6_count_83 : decode cX6_count 83 = .ok (.goto (-24), 3) := by decide +kernel
theorem dX6_count_86 : decode cX6_count 86 = .ok (.iload_n 2, 1) := by decide +kernel
theorem dX6_count_87 : decode cX6_count 87 = .ok (.ireturn, 1) := by decide +kernel
theorem dX6_count_88 : decode cX6_count 88 = .ok (.iconst 0, 1) := by decide +kernel
theorem dX6_count_89 : decode cX6_count 89 = .ok (.istore_n 3, 1) := by decide +kernel
theorem dX6_count_90 : decode cX6_count 90 = .ok (.iload_n 3, 1) := by decide +kernel
theorem dX6_count_91 : decode cX6_count 91 = .ok (.aload_n 0, 1) := by decide +kernel
theorem dX6_count_92 : decode cX6_count 92 = .ok (.getfield 7, 3) := by decide +kernel
theorem dX6_count_95 : decode cX6_count 95 = .ok (.if_icmp .ge 22, 3) := by decide +kernel
theorem dX6_count_98 : decode cX6_count 98 = .ok (.aload_n 0, 1) := by decide +kernel
theorem dX6_count_99 : decode cX6_count 99 = .ok (.getfield 13, 3) := by decide +kernel
theorem dX6_count_102 : decode cX6_count 102 = .ok (.iload_n 3, 1) := by decide +kernel
theorem dX6_count_103 : decode cX6_count 103 = .ok (.iaload, 1) := by decide +kernel
theorem dX6_count_104 : decode cX6_count 104 = .ok (.iconst (-1), 1) := by decide +kernel
theorem dX6_count_105 : decode cX6_count 105 = .ok (.if_icmp .ne 6, 3) := by decide +kernel
theorem dX6_count_108 : decode cX6_count 108 = .ok (.iinc 2 1, 3) := by decide +kernel
theorem dX6_count_111 : decode cX6_count 111 = .ok (.iinc 3 1, 3) := by decide +kernel
theorem dX6_count_114 : decode cX6_count 114 = .ok (.goto (-24), 3) := by decide +kernel
theorem dX6_count_117 : decode cX6_count 117 = .ok (.iload_n 2, 1) := by decide +kernel
theorem dX6_count_118 : decode cX6_count 118 = .ok (.ireturn, 1) := by decide +kernel
theorem dX6_count_119 : decode cX6_count 119 = .ok (.iconst 0, 1) := by decide +kernel
theorem dX6_count_120 : decode cX6_count 120 = .ok (.istore_n 3, 1) := by decide +kernel
theorem dX6_count_121 : decode cX6_count 121 = .ok (.iload_n 3, 1) := by decide +kernel
theorem dX6_count_122 : decode cX6_count 122 = .ok (.aload_n 0, 1) := by decide +kernel
theorem dX6_count_123 : decode cX6_count 123 = .ok (.getfield 7, 3) := by decide +kernel
theorem dX6_count_126 : decode cX6_count 126 = .ok (.if_icmp .ge 21, 3) := by decide +kernel
theorem dX6_count_129 : decode cX6_count 129 = .ok (.aload_n 0, 1) := by decide +kernel
theorem dX6_count_130 : decode cX6_count 130 = .ok (.getfield 23, 3) := by decide +kernel
theorem dX6_count_133 : decode cX6_count 133 = .ok (.iload_n 3, 1) := by decide +kernel
theorem dX6_count_134 : decode cX6_count 134 = .ok (.baload, 1) := by decide +kernel
theorem dX6_count_135 : decode cX6_count 135 = .ok (.ifCond .eq 6, 3) := by decide +kernel
theorem dX6_count_138 : decode cX6_count 138 = .ok (.iinc 2 1, 3) := by decide +kernel
theorem dX6_count_141 : decode cX6_count 141 = .ok (.iinc 3 1, 3) := by decide +kernel
theorem dX6_count_144 : decode cX6_count 144 = .ok (.goto (-23), 3) := by decide +kernel
theorem dX6_count_147 : decode cX6_count 147 = .ok (.iload_n 2, 1) := by decide +kernel
theorem dX6_count_148 : decode cX6_count 148 = .ok (.ireturn, 1) := by decide +kernel
theorem dX6_count_149 : decode cX6_count 149 = .ok (.aload_n 0, 1) := by decide +kernel
theorem dX6_count_150 : decode cX6_count 150 = .ok (.invokevirtual 100, 3) := by decide +kernel
theorem dX6_count_153 : decode cX6_count 153 = .ok (.iconst (-1), 1) := by decide +kernel
theorem dX6_count_154 : decode cX6_count 154 = .ok (.if_icmp .ne 7, 3) := by decide +kernel
theorem dX6_count_157 : decode cX6_count 157 = .ok (.iconst 1, 1) := by decide +kernel
theorem dX6_count_158 : decode cX6_count 158 = .ok (.goto 4, 3) := by decide +kernel
theorem dX6_count_161 : decode cX6_count 161 = .ok (.iconst 0, 1) := by decide +kernel
theorem dX6_count_162 : decode cX6_count 162 = .ok (.ireturn, 1) := by decide +kernel
theorem dX6_count_163 : decode cX6_count 163 = .ok (.aload_n 0, 1) := by decide +kernel
theorem dX6_count_164 : decode cX6_count 164 = .ok (.getfield 37, 3) := by decide +kernel
theorem dX6_count_167 : decode cX6_count 167 = .ok (.ireturn, 1) := by decide +kernel
theorem dX6_count_168 : decode cX6_count 168 = .ok (.aload_n 0, 1) := by decide +kernel
theorem dX6_count_169 : decode cX6_count 169 = .ok (.getfield 27, 3) := by decide +kernel
theorem dX6_count_172 : decode cX6_count 172 = .ok (.iconst (-1), 1) := by decide +kernel
theorem dX6_count_173 : decode cX6_count 173 = .ok (.if_icmp .ne 7, 3) := by decide +kernel
theorem dX6_count_176 : decode cX6_count 176 = .ok (.iconst (-1), 1) := by decide +kernel
theorem dX6_count_177 : decode cX6_count 177 = .ok (.goto 7, 3) := by decide +kernel
theorem dX6_count_180 : decode cX6_count 180 = .ok (.aload_n 0, 1) := by decide +kernel
theorem dX6_count_181 : decode cX6_count 181 = .ok (.getfield 83, 3) := by decide +kernel
theorem dX6_count_184 : decode cX6_count 184 = .ok (.ireturn, 1) := by decide +kernel
theorem dX6_count_185 : decode cX6_count 185 = .ok (.aload_n 0, 1) := by decide +kernel
theorem dX6_count_186 : decode cX6_count 186 = .ok (.getfield 104, 3) := by decide +kernel
theorem dX6_count_189 : decode cX6_count 189 = .ok (.ireturn, 1) := by decide +kernel
theorem dX6_count_190 : decode cX6_count 190 = .ok (.aload_n 0, 1) := by decide +kernel
theorem dX6_count_191 : decode cX6_count 191 = .ok (.iconst 1, 1) := by decide +kernel
theorem dX6_count_192 : decode cX6_count 192 = .ok (.invokevirtual 79, 3) := by decide +kernel
theorem dX6_count_195 : decode cX6_count 195 = .ok (.ireturn, 1) := by decide +kernel
theorem dX6_shadowAt_0 : decode cX6_shadowAt 0 = .ok (.iconst 0, 1) := by decide +kernel
theorem dX6_shadowAt_1 : decode cX6_shadowAt 1 = .ok (.istore_n 2, 1) := by decide +kernel
theorem dX6_shadowAt_2 : decode cX6_shadowAt 2 = .ok (.iconst 0, 1) := by decide +kernel
theorem dX6_shadowAt_3 : decode cX6_shadowAt 3 = .ok (.istore_n 3, 1) := by decide +kernel
theorem dX6_shadowAt_4 : decode cX6_shadowAt 4 = .ok (.iload_n 3, 1) := by decide +kernel
theorem dX6_shadowAt_5 : decode cX6_shadowAt 5 = .ok (.aload_n 0, 1) := by decide +kernel
theorem dX6_shadowAt_6 : decode cX6_shadowAt 6 = .ok (.getfield 7, 3) := by decide +kernel
theorem dX6_shadowAt_9 : decode cX6_shadowAt 9 = .ok (.if_icmp .ge 32, 3) := by decide +kernel
theorem dX6_shadowAt_12 : decode cX6_shadowAt 12 = .ok (.iload_n 2, 1) := by decide +kernel
theorem dX6_shadowAt_13 : decode cX6_shadowAt 13 = .ok (.aload_n 0, 1) := by decide +kernel
theorem dX6_shadowAt_14 : decode cX6_shadowAt 14 = .ok (.getfield 13, 3) := by decide +kernel
theorem dX6_shadowAt_17 : decode cX6_shadowAt 17 = .ok (.iload_n 3, 1) := by decide +kernel
theorem dX6_shadowAt_18 : decode cX6_shadowAt 18 = .ok (.iaload, 1) := by decide +kernel
theorem dX6_shadowAt_19 : decode cX6_shadowAt 19 = .ok (.aload_n 0, 1) := by decide +kernel
theorem dX6_shadowAt_20 : decode cX6_shadowAt 20 = .ok (.getfield 17, 3) := by decide +kernel
theorem dX6_shadowAt_23 : decode cX6_shadowAt 23 = .ok (.iload_n 1, 1) := by decide +kernel
theorem dX6_shadowAt_24 : decode cX6_shadowAt 24 = .ok (.iload_n 3, 1) := by decide +kernel
theorem dX6_shadowAt_25 : decode cX6_shadowAt 25 = .ok (.iadd, 1) := by decide +kernel
theorem dX6_shadowAt_26 : decode cX6_shadowAt 26 = .ok (.aload_n 0, 1) := by decide +kernel
theorem dX6_shadowAt_27 : decode cX6_shadowAt 27 = .ok (.getfield 7, 3) := by decide +kernel
theorem dX6_shadowAt_30 : decode cX6_shadowAt 30 = .ok (.irem, 1) := by decide +kernel
theorem dX6_shadowAt_31 : decode cX6_shadowAt 31 = .ok (.iaload, 1) := by decide +kernel
theorem dX6_shadowAt_32 : decode cX6_shadowAt 32 = .ok (.imul, 1) := by decide +kernel
theorem dX6_shadowAt_33 : decode cX6_shadowAt 33 = .ok (.iadd, 1) := by decide +kernel
theorem dX6_shadowAt_34 : decode cX6_shadowAt 34 = .ok (.istore_n 2, 1) := by decide +kernel
theorem dX6_shadowAt_35 : decode cX6_shadowAt 35 = .ok (.iinc 3 1, 3) := by decide +kernel
theorem dX6_shadowAt_38 : decode cX6_shadowAt 38 = .ok (.goto (-34), 3) := by decide +kernel
theorem dX6_shadowAt_41 : decode cX6_shadowAt 41 = .ok (.iload_n 2, 1) := by decide +kernel
theorem dX6_shadowAt_42 : decode cX6_shadowAt 42 = .ok (.ireturn, 1) := by decide +kernel
theorem dX6_shadow_0 : decode cX6_shadow 0 = .ok (.aload_n 0, 1) := by decide +kernel
theorem dX6_shadow_1 : decode cX6_shadow 1 = .ok (.invokevirtual 68, 3) := by decide +kernel
theorem dX6_shadow_4 : decode cX6_shadow 4 = .ok (.aload_n 0, 1) := by decide +kernel
theorem dX6_shadow_5 : decode cX6_shadow 5 = .ok (.iload_n 1, 1) := by decide +kernel
theorem dX6_shadow_6 : decode cX6_shadow 6 = .ok (.invokevirtual 94, 3) := by decide +kernel
theorem dX6_shadow_9 : decode cX6_shadow 9 = .ok (.ifCond .ne 11, 3) := by decide +kernel
theorem dX6_shadow_12 : decode cX6_shadow 12 = .ok (.aload_n 0, 1) := by decide +kernel
theorem dX6_shadow_13 : decode cX6_shadow 13 = .ok (.iconst 1, 1) := by decide +kernel
theorem dX6_shadow_14 : decode cX6_shadow 14 = .ok (.invokevirtual 79, 3) := by decide +kernel
theorem dX6_shadow_17 : decode cX6_shadow 17 = .ok (.pop, 1) := by decide +kernel
theorem dX6_shadow_18 : decode cX6_shadow 18 = .ok (.iconst 0, 1) := by decide +kernel
theorem dX6_shadow_19 : decode cX6_shadow 19 = .ok (.ireturn, 1) := by decide +kernel
theorem dX6_shadow_20 : decode cX6_shadow 20 = .ok (.aload_n 0, 1) := by decide +kernel
theorem dX6_shadow_21 : decode cX6_shadow 21 = .ok (.iload_n 1, 1) := by decide +kernel
theorem dX6_shadow_22 : decode cX6_shadow 22 = .ok (.invokevirtual 107, 3) := by decide +kernel
theorem dX6_shadow_25 : decode cX6_shadow 25 = .ok (.ireturn, 1) := by decide +kernel
theorem dX6_cast_0 : decode cX6_cast 0 = .ok (.aload_n 0, 1) := by decide +kernel
theorem dX6_cast_1 : decode cX6_cast 1 = .ok (.invokevirtual 68, 3) := by decide +kernel
theorem dX6_cast_4 : decode cX6_cast 4 = .ok (.iconst 0, 1) := by decide +kernel
theorem dX6_cast_5 : decode cX6_cast 5 = .ok (.istore_n 1, 1) := by decide +kernel
theorem dX6_cast_6 : decode cX6_cast 6 = .ok (.iload_n 1, 1) := by decide +kernel
theorem dX6_cast_7 : decode cX6_cast 7 = .ok (.aload_n 0, 1) := by decide +kernel
theorem dX6_cast_8 : decode cX6_cast 8 = .ok (.getfield 7, 3) := by decide +kernel
theorem dX6_cast_11 : decode cX6_cast 11 = .ok (.if_icmp .ge 20, 3) := by decide +kernel
theorem dX6_cast_14 : decode cX6_cast 14 = .ok (.aload_n 0, 1) := by decide +kernel
theorem dX6_cast_15 : decode cX6_cast 15 = .ok (.iconst 2, 1) := by decide +kernel
theorem dX6_cast_16 : decode cX6_cast 16 = .ok (.iload_n 1, 1) := by decide +kernel
theorem dX6_cast_17 : decode cX6_cast 17 = .ok (.aload_n 0, 1) := by decide +kernel
theorem dX6_cast_18 : decode cX6_cast 18 = .ok (.iload_n 1, 1) := by decide +kernel
theorem dX6_cast_19 : decode cX6_cast 19 = .ok (.invokevirtual 107, 3) := by decide +kernel
theorem dX6_cast_22 : decode cX6_cast 22 = .ok (.invokevirtual 90, 3) := by decide +kernel
theorem dX6_cast_25 : decode cX6_cast 25 = .ok (.iinc 1 1, 3) := by decide +kernel
theorem dX6_cast_28 : decode cX6_cast 28 = .ok (.goto (-22), 3) := by decide +kernel
theorem dX6_cast_31 : decode cX6_cast 31 = .ok (.iconst 1, 1) := by decide +kernel
theorem dX6_cast_32 : decode cX6_cast 32 = .ok (.ireturn, 1) := by decide +kernel
theorem dX6_meets_0 : decode cX6_meets 0 = .ok (.aload_n 0, 1) := by decide +kernel
theorem dX6_meets_1 : decode cX6_meets 1 = .ok (.invokevirtual 68, 3) := by decide +kernel
theorem dX6_meets_4 : decode cX6_meets 4 = .ok (.iload_n 1, 1) := by decide +kernel
theorem dX6_meets_5 : decode cX6_meets 5 = .ok (.ifCond .lt 11, 3) := by decide +kernel
theorem dX6_meets_8 : decode cX6_meets 8 = .ok (.iload_n 1, 1) := by decide +kernel
theorem dX6_meets_9 : decode cX6_meets 9 = .ok (.aload_n 0, 1) := by decide +kernel
theorem dX6_meets_10 : decode cX6_meets 10 = .ok (.getfield 7, 3) := by decide +kernel
theorem dX6_meets_13 : decode cX6_meets 13 = .ok (.if_icmp .lt 11, 3) := by decide +kernel
theorem dX6_meets_16 : decode cX6_meets 16 = .ok (.aload_n 0, 1) := by decide +kernel
theorem dX6_meets_17 : decode cX6_meets 17 = .ok (.iconst 1, 1) := by decide +kernel
theorem dX6_meets_18 : decode cX6_meets 18 = .ok (.invokevirtual 79, 3) := by decide +kernel
theorem dX6_meets_21 : decode cX6_meets 21 = .ok (.pop, 1) := by decide +kernel
theorem dX6_meets_22 : decode cX6_meets 22 = .ok (.iconst 0, 1) := by decide +kernel
theorem dX6_meets_23 : decode cX6_meets 23 = .ok (.ireturn, 1) := by decide +kernel
theorem dX6_meets_24 : decode cX6_meets 24 = .ok (.aload_n 0, 1) := by decide +kernel
theorem dX6_meets_25 : decode cX6_meets 25 = .ok (.iload_n 1, 1) := by decide +kernel
theorem dX6_meets_26 : decode cX6_meets 26 = .ok (.invokevirtual 97, 3) := by decide +kernel
theorem dX6_meets_29 : decode cX6_meets 29 = .ok (.ireturn, 1) := by decide +kernel
theorem dX6_off_0 : decode cX6_off 0 = .ok (.aload_n 0, 1) := by decide +kernel
theorem dX6_off_1 : decode cX6_off 1 = .ok (.invokevirtual 68, 3) := by decide +kernel
theorem dX6_off_4 : decode cX6_off 4 = .ok (.aload_n 0, 1) := by decide +kernel
theorem dX6_off_5 : decode cX6_off 5 = .ok (.invokevirtual 100, 3) := by decide +kernel
theorem dX6_off_8 : decode cX6_off 8 = .ok (.ireturn, 1) := by decide +kernel
theorem dX6_turn_0 : decode cX6_turn 0 = .ok (.aload_n 0, 1) := by decide +kernel
theorem dX6_turn_1 : decode cX6_turn 1 = .ok (.invokevirtual 68, 3) := by decide +kernel
theorem dX6_turn_4 : decode cX6_turn 4 = .ok (.iload_n 1, 1) := by decide +kernel
theorem dX6_turn_5 : decode cX6_turn 5 = .ok (.aload_n 0, 1) := by decide +kernel
theorem dX6_turn_6 : decode cX6_turn 6 = .ok (.getfield 7, 3) := by decide +kernel
theorem dX6_turn_9 : decode cX6_turn 9 = .ok (.irem, 1) := by decide +kernel
theorem dX6_turn_10 : decode cX6_turn 10 = .ok (.ifCond .ge 17, 3) := by decide +kernel
theorem dX6_turn_13 : decode cX6_turn 13 = .ok (.iload_n 1, 1) := by decide +kernel
theorem dX6_turn_14 : decode cX6_turn 14 = .ok (.aload_n 0, 1) := by decide +kernel
theorem dX6_turn_15 : decode cX6_turn 15 = .ok (.getfield 7, 3) := by decide +kernel
theorem dX6_turn_18 : decode cX6_turn 18 = .ok (.irem, 1) := by decide +kernel
theorem dX6_turn_19 : decode cX6_turn 19 = .ok (.aload_n 0, 1) := by decide +kernel
theorem dX6_turn_20 : decode cX6_turn 20 = .ok (.getfield 7, 3) := by decide +kernel
theorem dX6_turn_23 : decode cX6_turn 23 = .ok (.iadd, 1) := by decide +kernel
theorem dX6_turn_24 : decode cX6_turn 24 = .ok (.goto 9, 3) := by decide +kernel
theorem dX6_turn_27 : decode cX6_turn 27 = .ok (.iload_n 1, 1) := by decide +kernel
theorem dX6_turn_28 : decode cX6_turn 28 = .ok (.aload_n 0, 1) := by decide +kernel
theorem dX6_turn_29 : decode cX6_turn 29 = .ok (.getfield 7, 3) := by decide +kernel
theorem dX6_turn_32 : decode cX6_turn 32 = .ok (.irem, 1) := by decide +kernel
theorem dX6_turn_33 : decode cX6_turn 33 = .ok (.istore_n 2, 1) := by decide +kernel
theorem dX6_turn_34 : decode cX6_turn 34 = .ok (.iconst 0, 1) := by decide +kernel
theorem dX6_turn_35 : decode cX6_turn 35 = .ok (.istore_n 3, 1) := by decide +kernel
theorem dX6_turn_36 : decode cX6_turn 36 = .ok (.iload_n 3, 1) := by decide +kernel
theorem dX6_turn_37 : decode cX6_turn 37 = .ok (.aload_n 0, 1) := by decide +kernel
theorem dX6_turn_38 : decode cX6_turn 38 = .ok (.getfield 7, 3) := by decide +kernel
theorem dX6_turn_41 : decode cX6_turn 41 = .ok (.if_icmp .ge 21, 3) := by decide +kernel
theorem dX6_turn_44 : decode cX6_turn 44 = .ok (.aload_n 0, 1) := by decide +kernel
theorem dX6_turn_45 : decode cX6_turn 45 = .ok (.getfield 55, 3) := by decide +kernel
theorem dX6_turn_48 : decode cX6_turn 48 = .ok (.iload_n 3, 1) := by decide +kernel
theorem dX6_turn_49 : decode cX6_turn 49 = .ok (.aload_n 0, 1) := by decide +kernel
theorem dX6_turn_50 : decode cX6_turn 50 = .ok (.getfield 13, 3) := by decide +kernel
theorem dX6_turn_53 : decode cX6_turn 53 = .ok (.iload_n 3, 1) := by decide +kernel
theorem dX6_turn_54 : decode cX6_turn 54 = .ok (.iaload, 1) := by decide +kernel
theorem dX6_turn_55 : decode cX6_turn 55 = .ok (.iastore, 1) := by decide +kernel
theorem dX6_turn_56 : decode cX6_turn 56 = .ok (.iinc 3 1, 3) := by decide +kernel
theorem dX6_turn_59 : decode cX6_turn 59 = .ok (.goto (-23), 3) := by decide +kernel
theorem dX6_turn_62 : decode cX6_turn 62 = .ok (.iconst 0, 1) := by decide +kernel
theorem dX6_turn_63 : decode cX6_turn 63 = .ok (.istore_n 3, 1) := by decide +kernel
theorem dX6_turn_64 : decode cX6_turn 64 = .ok (.iload_n 3, 1) := by decide +kernel
theorem dX6_turn_65 : decode cX6_turn 65 = .ok (.aload_n 0, 1) := by decide +kernel
theorem dX6_turn_66 : decode cX6_turn 66 = .ok (.getfield 7, 3) := by decide +kernel
theorem dX6_turn_69 : decode cX6_turn 69 = .ok (.if_icmp .ge 28, 3) := by decide +kernel
theorem dX6_turn_72 : decode cX6_turn 72 = .ok (.aload_n 0, 1) := by decide +kernel
theorem dX6_turn_73 : decode cX6_turn 73 = .ok (.getfield 13, 3) := by decide +kernel
theorem dX6_turn_76 : decode cX6_turn 76 = .ok (.iload_n 3, 1) := by decide +kernel
theorem dX6_turn_77 : decode cX6_turn 77 = .ok (.aload_n 0, 1) := by decide +kernel
theorem dX6_turn_78 : decode cX6_turn 78 = .ok (.getfield 55, 3) := by decide +kernel
theorem dX6_turn_81 : decode cX6_turn 81 = .ok (.iload_n 3, 1) := by decide +kernel
theorem dX6_turn_82 : decode cX6_turn 82 = .ok (.iload_n 2, 1) := by decide +kernel
theorem dX6_turn_83 : decode cX6_turn 83 = .ok (.iadd, 1) := by decide +kernel
theorem dX6_turn_84 : decode cX6_turn 84 = .ok (.aload_n 0, 1) := by decide +kernel
theorem dX6_turn_85 : decode cX6_turn 85 = .ok (.getfield 7, 3) := by decide +kernel
theorem dX6_turn_88 : decode cX6_turn 88 = .ok (.irem, 1) := by decide +kernel
theorem dX6_turn_89 : decode cX6_turn 89 = .ok (.iaload, 1) := by decide +kernel
theorem dX6_turn_90 : decode cX6_turn 90 = .ok (.iastore, 1) := by decide +kernel
theorem dX6_turn_91 : decode cX6_turn 91 = .ok (.iinc 3 1, 3) := by decide +kernel
theorem dX6_turn_94 : decode cX6_turn 94 = .ok (.goto (-30), 3) := by decide +kernel
theorem dX6_turn_97 : decode cX6_turn 97 = .ok (.aload_n 0, 1) := by decide +kernel
theorem dX6_turn_98 : decode cX6_turn 98 = .ok (.lconst 0, 1) := by decide +kernel
theorem dX6_turn_99 : decode cX6_turn 99 = .ok (.putfield 64, 3) := by decide +kernel
theorem dX6_turn_102 : decode cX6_turn 102 = .ok (.iconst 1, 1) := by decide +kernel
theorem dX6_turn_103 : decode cX6_turn 103 = .ok (.ireturn, 1) := by decide +kernel
theorem dX6_anti_0 : decode cX6_anti 0 = .ok (.aload_n 0, 1) := by decide +kernel
theorem dX6_anti_1 : decode cX6_anti 1 = .ok (.invokevirtual 68, 3) := by decide +kernel
theorem dX6_anti_4 : decode cX6_anti 4 = .ok (.iconst 0, 1) := by decide +kernel
theorem dX6_anti_5 : decode cX6_anti 5 = .ok (.istore_n 1, 1) := by decide +kernel
theorem dX6_anti_6 : decode cX6_anti 6 = .ok (.iload_n 1, 1) := by decide +kernel
theorem dX6_anti_7 : decode cX6_anti 7 = .ok (.aload_n 0, 1) := by decide +kernel
theorem dX6_anti_8 : decode cX6_anti 8 = .ok (.getfield 7, 3) := by decide +kernel
theorem dX6_anti_11 : decode cX6_anti 11 = .ok (.if_icmp .ge 24, 3) := by decide +kernel
theorem dX6_anti_14 : decode cX6_anti 14 = .ok (.aload_n 0, 1) := by decide +kernel
theorem dX6_anti_15 : decode cX6_anti 15 = .ok (.getfield 13, 3) := by decide +kernel
theorem dX6_anti_18 : decode cX6_anti 18 = .ok (.iload_n 1, 1) := by decide +kernel
theorem dX6_anti_19 : decode cX6_anti 19 = .ok (.iaload, 1) := by decide +kernel
theorem dX6_anti_20 : decode cX6_anti 20 = .ok (.ifCond .ge 9, 3) := by decide +kernel
theorem dX6_anti_23 : decode cX6_anti 23 = .ok (.aload_n 0, 1) := by decide +kernel
theorem dX6_anti_24 : decode cX6_anti 24 = .ok (.iconst 1, 1) := by decide +kernel
theorem dX6_anti_25 : decode cX6_anti 25 = .ok (.invokevirtual 71, 3) := by decide +kernel
theorem dX6_anti_28 : decode cX6_anti 28 = .ok (.ireturn, 1) := by decide +kernel
theorem dX6_anti_29 : decode cX6_anti 29 = .ok (.iinc 1 1, 3) := by decide +kernel
theorem dX6_anti_32 : decode cX6_anti 32 = .ok (.goto (-26), 3) := by decide +kernel
theorem dX6_anti_35 : decode cX6_anti 35 = .ok (.iconst 0, 1) := by decide +kernel
theorem dX6_anti_36 : decode cX6_anti 36 = .ok (.istore_n 1, 1) := by decide +kernel
theorem dX6_anti_37 : decode cX6_anti 37 = .ok (.iload_n 1, 1) := by decide +kernel
theorem dX6_anti_38 : decode cX6_anti 38 = .ok (.aload_n 0, 1) := by decide +kernel
theorem dX6_anti_39 : decode cX6_anti 39 = .ok (.getfield 7, 3) := by decide +kernel
theorem dX6_anti_42 : decode cX6_anti 42 = .ok (.if_icmp .ge 23, 3) := by decide +kernel
theorem dX6_anti_45 : decode cX6_anti 45 = .ok (.aload_n 0, 1) := by decide +kernel
theorem dX6_anti_46 : decode cX6_anti 46 = .ok (.getfield 13, 3) := by decide +kernel
theorem dX6_anti_49 : decode cX6_anti 49 = .ok (.iload_n 1, 1) := by decide +kernel
theorem dX6_anti_50 : decode cX6_anti 50 = .ok (.iconst 1, 1) := by decide +kernel
theorem dX6_anti_51 : decode cX6_anti 51 = .ok (.aload_n 0, 1) := by decide +kernel
theorem dX6_anti_52 : decode cX6_anti 52 = .ok (.getfield 13, 3) := by decide +kernel
theorem dX6_anti_55 : decode cX6_anti 55 = .ok (.iload_n 1, 1) := by decide +kernel
theorem dX6_anti_56 : decode cX6_anti 56 = .ok (.iaload, 1) := by decide +kernel
theorem dX6_anti_57 : decode cX6_anti 57 = .ok (.isub, 1) := by decide +kernel
theorem dX6_anti_58 : decode cX6_anti 58 = .ok (.iastore, 1) := by decide +kernel
theorem dX6_anti_59 : decode cX6_anti 59 = .ok (.iinc 1 1, 3) := by decide +kernel
theorem dX6_anti_62 : decode cX6_anti 62 = .ok (.goto (-25), 3) := by decide +kernel
theorem dX6_anti_65 : decode cX6_anti 65 = .ok (.aload_n 0, 1) := by decide +kernel
theorem dX6_anti_66 : decode cX6_anti 66 = .ok (.lconst 0, 1) := by decide +kernel
theorem dX6_anti_67 : decode cX6_anti 67 = .ok (.putfield 64, 3) := by decide +kernel
theorem dX6_anti_70 : decode cX6_anti 70 = .ok (.iconst 1, 1) := by decide +kernel
theorem dX6_anti_71 : decode cX6_anti 71 = .ok (.ireturn, 1) := by decide +kernel
theorem dX6_common_0 : decode cX6_common 0 = .ok (.iload_n 0, 1) := by decide +kernel
theorem dX6_common_1 : decode cX6_common 1 = .ok (.istore_n 2, 1) := by decide +kernel
theorem dX6_common_2 : decode cX6_common 2 = .ok (.iload_n 1, 1) := by decide +kernel
theorem dX6_common_3 : decode cX6_common 3 = .ok (.istore_n 3, 1) := by decide +kernel
theorem dX6_common_4 : decode cX6_common 4 = .ok (.iload_n 3, 1) := by decide +kernel
theorem dX6_common_5 : decode cX6_common 5 = .ok (.ifCond .eq 16, 3) := by decide +kernel
theorem dX6_common_8 : decode cX6_common 8 = .ok (.iload_n 2, 1) := by decide +kernel
theorem dX6_common_9 : decode cX6_common 9 = .ok (.iload_n 3, 1) := by decide +kernel
theorem dX6_common_10 : decode cX6_common 10 = .ok (.irem, 1) := by decide +kernel
theorem dX6_common_11 : decode cX6_common 11 = .ok (.istore 4, 2) := by decide +kernel
theorem dX6_common_13 : decode cX6_common 13 = .ok (.iload_n 3, 1) := by decide +kernel
theorem dX6_common_14 : decode cX6_common 14 = .ok (.istore_n 2, 1) := by decide +kernel
theorem dX6_common_15 : decode cX6_common 15 = .ok (.iload 4, 2) := by decide +kernel
theorem dX6_common_17 : decode cX6_common 17 = .ok (.istore_n 3, 1) := by decide +kernel
theorem dX6_common_18 : decode cX6_common 18 = .ok (.goto (-14), 3) := by decide +kernel
theorem dX6_common_21 : decode cX6_common 21 = .ok (.iload_n 2, 1) := by decide +kernel
theorem dX6_common_22 : decode cX6_common 22 = .ok (.ireturn, 1) := by decide +kernel
theorem dX6_fold_0 : decode cX6_fold 0 = .ok (.aload_n 0, 1) := by decide +kernel
theorem dX6_fold_1 : decode cX6_fold 1 = .ok (.invokevirtual 68, 3) := by decide +kernel
theorem dX6_fold_4 : decode cX6_fold 4 = .ok (.iload_n 1, 1) := by decide +kernel
theorem dX6_fold_5 : decode cX6_fold 5 = .ok (.iconst 1, 1) := by decide +kernel
theorem dX6_fold_6 : decode cX6_fold 6 = .ok (.if_icmp .lt 63, 3) := by decide +kernel
theorem dX6_fold_9 : decode cX6_fold 9 = .ok (.iload_n 2, 1) := by decide +kernel
theorem dX6_fold_10 : decode cX6_fold 10 = .ok (.iconst 1, 1) := by decide +kernel
theorem dX6_fold_11 : decode cX6_fold 11 = .ok (.if_icmp .lt 58, 3) := by decide +kernel
theorem dX6_fold_14 : decode cX6_fold 14 = .ok (.iload_n 1, 1) := by decide +kernel
theorem dX6_fold_15 : decode cX6_fold 15 = .ok (.aload_n 0, 1) := by decide +kernel
theorem dX6_fold_16 : decode cX6_fold 16 = .ok (.getfield 7, 3) := by decide +kernel
theorem dX6_fold_19 : decode cX6_fold 19 = .ok (.if_icmp .gt 50, 3) := by decide +kernel
theorem dX6_fold_22 : decode cX6_fold 22 = .ok (.iload_n 2, 1) := by decide +kernel
theorem dX6_fold_23 : decode cX6_fold 23 = .ok (.aload_n 0, 1) := by decide +kernel
theorem dX6_fold_24 : decode cX6_fold 24 = .ok (.getfield 7, 3) := by decide +kernel
theorem dX6_fold_27 : decode cX6_fold 27 = .ok (.if_icmp .gt 42, 3) := by decide +kernel
theorem dX6_fold_30 : decode cX6_fold 30 = .ok (.iload_n 1, 1) := by decide +kernel
theorem dX6_fold_31 : decode cX6_fold 31 = .ok (.iload_n 2, 1) := by decide +kernel
theorem dX6_fold_32 : decode cX6_fold 32 = .ok (.imul, 1) := by decide +kernel
theorem dX6_fold_33 : decode cX6_fold 33 = .ok (.aload_n 0, 1) := by decide +kernel
theorem dX6_fold_34 : decode cX6_fold 34 = .ok (.getfield 7, 3) := by decide +kernel
theorem dX6_fold_37 : decode cX6_fold 37 = .ok (.if_icmp .ne 32, 3) := by decide +kernel
theorem dX6_fold_40 : decode cX6_fold 40 = .ok (.iload_n 1, 1) := by decide +kernel
theorem dX6_fold_41 : decode cX6_fold 41 = .ok (.iload_n 2, 1) := by decide +kernel
theorem dX6_fold_42 : decode cX6_fold 42 = .ok (.invokestatic 110, 3) := by decide +kernel
theorem dX6_fold_45 : decode cX6_fold 45 = .ok (.iconst 1, 1) := by decide +kernel
theorem dX6_fold_46 : decode cX6_fold 46 = .ok (.if_icmp .gt 23, 3) := by decide +kernel
theorem dX6_fold_49 : decode cX6_fold 49 = .ok (.iload_n 3, 1) := by decide +kernel
theorem dX6_fold_50 : decode cX6_fold 50 = .ok (.ifCond .lt 19, 3) := by decide +kernel
theorem dX6_fold_53 : decode cX6_fold 53 = .ok (.iload_n 3, 1) := by decide +kernel
theorem dX6_fold_54 : decode cX6_fold 54 = .ok (.iload_n 1, 1) := by decide +kernel
theorem dX6_fold_55 : decode cX6_fold 55 = .ok (.if_icmp .ge 14, 3) := by decide +kernel
theorem dX6_fold_58 : decode cX6_fold 58 = .ok (.iload 4, 2) := by decide +kernel
theorem dX6_fold_60 : decode cX6_fold 60 = .ok (.ifCond .lt 9, 3) := by decide +kernel
theorem dX6_fold_63 : decode cX6_fold 63 = .ok (.iload 4, 2) := by decide +kernel
theorem dX6_fold_65 : decode cX6_fold 65 = .ok (.iload_n 2, 1) := by decide +kernel
theorem dX6_fold_66 : decode cX6_fold 66 = .ok (.if_icmp .lt 11, 3) := by decide +kernel
theorem dX6_fold_69 : decode cX6_fold 69 = .ok (.aload_n 0, 1) := by decide +kernel
theorem dX6_fold_70 : decode cX6_fold 70 = .ok (.iconst 1, 1) := by decide +kernel
theorem dX6_fold_71 : decode cX6_fold 71 = .ok (.invokevirtual 79, 3) := by decide +kernel
theorem dX6_fold_74 : decode cX6_fold 74 = .ok (.pop, 1) := by decide +kernel
theorem dX6_fold_75 : decode cX6_fold 75 = .ok (.iconst 0, 1) := by decide +kernel
theorem dX6_fold_76 : decode cX6_fold 76 = .ok (.ireturn, 1) := by decide +kernel
theorem dX6_fold_77 : decode cX6_fold 77 = .ok (.iconst 0, 1) := by decide +kernel
theorem dX6_fold_78 : decode cX6_fold 78 = .ok (.istore 5, 2) := by decide +kernel
theorem dX6_fold_80 : decode cX6_fold 80 = .ok (.iload 5, 2) := by decide +kernel
theorem dX6_fold_82 : decode cX6_fold 82 = .ok (.iload_n 1, 1) := by decide +kernel
theorem dX6_fold_83 : decode cX6_fold 83 = .ok (.irem, 1) := by decide +kernel
theorem dX6_fold_84 : decode cX6_fold 84 = .ok (.iload_n 3, 1) := by decide +kernel
theorem dX6_fold_85 : decode cX6_fold 85 = .ok (.if_icmp .ne 12, 3) := by decide +kernel
theorem dX6_fold_88 : decode cX6_fold 88 = .ok (.iload 5, 2) := by decide +kernel
theorem dX6_fold_90 : decode cX6_fold 90 = .ok (.iload_n 2, 1) := by decide +kernel
theorem dX6_fold_91 : decode cX6_fold 91 = .ok (.irem, 1) := by decide +kernel
theorem dX6_fold_92 : decode cX6_fold 92 = .ok (.iload 4, 2) := by decide +kernel
theorem dX6_fold_94 : decode cX6_fold 94 = .ok (.if_icmp .eq 9, 3) := by decide +kernel
theorem dX6_fold_97 : decode cX6_fold 97 = .ok (.iinc 5 1, 3) := by decide +kernel
theorem dX6_fold_100 : decode cX6_fold 100 = .ok (.goto (-20), 3) := by decide +kernel
theorem dX6_fold_103 : decode cX6_fold 103 = .ok (.aload_n 0, 1) := by decide +kernel
theorem dX6_fold_104 : decode cX6_fold 104 = .ok (.getfield 13, 3) := by decide +kernel
theorem dX6_fold_107 : decode cX6_fold 107 = .ok (.iload 5, 2) := by decide +kernel
theorem dX6_fold_109 : decode cX6_fold 109 = .ok (.iaload, 1) := by decide +kernel
theorem dX6_fold_110 : decode cX6_fold 110 = .ok (.ireturn, 1) := by decide +kernel
theorem dX6_isPrime_0 : decode cX6_isPrime 0 = .ok (.iconst 2, 1) := by decide +kernel
theorem dX6_isPrime_1 : decode cX6_isPrime 1 = .ok (.istore_n 1, 1) := by decide +kernel
theorem dX6_isPrime_2 : decode cX6_isPrime 2 = .ok (.iload_n 1, 1) := by decide +kernel
theorem dX6_isPrime_3 : decode cX6_isPrime 3 = .ok (.iload_n 0, 1) := by decide +kernel
theorem dX6_isPrime_4 : decode cX6_isPrime 4 = .ok (.if_icmp .ge 17, 3) := by decide +kernel
theorem dX6_isPrime_7 : decode cX6_isPrime 7 = .ok (.iload_n 0, 1) := by decide +kernel
theorem dX6_isPrime_8 : decode cX6_isPrime 8 = .ok (.iload_n 1, 1) := by decide +kernel
theorem dX6_isPrime_9 : decode cX6_isPrime 9 = .ok (.irem, 1) := by decide +kernel
theorem dX6_isPrime_10 : decode cX6_isPrime 10 = .ok (.ifCond .ne 5, 3) := by decide +kernel
theorem dX6_isPrime_13 : decode cX6_isPrime 13 = .ok (.iconst 0, 1) := by decide +kernel
theorem dX6_isPrime_14 : decode cX6_isPrime 14 = .ok (.ireturn, 1) := by decide +kernel
theorem dX6_isPrime_15 : decode cX6_isPrime 15 = .ok (.iinc 1 1, 3) := by decide +kernel
theorem dX6_isPrime_18 : decode cX6_isPrime 18 = .ok (.goto (-16), 3) := by decide +kernel
theorem dX6_isPrime_21 : decode cX6_isPrime 21 = .ok (.iload_n 0, 1) := by decide +kernel
theorem dX6_isPrime_22 : decode cX6_isPrime 22 = .ok (.iconst 1, 1) := by decide +kernel
theorem dX6_isPrime_23 : decode cX6_isPrime 23 = .ok (.if_icmp .le 7, 3) := by decide +kernel
theorem dX6_isPrime_26 : decode cX6_isPrime 26 = .ok (.iconst 1, 1) := by decide +kernel
theorem dX6_isPrime_27 : decode cX6_isPrime 27 = .ok (.goto 4, 3) := by decide +kernel
theorem dX6_isPrime_30 : decode cX6_isPrime 30 = .ok (.iconst 0, 1) := by decide +kernel
theorem dX6_isPrime_31 : decode cX6_isPrime 31 = .ok (.ireturn, 1) := by decide +kernel
theorem dX6_isSquare_0 : decode cX6_isSquare 0 = .ok (.iload_n 0, 1) := by decide +kernel
theorem dX6_isSquare_1 : decode cX6_isSquare 1 = .ok (.iload_n 1, 1) := by decide +kernel
theorem dX6_isSquare_2 : decode cX6_isSquare 2 = .ok (.irem, 1) := by decide +kernel
theorem dX6_isSquare_3 : decode cX6_isSquare 3 = .ok (.iload_n 1, 1) := by decide +kernel
theorem dX6_isSquare_4 : decode cX6_isSquare 4 = .ok (.iadd, 1) := by decide +kernel
theorem dX6_isSquare_5 : decode cX6_isSquare 5 = .ok (.iload_n 1, 1) := by decide +kernel
theorem dX6_isSquare_6 : decode cX6_isSquare 6 = .ok (.irem, 1) := by decide +kernel
theorem dX6_isSquare_7 : decode cX6_isSquare 7 = .ok (.istore_n 2, 1) := by decide +kernel
theorem dX6_isSquare_8 : decode cX6_isSquare 8 = .ok (.iconst 1, 1) := by decide +kernel
theorem dX6_isSquare_9 : decode cX6_isSquare 9 = .ok (.istore_n 3, 1) := by decide +kernel
theorem dX6_isSquare_10 : decode cX6_isSquare 10 = .ok (.iload_n 3, 1) := by decide +kernel
theorem dX6_isSquare_11 : decode cX6_isSquare 11 = .ok (.iload_n 1, 1) := by decide +kernel
theorem dX6_isSquare_12 : decode cX6_isSquare 12 = .ok (.if_icmp .ge 28, 3) := by decide +kernel
theorem dX6_isSquare_15 : decode cX6_isSquare 15 = .ok (.iload_n 3, 1) := by decide +kernel
theorem dX6_isSquare_16 : decode cX6_isSquare 16 = .ok (.iload_n 3, 1) := by decide +kernel
theorem dX6_isSquare_17 : decode cX6_isSquare 17 = .ok (.imul, 1) := by decide +kernel
theorem dX6_isSquare_18 : decode cX6_isSquare 18 = .ok (.iload_n 1, 1) := by decide +kernel
theorem dX6_isSquare_19 : decode cX6_isSquare 19 = .ok (.irem, 1) := by decide +kernel
theorem dX6_isSquare_20 : decode cX6_isSquare 20 = .ok (.iload_n 2, 1) := by decide +kernel
theorem dX6_isSquare_21 : decode cX6_isSquare 21 = .ok (.if_icmp .ne 13, 3) := by decide +kernel
theorem dX6_isSquare_24 : decode cX6_isSquare 24 = .ok (.iload_n 2, 1) := by decide +kernel
theorem dX6_isSquare_25 : decode cX6_isSquare 25 = .ok (.ifCond .eq 7, 3) := by decide +kernel
theorem dX6_isSquare_28 : decode cX6_isSquare 28 = .ok (.iconst 1, 1) := by decide +kernel
theorem dX6_isSquare_29 : decode cX6_isSquare 29 = .ok (.goto 4, 3) := by decide +kernel
theorem dX6_isSquare_32 : decode cX6_isSquare 32 = .ok (.iconst 0, 1) := by decide +kernel
theorem dX6_isSquare_33 : decode cX6_isSquare 33 = .ok (.ireturn, 1) := by decide +kernel
theorem dX6_isSquare_34 : decode cX6_isSquare 34 = .ok (.iinc 3 1, 3) := by decide +kernel
theorem dX6_isSquare_37 : decode cX6_isSquare 37 = .ok (.goto (-27), 3) := by decide +kernel
theorem dX6_isSquare_40 : decode cX6_isSquare 40 = .ok (.iconst 0, 1) := by decide +kernel
theorem dX6_isSquare_41 : decode cX6_isSquare 41 = .ok (.ireturn, 1) := by decide +kernel
theorem dX6_holes_0 : decode cX6_holes 0 = .ok (.iconst 0, 1) := by decide +kernel
theorem dX6_holes_1 : decode cX6_holes 1 = .ok (.istore_n 1, 1) := by decide +kernel
theorem dX6_holes_2 : decode cX6_holes 2 = .ok (.iconst 0, 1) := by decide +kernel
theorem dX6_holes_3 : decode cX6_holes 3 = .ok (.istore_n 2, 1) := by decide +kernel
theorem dX6_holes_4 : decode cX6_holes 4 = .ok (.iload_n 2, 1) := by decide +kernel
theorem dX6_holes_5 : decode cX6_holes 5 = .ok (.aload_n 0, 1) := by decide +kernel
theorem dX6_holes_6 : decode cX6_holes 6 = .ok (.getfield 7, 3) := by decide +kernel
theorem dX6_holes_9 : decode cX6_holes 9 = .ok (.if_icmp .ge 27, 3) := by decide +kernel
theorem dX6_holes_12 : decode cX6_holes 12 = .ok (.iload_n 1, 1) := by decide +kernel
theorem dX6_holes_13 : decode cX6_holes 13 = .ok (.aload_n 0, 1) := by decide +kernel
theorem dX6_holes_14 : decode cX6_holes 14 = .ok (.getfield 13, 3) := by decide +kernel
theorem dX6_holes_17 : decode cX6_holes 17 = .ok (.iload_n 2, 1) := by decide +kernel
theorem dX6_holes_18 : decode cX6_holes 18 = .ok (.iaload, 1) := by decide +kernel
theorem dX6_holes_19 : decode cX6_holes 19 = .ok (.iconst 1, 1) := by decide +kernel
theorem dX6_holes_20 : decode cX6_holes 20 = .ok (.if_icmp .ne 7, 3) := by decide +kernel
theorem dX6_holes_23 : decode cX6_holes 23 = .ok (.iconst 1, 1) := by decide +kernel
theorem dX6_holes_24 : decode cX6_holes 24 = .ok (.goto 4, 3) := by decide +kernel
theorem dX6_holes_27 : decode cX6_holes 27 = .ok (.iconst 0, 1) := by decide +kernel
theorem dX6_holes_28 : decode cX6_holes 28 = .ok (.iadd, 1) := by decide +kernel
theorem dX6_holes_29 : decode cX6_holes 29 = .ok (.istore_n 1, 1) := by decide +kernel
theorem dX6_holes_30 : decode cX6_holes 30 = .ok (.iinc 2 1, 3) := by decide +kernel
theorem dX6_holes_33 : decode cX6_holes 33 = .ok (.goto (-29), 3) := by decide +kernel
theorem dX6_holes_36 : decode cX6_holes 36 = .ok (.iload_n 1, 1) := by decide +kernel
theorem dX6_holes_37 : decode cX6_holes 37 = .ok (.ireturn, 1) := by decide +kernel
theorem dX6_rests_0 : decode cX6_rests 0 = .ok (.aload_n 0, 1) := by decide +kernel
theorem dX6_rests_1 : decode cX6_rests 1 = .ok (.invokevirtual 68, 3) := by decide +kernel
theorem dX6_rests_4 : decode cX6_rests 4 = .ok (.iload_n 1, 1) := by decide +kernel
theorem dX6_rests_5 : decode cX6_rests 5 = .ok (.iconst 3, 1) := by decide +kernel
theorem dX6_rests_6 : decode cX6_rests 6 = .ok (.if_icmp .lt 23, 3) := by decide +kernel
theorem dX6_rests_9 : decode cX6_rests 9 = .ok (.iload_n 1, 1) := by decide +kernel
theorem dX6_rests_10 : decode cX6_rests 10 = .ok (.bipush 59, 2) := by decide +kernel
theorem dX6_rests_12 : decode cX6_rests 12 = .ok (.if_icmp .gt 17, 3) := by decide +kernel
theorem dX6_rests_15 : decode cX6_rests 15 = .ok (.iload_n 1, 1) := by decide +kernel
theorem dX6_rests_16 : decode cX6_rests 16 = .ok (.iconst 4, 1) := by decide +kernel
theorem dX6_rests_17 : decode cX6_rests 17 = .ok (.irem, 1) := by decide +kernel
theorem dX6_rests_18 : decode cX6_rests 18 = .ok (.iconst 3, 1) := by decide +kernel
theorem dX6_rests_19 : decode cX6_rests 19 = .ok (.if_icmp .ne 10, 3) := by decide +kernel
theorem dX6_rests_22 : decode cX6_rests 22 = .ok (.iload_n 1, 1) := by decide +kernel
theorem dX6_rests_23 : decode cX6_rests 23 = .ok (.invokestatic 114, 3) := by decide +kernel
theorem dX6_rests_26 : decode cX6_rests 26 = .ok (.ifCond .ne 9, 3) := by decide +kernel
theorem dX6_rests_29 : decode cX6_rests 29 = .ok (.aload_n 0, 1) := by decide +kernel
theorem dX6_rests_30 : decode cX6_rests 30 = .ok (.iconst 1, 1) := by decide +kernel
theorem dX6_rests_31 : decode cX6_rests 31 = .ok (.invokevirtual 79, 3) := by decide +kernel
theorem dX6_rests_34 : decode cX6_rests 34 = .ok (.ireturn, 1) := by decide +kernel
theorem dX6_rests_35 : decode cX6_rests 35 = .ok (.aload_n 0, 1) := by decide +kernel
theorem dX6_rests_36 : decode cX6_rests 36 = .ok (.iload_n 1, 1) := by decide +kernel
theorem dX6_rests_37 : decode cX6_rests 37 = .ok (.invokevirtual 75, 3) := by decide +kernel
theorem dX6_rests_40 : decode cX6_rests 40 = .ok (.iconst 0, 1) := by decide +kernel
theorem dX6_rests_41 : decode cX6_rests 41 = .ok (.istore_n 2, 1) := by decide +kernel
theorem dX6_rests_42 : decode cX6_rests 42 = .ok (.iload_n 2, 1) := by decide +kernel
theorem dX6_rests_43 : decode cX6_rests 43 = .ok (.iload_n 1, 1) := by decide +kernel
theorem dX6_rests_44 : decode cX6_rests 44 = .ok (.if_icmp .ge 28, 3) := by decide +kernel
theorem dX6_rests_47 : decode cX6_rests 47 = .ok (.aload_n 0, 1) := by decide +kernel
theorem dX6_rests_48 : decode cX6_rests 48 = .ok (.getfield 13, 3) := by decide +kernel
theorem dX6_rests_51 : decode cX6_rests 51 = .ok (.iload_n 2, 1) := by decide +kernel
theorem dX6_rests_52 : decode cX6_rests 52 = .ok (.iload_n 2, 1) := by decide +kernel
theorem dX6_rests_53 : decode cX6_rests 53 = .ok (.iload_n 1, 1) := by decide +kernel
theorem dX6_rests_54 : decode cX6_rests 54 = .ok (.invokestatic 117, 3) := by decide +kernel
theorem dX6_rests_57 : decode cX6_rests 57 = .ok (.ifCond .eq 7, 3) := by decide +kernel
theorem dX6_rests_60 : decode cX6_rests 60 = .ok (.iconst 1, 1) := by decide +kernel
theorem dX6_rests_61 : decode cX6_rests 61 = .ok (.goto 4, 3) := by decide +kernel
theorem dX6_rests_64 : decode cX6_rests 64 = .ok (.iconst 0, 1) := by decide +kernel
theorem dX6_rests_65 : decode cX6_rests 65 = .ok (.iastore, 1) := by decide +kernel
theorem dX6_rests_66 : decode cX6_rests 66 = .ok (.iinc 2 1, 3) := by decide +kernel
theorem dX6_rests_69 : decode cX6_rests 69 = .ok (.goto (-27), 3) := by decide +kernel
theorem dX6_rests_72 : decode cX6_rests 72 = .ok (.aload_n 0, 1) := by decide +kernel
theorem dX6_rests_73 : decode cX6_rests 73 = .ok (.invokevirtual 121, 3) := by decide +kernel
theorem dX6_rests_76 : decode cX6_rests 76 = .ok (.ireturn, 1) := by decide +kernel
theorem dX6_twins_0 : decode cX6_twins 0 = .ok (.aload_n 0, 1) := by decide +kernel
theorem dX6_twins_1 : decode cX6_twins 1 = .ok (.invokevirtual 68, 3) := by decide +kernel
theorem dX6_twins_4 : decode cX6_twins 4 = .ok (.iload_n 1, 1) := by decide +kernel
theorem dX6_twins_5 : decode cX6_twins 5 = .ok (.iconst 3, 1) := by decide +kernel
theorem dX6_twins_6 : decode cX6_twins 6 = .ok (.if_icmp .eq 14, 3) := by decide +kernel
theorem dX6_twins_9 : decode cX6_twins 9 = .ok (.iload_n 1, 1) := by decide +kernel
theorem dX6_twins_10 : decode cX6_twins 10 = .ok (.iconst 5, 1) := by decide +kernel
theorem dX6_twins_11 : decode cX6_twins 11 = .ok (.if_icmp .eq 9, 3) := by decide +kernel
theorem dX6_twins_14 : decode cX6_twins 14 = .ok (.aload_n 0, 1) := by decide +kernel
theorem dX6_twins_15 : decode cX6_twins 15 = .ok (.iconst 1, 1) := by decide +kernel
theorem dX6_twins_16 : decode cX6_twins 16 = .ok (.invokevirtual 79, 3) := by decide +kernel
theorem dX6_twins_19 : decode cX6_twins 19 = .ok (.ireturn, 1) := by decide +kernel
theorem dX6_twins_20 : decode cX6_twins 20 = .ok (.iload_n 1, 1) := by decide +kernel
theorem dX6_twins_21 : decode cX6_twins 21 = .ok (.iconst 2, 1) := by decide +kernel
theorem dX6_twins_22 : decode cX6_twins 22 = .ok (.iadd, 1) := by decide +kernel
theorem dX6_twins_23 : decode cX6_twins 23 = .ok (.istore_n 2, 1) := by decide +kernel
theorem dX6_twins_24 : decode cX6_twins 24 = .ok (.aload_n 0, 1) := by decide +kernel
theorem dX6_twins_25 : decode cX6_twins 25 = .ok (.iload_n 1, 1) := by decide +kernel
theorem dX6_twins_26 : decode cX6_twins 26 = .ok (.iload_n 2, 1) := by decide +kernel
theorem dX6_twins_27 : decode cX6_twins 27 = .ok (.imul, 1) := by decide +kernel
theorem dX6_twins_28 : decode cX6_twins 28 = .ok (.invokevirtual 75, 3) := by decide +kernel
theorem dX6_twins_31 : decode cX6_twins 31 = .ok (.iconst 0, 1) := by decide +kernel
theorem dX6_twins_32 : decode cX6_twins 32 = .ok (.istore_n 3, 1) := by decide +kernel
theorem dX6_twins_33 : decode cX6_twins 33 = .ok (.iload_n 3, 1) := by decide +kernel
theorem dX6_twins_34 : decode cX6_twins 34 = .ok (.aload_n 0, 1) := by decide +kernel
theorem dX6_twins_35 : decode cX6_twins 35 = .ok (.getfield 7, 3) := by decide +kernel
theorem dX6_twins_38 : decode cX6_twins 38 = .ok (.if_icmp .ge 57, 3) := by decide +kernel
theorem dX6_twins_41 : decode cX6_twins 41 = .ok (.iload_n 3, 1) := by decide +kernel
theorem dX6_twins_42 : decode cX6_twins 42 = .ok (.iload_n 2, 1) := by decide +kernel
theorem dX6_twins_43 : decode cX6_twins 43 = .ok (.irem, 1) := by decide +kernel
theorem dX6_twins_44 : decode cX6_twins 44 = .ok (.ifCond .eq 22, 3) := by decide +kernel
theorem dX6_twins_47 : decode cX6_twins 47 = .ok (.iload_n 3, 1) := by decide +kernel
theorem dX6_twins_48 : decode cX6_twins 48 = .ok (.iload_n 1, 1) := by decide +kernel
theorem dX6_twins_49 : decode cX6_twins 49 = .ok (.irem, 1) := by decide +kernel
theorem dX6_twins_50 : decode cX6_twins 50 = .ok (.ifCond .eq 20, 3) := by decide +kernel
theorem dX6_twins_53 : decode cX6_twins 53 = .ok (.iload_n 3, 1) := by decide +kernel
theorem dX6_twins_54 : decode cX6_twins 54 = .ok (.iload_n 1, 1) := by decide +kernel
theorem dX6_twins_55 : decode cX6_twins 55 = .ok (.invokestatic 117, 3) := by decide +kernel
theorem dX6_twins_58 : decode cX6_twins 58 = .ok (.iload_n 3, 1) := by decide +kernel
theorem dX6_twins_59 : decode cX6_twins 59 = .ok (.iload_n 2, 1) := by decide +kernel
theorem dX6_twins_60 : decode cX6_twins 60 = .ok (.invokestatic 117, 3) := by decide +kernel
theorem dX6_twins_63 : decode cX6_twins 63 = .ok (.if_icmp .ne 7, 3) := by decide +kernel
theorem dX6_twins_66 : decode cX6_twins 66 = .ok (.iconst 1, 1) := by decide +kernel
theorem dX6_twins_67 : decode cX6_twins 67 = .ok (.goto 4, 3) := by decide +kernel
theorem dX6_twins_70 : decode cX6_twins 70 = .ok (.iconst 0, 1) := by decide +kernel
theorem dX6_twins_71 : decode cX6_twins 71 = .ok (.istore 4, 2) := by decide +kernel
theorem dX6_twins_73 : decode cX6_twins 73 = .ok (.aload_n 0, 1) := by decide +kernel
theorem dX6_twins_74 : decode cX6_twins 74 = .ok (.getfield 13, 3) := by decide +kernel
theorem dX6_twins_77 : decode cX6_twins 77 = .ok (.iload_n 3, 1) := by decide +kernel
theorem dX6_twins_78 : decode cX6_twins 78 = .ok (.iload 4, 2) := by decide +kernel
theorem dX6_twins_80 : decode cX6_twins 80 = .ok (.ifCond .eq 7, 3) := by decide +kernel
theorem dX6_twins_83 : decode cX6_twins 83 = .ok (.iconst 1, 1) := by decide +kernel
theorem dX6_twins_84 : decode cX6_twins 84 = .ok (.goto 4, 3) := by decide +kernel
theorem dX6_twins_87 : decode cX6_twins 87 = .ok (.iconst 0, 1) := by decide +kernel
theorem dX6_twins_88 : decode cX6_twins 88 = .ok (.iastore, 1) := by decide +kernel
theorem dX6_twins_89 : decode cX6_twins 89 = .ok (.iinc 3 1, 3) := by decide +kernel
theorem dX6_twins_92 : decode cX6_twins 92 = .ok (.goto (-59), 3) := by decide +kernel
theorem dX6_twins_95 : decode cX6_twins 95 = .ok (.aload_n 0, 1) := by decide +kernel
theorem dX6_twins_96 : decode cX6_twins 96 = .ok (.invokevirtual 121, 3) := by decide +kernel
theorem dX6_twins_99 : decode cX6_twins 99 = .ok (.ireturn, 1) := by decide +kernel
theorem dX6_round_0 : decode cX6_round 0 = .ok (.iconst 1, 1) := by decide +kernel
theorem dX6_round_1 : decode cX6_round 1 = .ok (.iload_n 1, 1) := by decide +kernel
theorem dX6_round_2 : decode cX6_round 2 = .ok (.iconst 1, 1) := by decide +kernel
theorem dX6_round_3 : decode cX6_round 3 = .ok (.isub, 1) := by decide +kernel
theorem dX6_round_4 : decode cX6_round 4 = .ok (.ishl, 1) := by decide +kernel
theorem dX6_round_5 : decode cX6_round 5 = .ok (.istore 5, 2) := by decide +kernel
theorem dX6_round_7 : decode cX6_round 7 = .ok (.iconst 0, 1) := by decide +kernel
theorem dX6_round_8 : decode cX6_round 8 = .ok (.istore 6, 2) := by decide +kernel
theorem dX6_round_10 : decode cX6_round 10 = .ok (.iload 6, 2) := by decide +kernel
theorem dX6_round_12 : decode cX6_round 12 = .ok (.iload 4, 2) := by decide +kernel
theorem dX6_round_14 : decode cX6_round 14 = .ok (.if_icmp .ge 56, 3) := by decide +kernel
theorem dX6_round_17 : decode cX6_round 17 = .ok (.aload_n 3, 1) := by decide +kernel
theorem dX6_round_18 : decode cX6_round 18 = .ok (.iload 6, 2) := by decide +kernel
theorem dX6_round_20 : decode cX6_round 20 = .ok (.iload 5, 2) := by decide +kernel
theorem dX6_round_22 : decode cX6_round 22 = .ok (.iconst 1, 1) := by decide +kernel
theorem dX6_round_23 : decode cX6_round 23 = .ok (.iand, 1) := by decide +kernel
theorem dX6_round_24 : decode cX6_round 24 = .ok (.iastore, 1) := by decide +kernel
theorem dX6_round_25 : decode cX6_round 25 = .ok (.iload 5, 2) := by decide +kernel
theorem dX6_round_27 : decode cX6_round 27 = .ok (.iload_n 2, 1) := by decide +kernel
theorem dX6_round_28 : decode cX6_round 28 = .ok (.iand, 1) := by decide +kernel
theorem dX6_round_29 : decode cX6_round 29 = .ok (.invokestatic 124, 3) := by decide +kernel
theorem dX6_round_32 : decode cX6_round 32 = .ok (.iconst 1, 1) := by decide +kernel
theorem dX6_round_33 : decode cX6_round 33 = .ok (.iand, 1) := by decide +kernel
theorem dX6_round_34 : decode cX6_round 34 = .ok (.istore 7, 2) := by decide +kernel
theorem dX6_round_36 : decode cX6_round 36 = .ok (.iload 5, 2) := by decide +kernel
theorem dX6_round_38 : decode cX6_round 38 = .ok (.iconst 1, 1) := by decide +kernel
theorem dX6_round_39 : decode cX6_round 39 = .ok (.ishr, 1) := by decide +kernel
theorem dX6_round_40 : decode cX6_round 40 = .ok (.iload 7, 2) := by decide +kernel
theorem dX6_round_42 : decode cX6_round 42 = .ok (.iload_n 1, 1) := by decide +kernel
theorem dX6_round_43 : decode cX6_round 43 = .ok (.iconst 1, 1) := by decide +kernel
theorem dX6_round_44 : decode cX6_round 44 = .ok (.isub, 1) := by decide +kernel
theorem dX6_round_45 : decode cX6_round 45 = .ok (.ishl, 1) := by decide +kernel
theorem dX6_round_46 : decode cX6_round 46 = .ok (.ior, 1) := by decide +kernel
theorem dX6_round_47 : decode cX6_round 47 = .ok (.istore 5, 2) := by decide +kernel
theorem dX6_round_49 : decode cX6_round 49 = .ok (.iload 5, 2) := by decide +kernel
theorem dX6_round_51 : decode cX6_round 51 = .ok (.iconst 1, 1) := by decide +kernel
theorem dX6_round_52 : decode cX6_round 52 = .ok (.iload_n 1, 1) := by decide +kernel
theorem dX6_round_53 : decode cX6_round 53 = .ok (.iconst 1, 1) := by decide +kernel
theorem dX6_round_54 : decode cX6_round 54 = .ok (.isub, 1) := by decide +kernel
theorem dX6_round_55 : decode cX6_round 55 = .ok (.ishl, 1) := by decide +kernel
theorem dX6_round_56 : decode cX6_round 56 = .ok (.if_icmp .ne 8, 3) := by decide +kernel
theorem dX6_round_59 : decode cX6_round 59 = .ok (.iload 6, 2) := by decide +kernel
theorem dX6_round_61 : decode cX6_round 61 = .ok (.iconst 1, 1) := by decide +kernel
theorem dX6_round_62 : decode cX6_round 62 = .ok (.iadd, 1) := by decide +kernel
theorem dX6_round_63 : decode cX6_round 63 = .ok (.ireturn, 1) := by decide +kernel
theorem dX6_round_64 : decode cX6_round 64 = .ok (.iinc 6 1, 3) := by decide +kernel
theorem dX6_round_67 : decode cX6_round 67 = .ok (.goto (-57), 3) := by decide +kernel
theorem dX6_round_70 : decode cX6_round 70 = .ok (.iload 4, 2) := by decide +kernel
theorem dX6_round_72 : decode cX6_round 72 = .ok (.iconst 1, 1) := by decide +kernel
theorem dX6_round_73 : decode cX6_round 73 = .ok (.iadd, 1) := by decide +kernel
theorem dX6_round_74 : decode cX6_round 74 = .ok (.ireturn, 1) := by decide +kernel
theorem dX6_shift_0 : decode cX6_shift 0 = .ok (.aload_n 0, 1) := by decide +kernel
theorem dX6_shift_1 : decode cX6_shift 1 = .ok (.invokevirtual 68, 3) := by decide +kernel
theorem dX6_shift_4 : decode cX6_shift 4 = .ok (.iload_n 1, 1) := by decide +kernel
theorem dX6_shift_5 : decode cX6_shift 5 = .ok (.iconst 2, 1) := by decide +kernel
theorem dX6_shift_6 : decode cX6_shift 6 = .ok (.if_icmp .lt 8, 3) := by decide +kernel
theorem dX6_shift_9 : decode cX6_shift 9 = .ok (.iload_n 1, 1) := by decide +kernel
theorem dX6_shift_10 : decode cX6_shift 10 = .ok (.iconst 5, 1) := by decide +kernel
theorem dX6_shift_11 : decode cX6_shift 11 = .ok (.if_icmp .le 9, 3) := by decide +kernel
theorem dX6_shift_14 : decode cX6_shift 14 = .ok (.aload_n 0, 1) := by decide +kernel
theorem dX6_shift_15 : decode cX6_shift 15 = .ok (.iconst 1, 1) := by decide +kernel
theorem dX6_shift_16 : decode cX6_shift 16 = .ok (.invokevirtual 79, 3) := by decide +kernel
theorem dX6_shift_19 : decode cX6_shift 19 = .ok (.ireturn, 1) := by decide +kernel
theorem dX6_shift_20 : decode cX6_shift 20 = .ok (.iconst 1, 1) := by decide +kernel
theorem dX6_shift_21 : decode cX6_shift 21 = .ok (.iload_n 1, 1) := by decide +kernel
theorem dX6_shift_22 : decode cX6_shift 22 = .ok (.ishl, 1) := by decide +kernel
theorem dX6_shift_23 : decode cX6_shift 23 = .ok (.iconst 1, 1) := by decide +kernel
theorem dX6_shift_24 : decode cX6_shift 24 = .ok (.isub, 1) := by decide +kernel
theorem dX6_shift_25 : decode cX6_shift 25 = .ok (.istore_n 2, 1) := by decide +kernel
theorem dX6_shift_26 : decode cX6_shift 26 = .ok (.aload_n 0, 1) := by decide +kernel
theorem dX6_shift_27 : decode cX6_shift 27 = .ok (.iload_n 2, 1) := by decide +kernel
theorem dX6_shift_28 : decode cX6_shift 28 = .ok (.invokevirtual 75, 3) := by decide +kernel
theorem dX6_shift_31 : decode cX6_shift 31 = .ok (.iconst 1, 1) := by decide +kernel
theorem dX6_shift_32 : decode cX6_shift 32 = .ok (.istore_n 3, 1) := by decide +kernel
theorem dX6_shift_33 : decode cX6_shift 33 = .ok (.iload_n 3, 1) := by decide +kernel
theorem dX6_shift_34 : decode cX6_shift 34 = .ok (.iconst 1, 1) := by decide +kernel
theorem dX6_shift_35 : decode cX6_shift 35 = .ok (.iload_n 1, 1) := by decide +kernel
theorem dX6_shift_36 : decode cX6_shift 36 = .ok (.ishl, 1) := by decide +kernel
theorem dX6_shift_37 : decode cX6_shift 37 = .ok (.if_icmp .ge 26, 3) := by decide +kernel
theorem dX6_shift_40 : decode cX6_shift 40 = .ok (.aload_n 0, 1) := by decide +kernel
theorem dX6_shift_41 : decode cX6_shift 41 = .ok (.iload_n 1, 1) := by decide +kernel
theorem dX6_shift_42 : decode cX6_shift 42 = .ok (.iload_n 3, 1) := by decide +kernel
theorem dX6_shift_43 : decode cX6_shift 43 = .ok (.aload_n 0, 1) := by decide +kernel
theorem dX6_shift_44 : decode cX6_shift 44 = .ok (.getfield 13, 3) := by decide +kernel
theorem dX6_shift_47 : decode cX6_shift 47 = .ok (.iload_n 2, 1) := by decide +kernel
theorem dX6_shift_48 : decode cX6_shift 48 = .ok (.invokevirtual 129, 3) := by decide +kernel
theorem dX6_shift_51 : decode cX6_shift 51 = .ok (.iload_n 2, 1) := by decide +kernel
theorem dX6_shift_52 : decode cX6_shift 52 = .ok (.if_icmp .ne 5, 3) := by decide +kernel
theorem dX6_shift_55 : decode cX6_shift 55 = .ok (.iload_n 3, 1) := by decide +kernel
theorem dX6_shift_56 : decode cX6_shift 56 = .ok (.ireturn, 1) := by decide +kernel
theorem dX6_shift_57 : decode cX6_shift 57 = .ok (.iinc 3 2, 3) := by decide +kernel
theorem dX6_shift_60 : decode cX6_shift 60 = .ok (.goto (-27), 3) := by decide +kernel
theorem dX6_shift_63 : decode cX6_shift 63 = .ok (.iconst 0, 1) := by decide +kernel
theorem dX6_shift_64 : decode cX6_shift 64 = .ok (.ireturn, 1) := by decide +kernel
theorem dX6_down_0 : decode cX6_down 0 = .ok (.iconst 0, 1) := by decide +kernel
theorem dX6_down_1 : decode cX6_down 1 = .ok (.istore 4, 2) := by decide +kernel
theorem dX6_down_3 : decode cX6_down 3 = .ok (.lconst 1, 1) := by decide +kernel
theorem dX6_down_4 : decode cX6_down 4 = .ok (.lstore 5, 2) := by decide +kernel
theorem dX6_down_6 : decode cX6_down 6 = .ok (.iconst 0, 1) := by decide +kernel
theorem dX6_down_7 : decode cX6_down 7 = .ok (.istore 7, 2) := by decide +kernel
theorem dX6_down_9 : decode cX6_down 9 = .ok (.iload 7, 2) := by decide +kernel
theorem dX6_down_11 : decode cX6_down 11 = .ok (.iload_n 2, 1) := by decide +kernel
theorem dX6_down_12 : decode cX6_down 12 = .ok (.if_icmp .ge 245, 3) := by decide +kernel
theorem dX6_down_15 : decode cX6_down 15 = .ok (.iload 4, 2) := by decide +kernel
theorem dX6_down_17 : decode cX6_down 17 = .ok (.iload_n 1, 1) := by decide +kernel
theorem dX6_down_18 : decode cX6_down 18 = .ok (.if_icmp .ge 239, 3) := by decide +kernel
theorem dX6_down_21 : decode cX6_down 21 = .ok (.iload 4, 2) := by decide +kernel
theorem dX6_down_23 : decode cX6_down 23 = .ok (.istore 8, 2) := by decide +kernel
theorem dX6_down_25 : decode cX6_down 25 = .ok (.iload 8, 2) := by decide +kernel
theorem dX6_down_27 : decode cX6_down 27 = .ok (.iload_n 1, 1) := by decide +kernel
theorem dX6_down_28 : decode cX6_down 28 = .ok (.if_icmp .ge 26, 3) := by decide +kernel
theorem dX6_down_31 : decode cX6_down 31 = .ok (.aload_n 0, 1) := by decide +kernel
theorem dX6_down_32 : decode cX6_down 32 = .ok (.getfield 46, 3) := by decide +kernel
theorem dX6_down_35 : decode cX6_down 35 = .ok (.iload_n 3, 1) := by decide +kernel
theorem dX6_down_36 : decode cX6_down 36 = .ok (.iload 8, 2) := by decide +kernel
theorem dX6_down_38 : decode cX6_down 38 = .ok (.imul, 1) := by decide +kernel
theorem dX6_down_39 : decode cX6_down 39 = .ok (.iload 7, 2) := by decide +kernel
theorem dX6_down_41 : decode cX6_down 41 = .ok (.iadd, 1) := by decide +kernel
theorem dX6_down_42 : decode cX6_down 42 = .ok (.laload, 1) := by decide +kernel
theorem dX6_down_43 : decode cX6_down 43 = .ok (.lconst 0, 1) := by decide +kernel
theorem dX6_down_44 : decode cX6_down 44 = .ok (.lcmp, 1) := by decide +kernel
theorem dX6_down_45 : decode cX6_down 45 = .ok (.ifCond .ne 9, 3) := by decide +kernel
theorem dX6_down_48 : decode cX6_down 48 = .ok (.iinc 8 1, 3) := by decide +kernel
theorem dX6_down_51 : decode cX6_down 51 = .ok (.goto (-26), 3) := by decide +kernel
theorem dX6_down_54 : decode cX6_down 54 = .ok (.iload 8, 2) := by decide +kernel
theorem dX6_down_56 : decode cX6_down 56 = .ok (.iload_n 1, 1) := by decide +kernel
theorem dX6_down_57 : decode cX6_down 57 = .ok (.if_icmp .ne 6, 3) := by decide +kernel
theorem dX6_down_60 : decode cX6_down 60 = .ok (.goto 191, 3) := by decide +kernel
theorem dX6_down_63 : decode cX6_down 63 = .ok (.iconst 0, 1) := by decide +kernel
theorem dX6_down_64 : decode cX6_down 64 = .ok (.istore 9, 2) := by decide +kernel
theorem dX6_down_66 : decode cX6_down 66 = .ok (.iload 9, 2) := by decide +kernel
theorem dX6_down_68 : decode cX6_down 68 = .ok (.iload_n 3, 1) := by decide +kernel
theorem dX6_down_69 : decode cX6_down 69 = .ok (.if_icmp .ge 61, 3) := by decide +kernel
theorem dX6_down_72 : decode cX6_down 72 = .ok (.aload_n 0, 1) := by decide +kernel
theorem dX6_down_73 : decode cX6_down 73 = .ok (.getfield 46, 3) := by decide +kernel
theorem dX6_down_76 : decode cX6_down 76 = .ok (.iload_n 3, 1) := by decide +kernel
theorem dX6_down_77 : decode cX6_down 77 = .ok (.iload 8, 2) := by decide +kernel
theorem dX6_down_79 : decode cX6_down 79 = .ok (.imul, 1) := by decide +kernel
theorem dX6_down_80 : decode cX6_down 80 = .ok (.iload 9, 2) := by decide +kernel
theorem dX6_down_82 : decode cX6_down 82 = .ok (.iadd, 1) := by decide +kernel
theorem dX6_down_83 : decode cX6_down 83 = .ok (.laload, 1) := by decide +kernel
theorem dX6_down_84 : decode cX6_down 84 = .ok (.lstore 10, 2) := by decide +kernel
theorem dX6_down_86 : decode cX6_down 86 = .ok (.aload_n 0, 1) := by decide +kernel
theorem dX6_down_87 : decode cX6_down 87 = .ok (.getfield 46, 3) := by decide +kernel
theorem dX6_down_90 : decode cX6_down 90 = .ok (.iload_n 3, 1) := by decide +kernel
theorem dX6_down_91 : decode cX6_down 91 = .ok (.iload 8, 2) := by decide +kernel
theorem dX6_down_93 : decode cX6_down 93 = .ok (.imul, 1) := by decide +kernel
theorem dX6_down_94 : decode cX6_down 94 = .ok (.iload 9, 2) := by decide +kernel
theorem dX6_down_96 : decode cX6_down 96 = .ok (.iadd, 1) := by decide +kernel
theorem dX6_down_97 : decode cX6_down 97 = .ok (.aload_n 0, 1) := by decide +kernel
theorem dX6_down_98 : decode cX6_down 98 = .ok (.getfield 46, 3) := by decide +kernel
theorem dX6_down_101 : decode cX6_down 101 = .ok (.iload_n 3, 1) := by decide +kernel
theorem dX6_down_102 : decode cX6_down 102 = .ok (.iload 4, 2) := by decide +kernel
theorem dX6_down_104 : decode cX6_down 104 = .ok (.imul, 1) := by decide +kernel
theorem dX6_down_105 : decode cX6_down 105 = .ok (.iload 9, 2) := by decide +kernel
theorem dX6_down_107 : decode cX6_down 107 = .ok (.iadd, 1) := by decide +kernel
theorem dX6_down_108 : decode cX6_down 108 = .ok (.laload, 1) := by decide +kernel
theorem dX6_down_109 : decode cX6_down 109 = .ok (.lastore, 1) := by decide +kernel
theorem dX6_down_110 : decode cX6_down 110 = .ok (.aload_n 0, 1) := by decide +kernel
theorem dX6_down_111 : decode cX6_down 111 = .ok (.getfield 46, 3) := by decide +kernel
theorem dX6_down_114 : decode cX6_down 114 = .ok (.iload_n 3, 1) := by decide +kernel
theorem dX6_down_115 : decode cX6_down 115 = .ok (.iload 4, 2) := by decide +kernel
theorem dX6_down_117 : decode cX6_down 117 = .ok (.imul, 1) := by decide +kernel
theorem dX6_down_118 : decode cX6_down 118 = .ok (.iload 9, 2) := by decide +kernel
theorem dX6_down_120 : decode cX6_down 120 = .ok (.iadd, 1) := by decide +kernel
theorem dX6_down_121 : decode cX6_down 121 = .ok (.lload 10, 2) := by decide +kernel
theorem dX6_down_123 : decode cX6_down 123 = .ok (.lastore, 1) := by decide +kernel
theorem dX6_down_124 : decode cX6_down 124 = .ok (.iinc 9 1, 3) := by decide +kernel
theorem dX6_down_127 : decode cX6_down 127 = .ok (.goto (-61), 3) := by decide +kernel
theorem dX6_down_130 : decode cX6_down 130 = .ok (.aload_n 0, 1) := by decide +kernel
theorem dX6_down_131 : decode cX6_down 131 = .ok (.getfield 46, 3) := by decide +kernel
theorem dX6_down_134 : decode cX6_down 134 = .ok (.iload_n 3, 1) := by decide +kernel
theorem dX6_down_135 : decode cX6_down 135 = .ok (.iload 4, 2) := by decide +kernel
theorem dX6_down_137 : decode cX6_down 137 = .ok (.imul, 1) := by decide +kernel
theorem dX6_down_138 : decode cX6_down 138 = .ok (.iload 7, 2) := by decide +kernel
theorem dX6_down_140 : decode cX6_down 140 = .ok (.iadd, 1) := by decide +kernel
theorem dX6_down_141 : decode cX6_down 141 = .ok (.laload, 1) := by decide +kernel
theorem dX6_down_142 : decode cX6_down 142 = .ok (.lstore 9, 2) := by decide +kernel
theorem dX6_down_144 : decode cX6_down 144 = .ok (.iconst 0, 1) := by decide +kernel
theorem dX6_down_145 : decode cX6_down 145 = .ok (.istore 11, 2) := by decide +kernel
theorem dX6_down_147 : decode cX6_down 147 = .ok (.iload 11, 2) := by decide +kernel
theorem dX6_down_149 : decode cX6_down 149 = .ok (.iload_n 1, 1) := by decide +kernel
theorem dX6_down_150 : decode cX6_down 150 = .ok (.if_icmp .ge 94, 3) := by decide +kernel
theorem dX6_down_153 : decode cX6_down 153 = .ok (.iload 11, 2) := by decide +kernel
theorem dX6_down_155 : decode cX6_down 155 = .ok (.iload 4, 2) := by decide +kernel
theorem dX6_down_157 : decode cX6_down 157 = .ok (.if_icmp .ne 6, 3) := by decide +kernel
theorem dX6_down_160 : decode cX6_down 160 = .ok (.goto 78, 3) := by decide +kernel
theorem dX6_down_163 : decode cX6_down 163 = .ok (.aload_n 0, 1) := by decide +kernel
theorem dX6_down_164 : decode cX6_down 164 = .ok (.getfield 46, 3) := by decide +kernel
theorem dX6_down_167 : decode cX6_down 167 = .ok (.iload_n 3, 1) := by decide +kernel
theorem dX6_down_168 : decode cX6_down 168 = .ok (.iload 11, 2) := by decide +kernel
theorem dX6_down_170 : decode cX6_down 170 = .ok (.imul, 1) := by decide +kernel
theorem dX6_down_171 : decode cX6_down 171 = .ok (.iload 7, 2) := by decide +kernel
theorem dX6_down_173 : decode cX6_down 173 = .ok (.iadd, 1) := by decide +kernel
theorem dX6_down_174 : decode cX6_down 174 = .ok (.laload, 1) := by decide +kernel
theorem dX6_down_175 : decode cX6_down 175 = .ok (.lstore 12, 2) := by decide +kernel
theorem dX6_down_177 : decode cX6_down 177 = .ok (.iconst 0, 1) := by decide +kernel
theorem dX6_down_178 : decode cX6_down 178 = .ok (.istore 14, 2) := by decide +kernel
theorem dX6_down_180 : decode cX6_down 180 = .ok (.iload 14, 2) := by decide +kernel
theorem dX6_down_182 : decode cX6_down 182 = .ok (.iload_n 3, 1) := by decide +kernel
theorem dX6_down_183 : decode cX6_down 183 = .ok (.if_icmp .ge 55, 3) := by decide +kernel
theorem dX6_down_186 : decode cX6_down 186 = .ok (.aload_n 0, 1) := by decide +kernel
theorem dX6_down_187 : decode cX6_down 187 = .ok (.getfield 46, 3) := by decide +kernel
theorem dX6_down_190 : decode cX6_down 190 = .ok (.iload_n 3, 1) := by decide +kernel
theorem dX6_down_191 : decode cX6_down 191 = .ok (.iload 11, 2) := by decide +kernel
theorem dX6_down_193 : decode cX6_down 193 = .ok (.imul, 1) := by decide +kernel
theorem dX6_down_194 : decode cX6_down 194 = .ok (.iload 14, 2) := by decide +kernel
theorem dX6_down_196 : decode cX6_down 196 = .ok (.iadd, 1) := by decide +kernel
theorem dX6_down_197 : decode cX6_down 197 = .ok (.lload 9, 2) := by decide +kernel
theorem dX6_down_199 : decode cX6_down 199 = .ok (.aload_n 0, 1) := by decide +kernel
theorem dX6_down_200 : decode cX6_down 200 = .ok (.getfield 46, 3) := by decide +kernel
theorem dX6_down_203 : decode cX6_down 203 = .ok (.iload_n 3, 1) := by decide +kernel
theorem dX6_down_204 : decode cX6_down 204 = .ok (.iload 11, 2) := by decide +kernel
theorem dX6_down_206 : decode cX6_down 206 = .ok (.imul, 1) := by decide +kernel
theorem dX6_down_207 : decode cX6_down 207 = .ok (.iload 14, 2) := by decide +kernel
theorem dX6_down_209 : decode cX6_down 209 = .ok (.iadd, 1) := by decide +kernel
theorem dX6_down_210 : decode cX6_down 210 = .ok (.laload, 1) := by decide +kernel
theorem dX6_down_211 : decode cX6_down 211 = .ok (.lmul, 1) := by decide +kernel
theorem dX6_down_212 : decode cX6_down 212 = .ok (.lload 12, 2) := by decide +kernel
theorem dX6_down_214 : decode cX6_down 214 = .ok (.aload_n 0, 1) := by decide +kernel
theorem dX6_down_215 : decode cX6_down 215 = .ok (.getfield 46, 3) := by decide +kernel
theorem dX6_down_218 : decode cX6_down 218 = .ok (.iload_n 3, 1) := by decide +kernel
theorem dX6_down_219 : decode cX6_down 219 = .ok (.iload 4, 2) := by decide +kernel
theorem dX6_down_221 : decode cX6_down 221 = .ok (.imul, 1) := by decide +kernel
theorem dX6_down_222 : decode cX6_down 222 = .ok (.iload 14, 2) := by decide +kernel
theorem dX6_down_224 : decode cX6_down 224 = .ok (.iadd, 1) := by decide +kernel
theorem dX6_down_225 : decode cX6_down 225 = .ok (.laload, 1) := by decide +kernel
theorem dX6_down_226 : decode cX6_down 226 = .ok (.lmul, 1) := by decide +kernel
theorem dX6_down_227 : decode cX6_down 227 = .ok (.lsub, 1) := by decide +kernel
theorem dX6_down_228 : decode cX6_down 228 = .ok (.lload 5, 2) := by decide +kernel
theorem dX6_down_230 : decode cX6_down 230 = .ok (.ldiv, 1) := by decide +kernel
theorem dX6_down_231 : decode cX6_down 231 = .ok (.lastore, 1) := by decide +kernel
theorem dX6_down_232 : decode cX6_down 232 = .ok (.iinc 14 1, 3) := by decide +kernel
theorem dX6_down_235 : decode cX6_down 235 = .ok (.goto (-55), 3) := by decide +kernel
theorem dX6_down_238 : decode cX6_down 238 = .ok (.iinc 11 1, 3) := by decide +kernel
theorem dX6_down_241 : decode cX6_down 241 = .ok (.goto (-94), 3) := by decide +kernel
theorem dX6_down_244 : decode cX6_down 244 = .ok (.lload 9, 2) := by decide +kernel
theorem dX6_down_246 : decode cX6_down 246 = .ok (.lstore 5, 2) := by decide +kernel
theorem dX6_down_248 : decode cX6_down 248 = .ok (.iinc 4 1, 3) := by decide +kernel
theorem dX6_down_251 : decode cX6_down 251 = .ok (.iinc 7 1, 3) := by decide +kernel
theorem dX6_down_254 : decode cX6_down 254 = .ok (.goto (-245), 3) := by decide +kernel
theorem dX6_down_257 : decode cX6_down 257 = .ok (.aload_n 0, 1) := by decide +kernel
theorem dX6_down_258 : decode cX6_down 258 = .ok (.lload 5, 2) := by decide +kernel
theorem dX6_down_260 : decode cX6_down 260 = .ok (.putfield 133, 3) := by decide +kernel
theorem dX6_down_263 : decode cX6_down 263 = .ok (.iload 4, 2) := by decide +kernel
theorem dX6_down_265 : decode cX6_down 265 = .ok (.ireturn, 1) := by decide +kernel
theorem dX6_gcd_0 : decode cX6_gcd 0 = .ok (.lload_n 0, 1) := by decide +kernel
theorem dX6_gcd_1 : decode cX6_gcd 1 = .ok (.lconst 0, 1) := by decide +kernel
theorem dX6_gcd_2 : decode cX6_gcd 2 = .ok (.lcmp, 1) := by decide +kernel
theorem dX6_gcd_3 : decode cX6_gcd 3 = .ok (.ifCond .ge 8, 3) := by decide +kernel
theorem dX6_gcd_6 : decode cX6_gcd 6 = .ok (.lload_n 0, 1) := by decide +kernel
theorem dX6_gcd_7 : decode cX6_gcd 7 = .ok (.lneg, 1) := by decide +kernel
theorem dX6_gcd_8 : decode cX6_gcd 8 = .ok (.goto 4, 3) := by decide +kernel
theorem dX6_gcd_11 : decode cX6_gcd 11 = .ok (.lload_n 0, 1) := by decide +kernel
theorem dX6_gcd_12 : decode cX6_gcd 12 = .ok (.lstore 4, 2) := by decide +kernel
theorem dX6_gcd_14 : decode cX6_gcd 14 = .ok (.lload_n 2, 1) := by decide +kernel
theorem dX6_gcd_15 : decode cX6_gcd 15 = .ok (.lconst 0, 1) := by decide +kernel
theorem dX6_gcd_16 : decode cX6_gcd 16 = .ok (.lcmp, 1) := by decide +kernel
theorem dX6_gcd_17 : decode cX6_gcd 17 = .ok (.ifCond .ge 8, 3) := by decide +kernel
theorem dX6_gcd_20 : decode cX6_gcd 20 = .ok (.lload_n 2, 1) := by decide +kernel
theorem dX6_gcd_21 : decode cX6_gcd 21 = .ok (.lneg, 1) := by decide +kernel
theorem dX6_gcd_22 : decode cX6_gcd 22 = .ok (.goto 4, 3) := by decide +kernel
theorem dX6_gcd_25 : decode cX6_gcd 25 = .ok (.lload_n 2, 1) := by decide +kernel
theorem dX6_gcd_26 : decode cX6_gcd 26 = .ok (.lstore 6, 2) := by decide +kernel
theorem dX6_gcd_28 : decode cX6_gcd 28 = .ok (.lload 6, 2) := by decide +kernel
theorem dX6_gcd_30 : decode cX6_gcd 30 = .ok (.lconst 0, 1) := by decide +kernel
theorem dX6_gcd_31 : decode cX6_gcd 31 = .ok (.lcmp, 1) := by decide +kernel
theorem dX6_gcd_32 : decode cX6_gcd 32 = .ok (.ifCond .eq 21, 3) := by decide +kernel
theorem dX6_gcd_35 : decode cX6_gcd 35 = .ok (.lload 4, 2) := by decide +kernel
theorem dX6_gcd_37 : decode cX6_gcd 37 = .ok (.lload 6, 2) := by decide +kernel
theorem dX6_gcd_39 : decode cX6_gcd 39 = .ok (.lrem, 1) := by decide +kernel
theorem dX6_gcd_40 : decode cX6_gcd 40 = .ok (.lstore 8, 2) := by decide +kernel
theorem dX6_gcd_42 : decode cX6_gcd 42 = .ok (.lload 6, 2) := by decide +kernel
theorem dX6_gcd_44 : decode cX6_gcd 44 = .ok (.lstore 4, 2) := by decide +kernel
theorem dX6_gcd_46 : decode cX6_gcd 46 = .ok (.lload 8, 2) := by decide +kernel
theorem dX6_gcd_48 : decode cX6_gcd 48 = .ok (.lstore 6, 2) := by decide +kernel
theorem dX6_gcd_50 : decode cX6_gcd 50 = .ok (.goto (-22), 3) := by decide +kernel
theorem dX6_gcd_53 : decode cX6_gcd 53 = .ok (.lload 4, 2) := by decide +kernel
theorem dX6_gcd_55 : decode cX6_gcd 55 = .ok (.lreturn, 1) := by decide +kernel
theorem dX6_solveBack_0 : decode cX6_solveBack 0 = .ok (.aload_n 0, 1) := by decide +kernel
theorem dX6_solveBack_1 : decode cX6_solveBack 1 = .ok (.getfield 7, 3) := by decide +kernel
theorem dX6_solveBack_4 : decode cX6_solveBack 4 = .ok (.iconst 1, 1) := by decide +kernel
theorem dX6_solveBack_5 : decode cX6_solveBack 5 = .ok (.iadd, 1) := by decide +kernel
theorem dX6_solveBack_6 : decode cX6_solveBack 6 = .ok (.istore_n 1, 1) := by decide +kernel
theorem dX6_solveBack_7 : decode cX6_solveBack 7 = .ok (.iconst 0, 1) := by decide +kernel
theorem dX6_solveBack_8 : decode cX6_solveBack 8 = .ok (.istore_n 2, 1) := by decide +kernel
theorem dX6_solveBack_9 : decode cX6_solveBack 9 = .ok (.iload_n 2, 1) := by decide +kernel
theorem dX6_solveBack_10 : decode cX6_solveBack 10 = .ok (.aload_n 0, 1) := by decide +kernel
theorem dX6_solveBack_11 : decode cX6_solveBack 11 = .ok (.getfield 7, 3) := by decide +kernel
theorem dX6_solveBack_14 : decode cX6_solveBack 14 = .ok (.if_icmp .ge 76, 3) := by decide +kernel
theorem dX6_solveBack_17 : decode cX6_solveBack 17 = .ok (.iconst 0, 1) := by decide +kernel
theorem dX6_solveBack_18 : decode cX6_solveBack 18 = .ok (.istore_n 3, 1) := by decide +kernel
theorem dX6_solveBack_19 : decode cX6_solveBack 19 = .ok (.iload_n 3, 1) := by decide +kernel
theorem dX6_solveBack_20 : decode cX6_solveBack 20 = .ok (.aload_n 0, 1) := by decide +kernel
theorem dX6_solveBack_21 : decode cX6_solveBack 21 = .ok (.getfield 7, 3) := by decide +kernel
theorem dX6_solveBack_24 : decode cX6_solveBack 24 = .ok (.if_icmp .ge 38, 3) := by decide +kernel
theorem dX6_solveBack_27 : decode cX6_solveBack 27 = .ok (.aload_n 0, 1) := by decide +kernel
theorem dX6_solveBack_28 : decode cX6_solveBack 28 = .ok (.getfield 46, 3) := by decide +kernel
theorem dX6_solveBack_31 : decode cX6_solveBack 31 = .ok (.iload_n 1, 1) := by decide +kernel
theorem dX6_solveBack_32 : decode cX6_solveBack 32 = .ok (.iload_n 2, 1) := by decide +kernel
theorem dX6_solveBack_33 : decode cX6_solveBack 33 = .ok (.imul, 1) := by decide +kernel
theorem dX6_solveBack_34 : decode cX6_solveBack 34 = .ok (.iload_n 3, 1) := by decide +kernel
theorem dX6_solveBack_35 : decode cX6_solveBack 35 = .ok (.iadd, 1) := by decide +kernel
theorem dX6_solveBack_36 : decode cX6_solveBack 36 = .ok (.aload_n 0, 1) := by decide +kernel
theorem dX6_solveBack_37 : decode cX6_solveBack 37 = .ok (.getfield 13, 3) := by decide +kernel
theorem dX6_solveBack_40 : decode cX6_solveBack 40 = .ok (.iload_n 2, 1) := by decide +kernel
theorem dX6_solveBack_41 : decode cX6_solveBack 41 = .ok (.iload_n 3, 1) := by decide +kernel
theorem dX6_solveBack_42 : decode cX6_solveBack 42 = .ok (.isub, 1) := by decide +kernel
theorem dX6_solveBack_43 : decode cX6_solveBack 43 = .ok (.aload_n 0, 1) := by decide +kernel
theorem dX6_solveBack_44 : decode cX6_solveBack 44 = .ok (.getfield 7, 3) := by decide +kernel
theorem dX6_solveBack_47 : decode cX6_solveBack 47 = .ok (.iadd, 1) := by decide +kernel
theorem dX6_solveBack_48 : decode cX6_solveBack 48 = .ok (.aload_n 0, 1) := by decide +kernel
theorem dX6_solveBack_49 : decode cX6_solveBack 49 = .ok (.getfield 7, 3) := by decide +kernel
theorem dX6_solveBack_52 : decode cX6_solveBack 52 = .ok (.irem, 1) := by decide +kernel
theorem dX6_solveBack_53 : decode cX6_solveBack 53 = .ok (.iaload, 1) := by decide +kernel
theorem dX6_solveBack_54 : decode cX6_solveBack 54 = .ok (.i2l, 1) := by decide +kernel
theorem dX6_solveBack_55 : decode cX6_solveBack 55 = .ok (.lastore, 1) := by decide +kernel
theorem dX6_solveBack_56 : decode cX6_solveBack 56 = .ok (.iinc 3 1, 3) := by decide +kernel
theorem dX6_solveBack_59 : decode cX6_solveBack 59 = .ok (.goto (-40), 3) := by decide +kernel
theorem dX6_solveBack_62 : decode cX6_solveBack 62 = .ok (.aload_n 0, 1) := by decide +kernel
theorem dX6_solveBack_63 : decode cX6_solveBack 63 = .ok (.getfield 46, 3) := by decide +kernel
theorem dX6_solveBack_66 : decode cX6_solveBack 66 = .ok (.iload_n 1, 1) := by decide +kernel
theorem dX6_solveBack_67 : decode cX6_solveBack 67 = .ok (.iload_n 2, 1) := by decide +kernel
theorem dX6_solveBack_68 : decode cX6_solveBack 68 = .ok (.imul, 1) := by decide +kernel
theorem dX6_solveBack_69 : decode cX6_solveBack 69 = .ok (.aload_n 0, 1) := by decide +kernel
theorem dX6_solveBack_70 : decode cX6_solveBack 70 = .ok (.getfield 7, 3) := by decide +kernel
theorem dX6_solveBack_73 : decode cX6_solveBack 73 = .ok (.iadd, 1) := by decide +kernel
theorem dX6_solveBack_74 : decode cX6_solveBack 74 = .ok (.iload_n 2, 1) := by decide +kernel
theorem dX6_solveBack_75 : decode cX6_solveBack 75 = .ok (.ifCond .ne 7, 3) := by decide +kernel
theorem dX6_solveBack_78 : decode cX6_solveBack 78 = .ok (.lconst 1, 1) := by decide +kernel
theorem dX6_solveBack_79 : decode cX6_solveBack 79 = .ok (.goto 4, 3) := by decide +kernel
theorem dX6_solveBack_82 : decode cX6_solveBack 82 = .ok (.lconst 0, 1) := by decide +kernel
theorem dX6_solveBack_83 : decode cX6_solveBack 83 = .ok (.lastore, 1) := by decide +kernel
theorem dX6_solveBack_84 : decode cX6_solveBack 84 = .ok (.iinc 2 1, 3) := by decide +kernel
theorem dX6_solveBack_87 : decode cX6_solveBack 87 = .ok (.goto (-78), 3) := by decide +kernel
theorem dX6_solveBack_90 : decode cX6_solveBack 90 = .ok (.aload_n 0, 1) := by decide +kernel
theorem dX6_solveBack_91 : decode cX6_solveBack 91 = .ok (.aload_n 0, 1) := by decide +kernel
theorem dX6_solveBack_92 : decode cX6_solveBack 92 = .ok (.getfield 7, 3) := by decide +kernel
theorem dX6_solveBack_95 : decode cX6_solveBack 95 = .ok (.aload_n 0, 1) := by decide +kernel
theorem dX6_solveBack_96 : decode cX6_solveBack 96 = .ok (.getfield 7, 3) := by decide +kernel
theorem dX6_solveBack_99 : decode cX6_solveBack 99 = .ok (.iload_n 1, 1) := by decide +kernel
theorem dX6_solveBack_100 : decode cX6_solveBack 100 = .ok (.invokevirtual 136, 3) := by decide +kernel
theorem dX6_solveBack_103 : decode cX6_solveBack 103 = .ok (.aload_n 0, 1) := by decide +kernel
theorem dX6_solveBack_104 : decode cX6_solveBack 104 = .ok (.getfield 7, 3) := by decide +kernel
theorem dX6_solveBack_107 : decode cX6_solveBack 107 = .ok (.if_icmp .ge 5, 3) := by decide +kernel
theorem dX6_solveBack_110 : decode cX6_solveBack 110 = .ok (.iconst 0, 1) := by decide +kernel
theorem dX6_solveBack_111 : decode cX6_solveBack 111 = .ok (.ireturn, 1) := by decide +kernel
theorem dX6_solveBack_112 : decode cX6_solveBack 112 = .ok (.aload_n 0, 1) := by decide +kernel
theorem dX6_solveBack_113 : decode cX6_solveBack 113 = .ok (.getfield 133, 3) := by decide +kernel
theorem dX6_solveBack_116 : decode cX6_solveBack 116 = .ok (.lstore_n 2, 1) := by decide +kernel
theorem dX6_solveBack_117 : decode cX6_solveBack 117 = .ok (.iconst 0, 1) := by decide +kernel
theorem dX6_solveBack_118 : decode cX6_solveBack 118 = .ok (.istore 4, 2) := by decide +kernel
theorem dX6_solveBack_120 : decode cX6_solveBack 120 = .ok (.iload 4, 2) := by decide +kernel
theorem dX6_solveBack_122 : decode cX6_solveBack 122 = .ok (.aload_n 0, 1) := by decide +kernel
theorem dX6_solveBack_123 : decode cX6_solveBack 123 = .ok (.getfield 7, 3) := by decide +kernel
theorem dX6_solveBack_126 : decode cX6_solveBack 126 = .ok (.if_icmp .ge 28, 3) := by decide +kernel
theorem dX6_solveBack_129 : decode cX6_solveBack 129 = .ok (.lload_n 2, 1) := by decide +kernel
theorem dX6_solveBack_130 : decode cX6_solveBack 130 = .ok (.aload_n 0, 1) := by decide +kernel
theorem dX6_solveBack_131 : decode cX6_solveBack 131 = .ok (.getfield 46, 3) := by decide +kernel
theorem dX6_solveBack_134 : decode cX6_solveBack 134 = .ok (.iload_n 1, 1) := by decide +kernel
theorem dX6_solveBack_135 : decode cX6_solveBack 135 = .ok (.iload 4, 2) := by decide +kernel
theorem dX6_solveBack_137 : decode cX6_solveBack 137 = .ok (.imul, 1) := by decide +kernel
theorem dX6_solveBack_138 : decode cX6_solveBack 138 = .ok (.aload_n 0, 1) := by decide +kernel
theorem dX6_solveBack_139 : decode cX6_solveBack 139 = .ok (.getfield 7, 3) := by decide +kernel
theorem dX6_solveBack_142 : decode cX6_solveBack 142 = .ok (.iadd, 1) := by decide +kernel
theorem dX6_solveBack_143 : decode cX6_solveBack 143 = .ok (.laload, 1) := by decide +kernel
theorem dX6_solveBack_144 : decode cX6_solveBack 144 = .ok (.invokestatic 140, 3) := by decide +kernel
theorem dX6_solveBack_147 : decode cX6_solveBack 147 = .ok (.lstore_n 2, 1) := by decide +kernel
theorem dX6_solveBack_148 : decode cX6_solveBack 148 = .ok (.iinc 4 1, 3) := by decide +kernel
theorem dX6_solveBack_151 : decode cX6_solveBack 151 = .ok (.goto (-31), 3) := by decide +kernel
theorem dX6_solveBack_154 : decode cX6_solveBack 154 = .ok (.aload_n 0, 1) := by decide +kernel
theorem dX6_solveBack_155 : decode cX6_solveBack 155 = .ok (.getfield 133, 3) := by decide +kernel
theorem dX6_solveBack_158 : decode cX6_solveBack 158 = .ok (.lconst 0, 1) := by decide +kernel
theorem dX6_solveBack_159 : decode cX6_solveBack 159 = .ok (.lcmp, 1) := by decide +kernel
theorem dX6_solveBack_160 : decode cX6_solveBack 160 = .ok (.ifCond .ge 6, 3) := by decide +kernel
theorem dX6_solveBack_163 : decode cX6_solveBack 163 = .ok (.lload_n 2, 1) := by decide +kernel
theorem dX6_solveBack_164 : decode cX6_solveBack 164 = .ok (.lneg, 1) := by decide +kernel
theorem dX6_solveBack_165 : decode cX6_solveBack 165 = .ok (.lstore_n 2, 1) := by decide +kernel
theorem dX6_solveBack_166 : decode cX6_solveBack 166 = .ok (.iconst 0, 1) := by decide +kernel
theorem dX6_solveBack_167 : decode cX6_solveBack 167 = .ok (.istore 4, 2) := by decide +kernel
theorem dX6_solveBack_169 : decode cX6_solveBack 169 = .ok (.iload 4, 2) := by decide +kernel
theorem dX6_solveBack_171 : decode cX6_solveBack 171 = .ok (.aload_n 0, 1) := by decide +kernel
theorem dX6_solveBack_172 : decode cX6_solveBack 172 = .ok (.getfield 7, 3) := by decide +kernel
theorem dX6_solveBack_175 : decode cX6_solveBack 175 = .ok (.if_icmp .ge 32, 3) := by decide +kernel
theorem dX6_solveBack_178 : decode cX6_solveBack 178 = .ok (.aload_n 0, 1) := by decide +kernel
theorem dX6_solveBack_179 : decode cX6_solveBack 179 = .ok (.getfield 52, 3) := by decide +kernel
theorem dX6_solveBack_182 : decode cX6_solveBack 182 = .ok (.iload 4, 2) := by decide +kernel
theorem dX6_solveBack_184 : decode cX6_solveBack 184 = .ok (.aload_n 0, 1) := by decide +kernel
theorem dX6_solveBack_185 : decode cX6_solveBack 185 = .ok (.getfield 46, 3) := by decide +kernel
theorem dX6_solveBack_188 : decode cX6_solveBack 188 = .ok (.iload_n 1, 1) := by decide +kernel
theorem dX6_solveBack_189 : decode cX6_solveBack 189 = .ok (.iload 4, 2) := by decide +kernel
theorem dX6_solveBack_191 : decode cX6_solveBack 191 = .ok (.imul, 1) := by decide +kernel
theorem dX6_solveBack_192 : decode cX6_solveBack 192 = .ok (.aload_n 0, 1) := by decide +kernel
theorem dX6_solveBack_193 : decode cX6_solveBack 193 = .ok (.getfield 7, 3) := by decide +kernel
theorem dX6_solveBack_196 : decode cX6_solveBack 196 = .ok (.iadd, 1) := by decide +kernel
theorem dX6_solveBack_197 : decode cX6_solveBack 197 = .ok (.laload, 1) := by decide +kernel
theorem dX6_solveBack_198 : decode cX6_solveBack 198 = .ok (.lload_n 2, 1) := by decide +kernel
theorem dX6_solveBack_199 : decode cX6_solveBack 199 = .ok (.ldiv, 1) := by decide +kernel
theorem dX6_solveBack_200 : decode cX6_solveBack 200 = .ok (.lastore, 1) := by decide +kernel
theorem dX6_solveBack_201 : decode cX6_solveBack 201 = .ok (.iinc 4 1, 3) := by decide +kernel
theorem dX6_solveBack_204 : decode cX6_solveBack 204 = .ok (.goto (-35), 3) := by decide +kernel
theorem dX6_solveBack_207 : decode cX6_solveBack 207 = .ok (.aload_n 0, 1) := by decide +kernel
theorem dX6_solveBack_208 : decode cX6_solveBack 208 = .ok (.dup, 1) := by decide +kernel
theorem dX6_solveBack_209 : decode cX6_solveBack 209 = .ok (.getfield 133, 3) := by decide +kernel
theorem dX6_solveBack_212 : decode cX6_solveBack 212 = .ok (.lload_n 2, 1) := by decide +kernel
theorem dX6_solveBack_213 : decode cX6_solveBack 213 = .ok (.ldiv, 1) := by decide +kernel
theorem dX6_solveBack_214 : decode cX6_solveBack 214 = .ok (.putfield 133, 3) := by decide +kernel
theorem dX6_solveBack_217 : decode cX6_solveBack 217 = .ok (.iconst 1, 1) := by decide +kernel
theorem dX6_solveBack_218 : decode cX6_solveBack 218 = .ok (.ireturn, 1) := by decide +kernel
theorem dX6_undo_0 : decode cX6_undo 0 = .ok (.aload_n 0, 1) := by decide +kernel
theorem dX6_undo_1 : decode cX6_undo 1 = .ok (.invokevirtual 68, 3) := by decide +kernel
theorem dX6_undo_4 : decode cX6_undo 4 = .ok (.aload_n 0, 1) := by decide +kernel
theorem dX6_undo_5 : decode cX6_undo 5 = .ok (.getfield 7, 3) := by decide +kernel
theorem dX6_undo_8 : decode cX6_undo 8 = .ok (.bipush 14, 2) := by decide +kernel
theorem dX6_undo_10 : decode cX6_undo 10 = .ok (.if_icmp .le 10, 3) := by decide +kernel
theorem dX6_undo_13 : decode cX6_undo 13 = .ok (.aload_n 0, 1) := by decide +kernel
theorem dX6_undo_14 : decode cX6_undo 14 = .ok (.iconst 1, 1) := by decide +kernel
theorem dX6_undo_15 : decode cX6_undo 15 = .ok (.invokevirtual 79, 3) := by decide +kernel
theorem dX6_undo_18 : decode cX6_undo 18 = .ok (.i2l, 1) := by decide +kernel
theorem dX6_undo_19 : decode cX6_undo 19 = .ok (.lreturn, 1) := by decide +kernel
theorem dX6_undo_20 : decode cX6_undo 20 = .ok (.aload_n 0, 1) := by decide +kernel
theorem dX6_undo_21 : decode cX6_undo 21 = .ok (.lconst 0, 1) := by decide +kernel
theorem dX6_undo_22 : decode cX6_undo 22 = .ok (.putfield 64, 3) := by decide +kernel
theorem dX6_undo_25 : decode cX6_undo 25 = .ok (.aload_n 0, 1) := by decide +kernel
theorem dX6_undo_26 : decode cX6_undo 26 = .ok (.invokevirtual 144, 3) := by decide +kernel
theorem dX6_undo_29 : decode cX6_undo 29 = .ok (.ifCond .ne 5, 3) := by decide +kernel
theorem dX6_undo_32 : decode cX6_undo 32 = .ok (.lconst 0, 1) := by decide +kernel
theorem dX6_undo_33 : decode cX6_undo 33 = .ok (.lreturn, 1) := by decide +kernel
theorem dX6_undo_34 : decode cX6_undo 34 = .ok (.aload_n 0, 1) := by decide +kernel
theorem dX6_undo_35 : decode cX6_undo 35 = .ok (.aload_n 0, 1) := by decide +kernel
theorem dX6_undo_36 : decode cX6_undo 36 = .ok (.getfield 133, 3) := by decide +kernel
theorem dX6_undo_39 : decode cX6_undo 39 = .ok (.putfield 64, 3) := by decide +kernel
theorem dX6_undo_42 : decode cX6_undo 42 = .ok (.iconst 0, 1) := by decide +kernel
theorem dX6_undo_43 : decode cX6_undo 43 = .ok (.istore_n 1, 1) := by decide +kernel
theorem dX6_undo_44 : decode cX6_undo 44 = .ok (.iload_n 1, 1) := by decide +kernel
theorem dX6_undo_45 : decode cX6_undo 45 = .ok (.aload_n 0, 1) := by decide +kernel
theorem dX6_undo_46 : decode cX6_undo 46 = .ok (.getfield 7, 3) := by decide +kernel
theorem dX6_undo_49 : decode cX6_undo 49 = .ok (.if_icmp .ge 21, 3) := by decide +kernel
theorem dX6_undo_52 : decode cX6_undo 52 = .ok (.aload_n 0, 1) := by decide +kernel
theorem dX6_undo_53 : decode cX6_undo 53 = .ok (.getfield 33, 3) := by decide +kernel
theorem dX6_undo_56 : decode cX6_undo 56 = .ok (.iload_n 1, 1) := by decide +kernel
theorem dX6_undo_57 : decode cX6_undo 57 = .ok (.aload_n 0, 1) := by decide +kernel
theorem dX6_undo_58 : decode cX6_undo 58 = .ok (.getfield 52, 3) := by decide +kernel
theorem dX6_undo_61 : decode cX6_undo 61 = .ok (.iload_n 1, 1) := by decide +kernel
theorem dX6_undo_62 : decode cX6_undo 62 = .ok (.laload, 1) := by decide +kernel
theorem dX6_undo_63 : decode cX6_undo 63 = .ok (.lastore, 1) := by decide +kernel
theorem dX6_undo_64 : decode cX6_undo 64 = .ok (.iinc 1 1, 3) := by decide +kernel
theorem dX6_undo_67 : decode cX6_undo 67 = .ok (.goto (-23), 3) := by decide +kernel
theorem dX6_undo_70 : decode cX6_undo 70 = .ok (.aload_n 0, 1) := by decide +kernel
theorem dX6_undo_71 : decode cX6_undo 71 = .ok (.getfield 64, 3) := by decide +kernel
theorem dX6_undo_74 : decode cX6_undo 74 = .ok (.lreturn, 1) := by decide +kernel
theorem dX6_back_0 : decode cX6_back 0 = .ok (.aload_n 0, 1) := by decide +kernel
theorem dX6_back_1 : decode cX6_back 1 = .ok (.invokevirtual 68, 3) := by decide +kernel
theorem dX6_back_4 : decode cX6_back 4 = .ok (.aload_n 0, 1) := by decide +kernel
theorem dX6_back_5 : decode cX6_back 5 = .ok (.iload_n 1, 1) := by decide +kernel
theorem dX6_back_6 : decode cX6_back 6 = .ok (.invokevirtual 94, 3) := by decide +kernel
theorem dX6_back_9 : decode cX6_back 9 = .ok (.ifCond .eq 12, 3) := by decide +kernel
theorem dX6_back_12 : decode cX6_back 12 = .ok (.aload_n 0, 1) := by decide +kernel
theorem dX6_back_13 : decode cX6_back 13 = .ok (.getfield 64, 3) := by decide +kernel
theorem dX6_back_16 : decode cX6_back 16 = .ok (.lconst 0, 1) := by decide +kernel
theorem dX6_back_17 : decode cX6_back 17 = .ok (.lcmp, 1) := by decide +kernel
theorem dX6_back_18 : decode cX6_back 18 = .ok (.ifCond .ne 23, 3) := by decide +kernel
theorem dX6_back_21 : decode cX6_back 21 = .ok (.aload_n 0, 1) := by decide +kernel
theorem dX6_back_22 : decode cX6_back 22 = .ok (.aload_n 0, 1) := by decide +kernel
theorem dX6_back_23 : decode cX6_back 23 = .ok (.iload_n 1, 1) := by decide +kernel
theorem dX6_back_24 : decode cX6_back 24 = .ok (.invokevirtual 94, 3) := by decide +kernel
theorem dX6_back_27 : decode cX6_back 27 = .ok (.ifCond .eq 7, 3) := by decide +kernel
theorem dX6_back_30 : decode cX6_back 30 = .ok (.iconst 2, 1) := by decide +kernel
theorem dX6_back_31 : decode cX6_back 31 = .ok (.goto 4, 3) := by decide +kernel
theorem dX6_back_34 : decode cX6_back 34 = .ok (.iconst 1, 1) := by decide +kernel
theorem dX6_back_35 : decode cX6_back 35 = .ok (.invokevirtual 79, 3) := by decide +kernel
theorem dX6_back_38 : decode cX6_back 38 = .ok (.pop, 1) := by decide +kernel
theorem dX6_back_39 : decode cX6_back 39 = .ok (.lconst 0, 1) := by decide +kernel
theorem dX6_back_40 : decode cX6_back 40 = .ok (.lreturn, 1) := by decide +kernel
theorem dX6_back_41 : decode cX6_back 41 = .ok (.aload_n 0, 1) := by decide +kernel
theorem dX6_back_42 : decode cX6_back 42 = .ok (.getfield 33, 3) := by decide +kernel
theorem dX6_back_45 : decode cX6_back 45 = .ok (.iload_n 1, 1) := by decide +kernel
theorem dX6_back_46 : decode cX6_back 46 = .ok (.laload, 1) := by decide +kernel
theorem dX6_back_47 : decode cX6_back 47 = .ok (.lreturn, 1) := by decide +kernel
theorem dX6_noise_0 : decode cX6_noise 0 = .ok (.aload_n 0, 1) := by decide +kernel
theorem dX6_noise_1 : decode cX6_noise 1 = .ok (.invokevirtual 68, 3) := by decide +kernel
theorem dX6_noise_4 : decode cX6_noise 4 = .ok (.iload_n 1, 1) := by decide +kernel
theorem dX6_noise_5 : decode cX6_noise 5 = .ok (.ifCond .lt 17, 3) := by decide +kernel
theorem dX6_noise_8 : decode cX6_noise 8 = .ok (.iload_n 1, 1) := by decide +kernel
theorem dX6_noise_9 : decode cX6_noise 9 = .ok (.iconst 1, 1) := by decide +kernel
theorem dX6_noise_10 : decode cX6_noise 10 = .ok (.if_icmp .gt 12, 3) := by decide +kernel
theorem dX6_noise_13 : decode cX6_noise 13 = .ok (.aload_n 0, 1) := by decide +kernel
theorem dX6_noise_14 : decode cX6_noise 14 = .ok (.getfield 64, 3) := by decide +kernel
theorem dX6_noise_17 : decode cX6_noise 17 = .ok (.lconst 0, 1) := by decide +kernel
theorem dX6_noise_18 : decode cX6_noise 18 = .ok (.lcmp, 1) := by decide +kernel
theorem dX6_noise_19 : decode cX6_noise 19 = .ok (.ifCond .ne 24, 3) := by decide +kernel
theorem dX6_noise_22 : decode cX6_noise 22 = .ok (.aload_n 0, 1) := by decide +kernel
theorem dX6_noise_23 : decode cX6_noise 23 = .ok (.iload_n 1, 1) := by decide +kernel
theorem dX6_noise_24 : decode cX6_noise 24 = .ok (.ifCond .lt 8, 3) := by decide +kernel
theorem dX6_noise_27 : decode cX6_noise 27 = .ok (.iload_n 1, 1) := by decide +kernel
theorem dX6_noise_28 : decode cX6_noise 28 = .ok (.iconst 1, 1) := by decide +kernel
theorem dX6_noise_29 : decode cX6_noise 29 = .ok (.if_icmp .le 7, 3) := by decide +kernel
theorem dX6_noise_32 : decode cX6_noise 32 = .ok (.iconst 1, 1) := by decide +kernel
theorem dX6_noise_33 : decode cX6_noise 33 = .ok (.goto 4, 3) := by decide +kernel
theorem dX6_noise_36 : decode cX6_noise 36 = .ok (.iconst 2, 1) := by decide +kernel
theorem dX6_noise_37 : decode cX6_noise 37 = .ok (.invokevirtual 79, 3) := by decide +kernel
theorem dX6_noise_40 : decode cX6_noise 40 = .ok (.pop, 1) := by decide +kernel
theorem dX6_noise_41 : decode cX6_noise 41 = .ok (.lconst 0, 1) := by decide +kernel
theorem dX6_noise_42 : decode cX6_noise 42 = .ok (.lreturn, 1) := by decide +kernel
theorem dX6_noise_43 : decode cX6_noise 43 = .ok (.lconst 0, 1) := by decide +kernel
theorem dX6_noise_44 : decode cX6_noise 44 = .ok (.lstore_n 2, 1) := by decide +kernel
theorem dX6_noise_45 : decode cX6_noise 45 = .ok (.iconst 0, 1) := by decide +kernel
theorem dX6_noise_46 : decode cX6_noise 46 = .ok (.istore 4, 2) := by decide +kernel
theorem dX6_noise_48 : decode cX6_noise 48 = .ok (.iload 4, 2) := by decide +kernel
theorem dX6_noise_50 : decode cX6_noise 50 = .ok (.aload_n 0, 1) := by decide +kernel
theorem dX6_noise_51 : decode cX6_noise 51 = .ok (.getfield 7, 3) := by decide +kernel
theorem dX6_noise_54 : decode cX6_noise 54 = .ok (.if_icmp .ge 27, 3) := by decide +kernel
theorem dX6_noise_57 : decode cX6_noise 57 = .ok (.lload_n 2, 1) := by decide +kernel
theorem dX6_noise_58 : decode cX6_noise 58 = .ok (.aload_n 0, 1) := by decide +kernel
theorem dX6_noise_59 : decode cX6_noise 59 = .ok (.getfield 33, 3) := by decide +kernel
theorem dX6_noise_62 : decode cX6_noise 62 = .ok (.iload 4, 2) := by decide +kernel
theorem dX6_noise_64 : decode cX6_noise 64 = .ok (.laload, 1) := by decide +kernel
theorem dX6_noise_65 : decode cX6_noise 65 = .ok (.aload_n 0, 1) := by decide +kernel
theorem dX6_noise_66 : decode cX6_noise 66 = .ok (.getfield 33, 3) := by decide +kernel
theorem dX6_noise_69 : decode cX6_noise 69 = .ok (.iload 4, 2) := by decide +kernel
theorem dX6_noise_71 : decode cX6_noise 71 = .ok (.laload, 1) := by decide +kernel
theorem dX6_noise_72 : decode cX6_noise 72 = .ok (.lmul, 1) := by decide +kernel
theorem dX6_noise_73 : decode cX6_noise 73 = .ok (.ladd, 1) := by decide +kernel
theorem dX6_noise_74 : decode cX6_noise 74 = .ok (.lstore_n 2, 1) := by decide +kernel
theorem dX6_noise_75 : decode cX6_noise 75 = .ok (.iinc 4 1, 3) := by decide +kernel
theorem dX6_noise_78 : decode cX6_noise 78 = .ok (.goto (-30), 3) := by decide +kernel
theorem dX6_noise_81 : decode cX6_noise 81 = .ok (.aload_n 0, 1) := by decide +kernel
theorem dX6_noise_82 : decode cX6_noise 82 = .ok (.getfield 64, 3) := by decide +kernel
theorem dX6_noise_85 : decode cX6_noise 85 = .ok (.aload_n 0, 1) := by decide +kernel
theorem dX6_noise_86 : decode cX6_noise 86 = .ok (.getfield 64, 3) := by decide +kernel
theorem dX6_noise_89 : decode cX6_noise 89 = .ok (.lmul, 1) := by decide +kernel
theorem dX6_noise_90 : decode cX6_noise 90 = .ok (.lstore 4, 2) := by decide +kernel
theorem dX6_noise_92 : decode cX6_noise 92 = .ok (.lload_n 2, 1) := by decide +kernel
theorem dX6_noise_93 : decode cX6_noise 93 = .ok (.lload 4, 2) := by decide +kernel
theorem dX6_noise_95 : decode cX6_noise 95 = .ok (.invokestatic 140, 3) := by decide +kernel
theorem dX6_noise_98 : decode cX6_noise 98 = .ok (.lstore 6, 2) := by decide +kernel
theorem dX6_noise_100 : decode cX6_noise 100 = .ok (.iload_n 1, 1) := by decide +kernel
theorem dX6_noise_101 : decode cX6_noise 101 = .ok (.ifCond .ne 7, 3) := by decide +kernel
theorem dX6_noise_104 : decode cX6_noise 104 = .ok (.lload_n 2, 1) := by decide +kernel
theorem dX6_noise_105 : decode cX6_noise 105 = .ok (.goto 5, 3) := by decide +kernel
theorem dX6_noise_108 : decode cX6_noise 108 = .ok (.lload 4, 2) := by decide +kernel
theorem dX6_noise_110 : decode cX6_noise 110 = .ok (.lload 6, 2) := by decide +kernel
theorem dX6_noise_112 : decode cX6_noise 112 = .ok (.ldiv, 1) := by decide +kernel
theorem dX6_noise_113 : decode cX6_noise 113 = .ok (.lreturn, 1) := by decide +kernel
theorem dX6_layShadow_0 : decode cX6_layShadow 0 = .ok (.iconst 0, 1) := by decide +kernel
theorem dX6_layShadow_1 : decode cX6_layShadow 1 = .ok (.istore 4, 2) := by decide +kernel
theorem dX6_layShadow_3 : decode cX6_layShadow 3 = .ok (.iconst 0, 1) := by decide +kernel
theorem dX6_layShadow_4 : decode cX6_layShadow 4 = .ok (.istore 5, 2) := by decide +kernel
theorem dX6_layShadow_6 : decode cX6_layShadow 6 = .ok (.iload 5, 2) := by decide +kernel
theorem dX6_layShadow_8 : decode cX6_layShadow 8 = .ok (.aload_n 0, 1) := by decide +kernel
theorem dX6_layShadow_9 : decode cX6_layShadow 9 = .ok (.getfield 7, 3) := by decide +kernel
theorem dX6_layShadow_12 : decode cX6_layShadow 12 = .ok (.if_icmp .ge 77, 3) := by decide +kernel
theorem dX6_layShadow_15 : decode cX6_layShadow 15 = .ok (.iload_n 1, 1) := by decide +kernel
theorem dX6_layShadow_16 : decode cX6_layShadow 16 = .ok (.ifCond .ne 16, 3) := by decide +kernel
theorem dX6_layShadow_19 : decode cX6_layShadow 19 = .ok (.aload_n 0, 1) := by decide +kernel
theorem dX6_layShadow_20 : decode cX6_layShadow 20 = .ok (.getfield 23, 3) := by decide +kernel
theorem dX6_layShadow_23 : decode cX6_layShadow 23 = .ok (.iload 5, 2) := by decide +kernel
theorem dX6_layShadow_25 : decode cX6_layShadow 25 = .ok (.baload, 1) := by decide +kernel
theorem dX6_layShadow_26 : decode cX6_layShadow 26 = .ok (.ifCond .eq 6, 3) := by decide +kernel
theorem dX6_layShadow_29 : decode cX6_layShadow 29 = .ok (.goto 54, 3) := by decide +kernel
theorem dX6_layShadow_32 : decode cX6_layShadow 32 = .ok (.iconst 0, 1) := by decide +kernel
theorem dX6_layShadow_33 : decode cX6_layShadow 33 = .ok (.istore 6, 2) := by decide +kernel
theorem dX6_layShadow_35 : decode cX6_layShadow 35 = .ok (.iload 6, 2) := by decide +kernel
theorem dX6_layShadow_37 : decode cX6_layShadow 37 = .ok (.iload_n 2, 1) := by decide +kernel
theorem dX6_layShadow_38 : decode cX6_layShadow 38 = .ok (.if_icmp .ge 42, 3) := by decide +kernel
theorem dX6_layShadow_41 : decode cX6_layShadow 41 = .ok (.aload_n 0, 1) := by decide +kernel
theorem dX6_layShadow_42 : decode cX6_layShadow 42 = .ok (.getfield 46, 3) := by decide +kernel
theorem dX6_layShadow_45 : decode cX6_layShadow 45 = .ok (.iload_n 3, 1) := by decide +kernel
theorem dX6_layShadow_46 : decode cX6_layShadow 46 = .ok (.iload 4, 2) := by decide +kernel
theorem dX6_layShadow_48 : decode cX6_layShadow 48 = .ok (.imul, 1) := by decide +kernel
theorem dX6_layShadow_49 : decode cX6_layShadow 49 = .ok (.iload 6, 2) := by decide +kernel
theorem dX6_layShadow_51 : decode cX6_layShadow 51 = .ok (.iadd, 1) := by decide +kernel
theorem dX6_layShadow_52 : decode cX6_layShadow 52 = .ok (.aload_n 0, 1) := by decide +kernel
theorem dX6_layShadow_53 : decode cX6_layShadow 53 = .ok (.getfield 13, 3) := by decide +kernel
theorem dX6_layShadow_56 : decode cX6_layShadow 56 = .ok (.iload 6, 2) := by decide +kernel
theorem dX6_layShadow_58 : decode cX6_layShadow 58 = .ok (.iload 5, 2) := by decide +kernel
theorem dX6_layShadow_60 : decode cX6_layShadow 60 = .ok (.isub, 1) := by decide +kernel
theorem dX6_layShadow_61 : decode cX6_layShadow 61 = .ok (.aload_n 0, 1) := by decide +kernel
theorem dX6_layShadow_62 : decode cX6_layShadow 62 = .ok (.getfield 7, 3) := by decide +kernel
theorem dX6_layShadow_65 : decode cX6_layShadow 65 = .ok (.iadd, 1) := by decide +kernel
theorem dX6_layShadow_66 : decode cX6_layShadow 66 = .ok (.aload_n 0, 1) := by decide +kernel
theorem dX6_layShadow_67 : decode cX6_layShadow 67 = .ok (.getfield 7, 3) := by decide +kernel
theorem dX6_layShadow_70 : decode cX6_layShadow 70 = .ok (.irem, 1) := by decide +kernel
theorem dX6_layShadow_71 : decode cX6_layShadow 71 = .ok (.iaload, 1) := by decide +kernel
theorem dX6_layShadow_72 : decode cX6_layShadow 72 = .ok (.i2l, 1) := by decide +kernel
theorem dX6_layShadow_73 : decode cX6_layShadow 73 = .ok (.lastore, 1) := by decide +kernel
theorem dX6_layShadow_74 : decode cX6_layShadow 74 = .ok (.iinc 6 1, 3) := by decide +kernel
theorem dX6_layShadow_77 : decode cX6_layShadow 77 = .ok (.goto (-42), 3) := by decide +kernel
theorem dX6_layShadow_80 : decode cX6_layShadow 80 = .ok (.iinc 4 1, 3) := by decide +kernel
theorem dX6_layShadow_83 : decode cX6_layShadow 83 = .ok (.iinc 5 1, 3) := by decide +kernel
theorem dX6_layShadow_86 : decode cX6_layShadow 86 = .ok (.goto (-80), 3) := by decide +kernel
theorem dX6_layShadow_89 : decode cX6_layShadow 89 = .ok (.iload 4, 2) := by decide +kernel
theorem dX6_layShadow_91 : decode cX6_layShadow 91 = .ok (.ireturn, 1) := by decide +kernel
theorem dX6_rank_0 : decode cX6_rank 0 = .ok (.aload_n 0, 1) := by decide +kernel
theorem dX6_rank_1 : decode cX6_rank 1 = .ok (.invokevirtual 68, 3) := by decide +kernel
theorem dX6_rank_4 : decode cX6_rank 4 = .ok (.aload_n 0, 1) := by decide +kernel
theorem dX6_rank_5 : decode cX6_rank 5 = .ok (.getfield 7, 3) := by decide +kernel
theorem dX6_rank_8 : decode cX6_rank 8 = .ok (.bipush 14, 2) := by decide +kernel
theorem dX6_rank_10 : decode cX6_rank 10 = .ok (.if_icmp .le 9, 3) := by decide +kernel
theorem dX6_rank_13 : decode cX6_rank 13 = .ok (.aload_n 0, 1) := by decide +kernel
theorem dX6_rank_14 : decode cX6_rank 14 = .ok (.iconst 1, 1) := by decide +kernel
theorem dX6_rank_15 : decode cX6_rank 15 = .ok (.invokevirtual 79, 3) := by decide +kernel
theorem dX6_rank_18 : decode cX6_rank 18 = .ok (.ireturn, 1) := by decide +kernel
theorem dX6_rank_19 : decode cX6_rank 19 = .ok (.aload_n 0, 1) := by decide +kernel
theorem dX6_rank_20 : decode cX6_rank 20 = .ok (.aload_n 0, 1) := by decide +kernel
theorem dX6_rank_21 : decode cX6_rank 21 = .ok (.iconst 1, 1) := by decide +kernel
theorem dX6_rank_22 : decode cX6_rank 22 = .ok (.aload_n 0, 1) := by decide +kernel
theorem dX6_rank_23 : decode cX6_rank 23 = .ok (.getfield 7, 3) := by decide +kernel
theorem dX6_rank_26 : decode cX6_rank 26 = .ok (.aload_n 0, 1) := by decide +kernel
theorem dX6_rank_27 : decode cX6_rank 27 = .ok (.getfield 7, 3) := by decide +kernel
theorem dX6_rank_30 : decode cX6_rank 30 = .ok (.invokevirtual 148, 3) := by decide +kernel
theorem dX6_rank_33 : decode cX6_rank 33 = .ok (.aload_n 0, 1) := by decide +kernel
theorem dX6_rank_34 : decode cX6_rank 34 = .ok (.getfield 7, 3) := by decide +kernel
theorem dX6_rank_37 : decode cX6_rank 37 = .ok (.aload_n 0, 1) := by decide +kernel
theorem dX6_rank_38 : decode cX6_rank 38 = .ok (.getfield 7, 3) := by decide +kernel
theorem dX6_rank_41 : decode cX6_rank 41 = .ok (.invokevirtual 136, 3) := by decide +kernel
theorem dX6_rank_44 : decode cX6_rank 44 = .ok (.ireturn, 1) := by decide +kernel
theorem dX6_sure_0 : decode cX6_sure 0 = .ok (.aload_n 0, 1) := by decide +kernel
theorem dX6_sure_1 : decode cX6_sure 1 = .ok (.invokevirtual 68, 3) := by decide +kernel
theorem dX6_sure_4 : decode cX6_sure 4 = .ok (.aload_n 0, 1) := by decide +kernel
theorem dX6_sure_5 : decode cX6_sure 5 = .ok (.getfield 7, 3) := by decide +kernel
theorem dX6_sure_8 : decode cX6_sure 8 = .ok (.bipush 14, 2) := by decide +kernel
theorem dX6_sure_10 : decode cX6_sure 10 = .ok (.if_icmp .le 9, 3) := by decide +kernel
theorem dX6_sure_13 : decode cX6_sure 13 = .ok (.aload_n 0, 1) := by decide +kernel
theorem dX6_sure_14 : decode cX6_sure 14 = .ok (.iconst 1, 1) := by decide +kernel
theorem dX6_sure_15 : decode cX6_sure 15 = .ok (.invokevirtual 79, 3) := by decide +kernel
theorem dX6_sure_18 : decode cX6_sure 18 = .ok (.ireturn, 1) := by decide +kernel
theorem dX6_sure_19 : decode cX6_sure 19 = .ok (.aload_n 0, 1) := by decide +kernel
theorem dX6_sure_20 : decode cX6_sure 20 = .ok (.aload_n 0, 1) := by decide +kernel
theorem dX6_sure_21 : decode cX6_sure 21 = .ok (.iconst 0, 1) := by decide +kernel
theorem dX6_sure_22 : decode cX6_sure 22 = .ok (.aload_n 0, 1) := by decide +kernel
theorem dX6_sure_23 : decode cX6_sure 23 = .ok (.getfield 7, 3) := by decide +kernel
theorem dX6_sure_26 : decode cX6_sure 26 = .ok (.aload_n 0, 1) := by decide +kernel
theorem dX6_sure_27 : decode cX6_sure 27 = .ok (.getfield 7, 3) := by decide +kernel
theorem dX6_sure_30 : decode cX6_sure 30 = .ok (.invokevirtual 148, 3) := by decide +kernel
theorem dX6_sure_33 : decode cX6_sure 33 = .ok (.aload_n 0, 1) := by decide +kernel
theorem dX6_sure_34 : decode cX6_sure 34 = .ok (.getfield 7, 3) := by decide +kernel
theorem dX6_sure_37 : decode cX6_sure 37 = .ok (.aload_n 0, 1) := by decide +kernel
theorem dX6_sure_38 : decode cX6_sure 38 = .ok (.getfield 7, 3) := by decide +kernel
theorem dX6_sure_41 : decode cX6_sure 41 = .ok (.invokevirtual 136, 3) := by decide +kernel
theorem dX6_sure_44 : decode cX6_sure 44 = .ok (.aload_n 0, 1) := by decide +kernel
theorem dX6_sure_45 : decode cX6_sure 45 = .ok (.getfield 7, 3) := by decide +kernel
theorem dX6_sure_48 : decode cX6_sure 48 = .ok (.if_icmp .ne 7, 3) := by decide +kernel
theorem dX6_sure_51 : decode cX6_sure 51 = .ok (.iconst 1, 1) := by decide +kernel
theorem dX6_sure_52 : decode cX6_sure 52 = .ok (.goto 4, 3) := by decide +kernel
theorem dX6_sure_55 : decode cX6_sure 55 = .ok (.iconst 0, 1) := by decide +kernel
theorem dX6_sure_56 : decode cX6_sure 56 = .ok (.ireturn, 1) := by decide +kernel
theorem dX6_lost_0 : decode cX6_lost 0 = .ok (.aload_n 0, 1) := by decide +kernel
theorem dX6_lost_1 : decode cX6_lost 1 = .ok (.invokevirtual 68, 3) := by decide +kernel
theorem dX6_lost_4 : decode cX6_lost 4 = .ok (.aload_n 0, 1) := by decide +kernel
theorem dX6_lost_5 : decode cX6_lost 5 = .ok (.getfield 7, 3) := by decide +kernel
theorem dX6_lost_8 : decode cX6_lost 8 = .ok (.bipush 14, 2) := by decide +kernel
theorem dX6_lost_10 : decode cX6_lost 10 = .ok (.if_icmp .le 9, 3) := by decide +kernel
theorem dX6_lost_13 : decode cX6_lost 13 = .ok (.aload_n 0, 1) := by decide +kernel
theorem dX6_lost_14 : decode cX6_lost 14 = .ok (.iconst 1, 1) := by decide +kernel
theorem dX6_lost_15 : decode cX6_lost 15 = .ok (.invokevirtual 79, 3) := by decide +kernel
theorem dX6_lost_18 : decode cX6_lost 18 = .ok (.ireturn, 1) := by decide +kernel
theorem dX6_lost_19 : decode cX6_lost 19 = .ok (.iconst 0, 1) := by decide +kernel
theorem dX6_lost_20 : decode cX6_lost 20 = .ok (.istore_n 1, 1) := by decide +kernel
theorem dX6_lost_21 : decode cX6_lost 21 = .ok (.iload_n 1, 1) := by decide +kernel
theorem dX6_lost_22 : decode cX6_lost 22 = .ok (.aload_n 0, 1) := by decide +kernel
theorem dX6_lost_23 : decode cX6_lost 23 = .ok (.getfield 7, 3) := by decide +kernel
theorem dX6_lost_26 : decode cX6_lost 26 = .ok (.if_icmp .ge 223, 3) := by decide +kernel
theorem dX6_lost_29 : decode cX6_lost 29 = .ok (.iload_n 1, 1) := by decide +kernel
theorem dX6_lost_30 : decode cX6_lost 30 = .ok (.iconst 1, 1) := by decide +kernel
theorem dX6_lost_31 : decode cX6_lost 31 = .ok (.iadd, 1) := by decide +kernel
theorem dX6_lost_32 : decode cX6_lost 32 = .ok (.istore_n 2, 1) := by decide +kernel
theorem dX6_lost_33 : decode cX6_lost 33 = .ok (.aload_n 0, 1) := by decide +kernel
theorem dX6_lost_34 : decode cX6_lost 34 = .ok (.iconst 1, 1) := by decide +kernel
theorem dX6_lost_35 : decode cX6_lost 35 = .ok (.iload_n 2, 1) := by decide +kernel
theorem dX6_lost_36 : decode cX6_lost 36 = .ok (.iload_n 2, 1) := by decide +kernel
theorem dX6_lost_37 : decode cX6_lost 37 = .ok (.invokevirtual 148, 3) := by decide +kernel
theorem dX6_lost_40 : decode cX6_lost 40 = .ok (.istore_n 3, 1) := by decide +kernel
theorem dX6_lost_41 : decode cX6_lost 41 = .ok (.aload_n 0, 1) := by decide +kernel
theorem dX6_lost_42 : decode cX6_lost 42 = .ok (.iload_n 3, 1) := by decide +kernel
theorem dX6_lost_43 : decode cX6_lost 43 = .ok (.iload_n 1, 1) := by decide +kernel
theorem dX6_lost_44 : decode cX6_lost 44 = .ok (.iload_n 2, 1) := by decide +kernel
theorem dX6_lost_45 : decode cX6_lost 45 = .ok (.invokevirtual 136, 3) := by decide +kernel
theorem dX6_lost_48 : decode cX6_lost 48 = .ok (.istore 4, 2) := by decide +kernel
theorem dX6_lost_50 : decode cX6_lost 50 = .ok (.iconst 1, 1) := by decide +kernel
theorem dX6_lost_51 : decode cX6_lost 51 = .ok (.istore 5, 2) := by decide +kernel
theorem dX6_lost_53 : decode cX6_lost 53 = .ok (.iload 4, 2) := by decide +kernel
theorem dX6_lost_55 : decode cX6_lost 55 = .ok (.istore 6, 2) := by decide +kernel
theorem dX6_lost_57 : decode cX6_lost 57 = .ok (.iload 6, 2) := by decide +kernel
theorem dX6_lost_59 : decode cX6_lost 59 = .ok (.iload_n 3, 1) := by decide +kernel
theorem dX6_lost_60 : decode cX6_lost 60 = .ok (.if_icmp .ge 37, 3) := by decide +kernel
theorem dX6_lost_63 : decode cX6_lost 63 = .ok (.iload 5, 2) := by decide +kernel
theorem dX6_lost_65 : decode cX6_lost 65 = .ok (.ifCond .eq 23, 3) := by decide +kernel
theorem dX6_lost_68 : decode cX6_lost 68 = .ok (.aload_n 0, 1) := by decide +kernel
theorem dX6_lost_69 : decode cX6_lost 69 = .ok (.getfield 46, 3) := by decide +kernel
theorem dX6_lost_72 : decode cX6_lost 72 = .ok (.iload_n 2, 1) := by decide +kernel
theorem dX6_lost_73 : decode cX6_lost 73 = .ok (.iload 6, 2) := by decide +kernel
theorem dX6_lost_75 : decode cX6_lost 75 = .ok (.imul, 1) := by decide +kernel
theorem dX6_lost_76 : decode cX6_lost 76 = .ok (.iload_n 1, 1) := by decide +kernel
theorem dX6_lost_77 : decode cX6_lost 77 = .ok (.iadd, 1) := by decide +kernel
theorem dX6_lost_78 : decode cX6_lost 78 = .ok (.laload, 1) := by decide +kernel
theorem dX6_lost_79 : decode cX6_lost 79 = .ok (.lconst 0, 1) := by decide +kernel
theorem dX6_lost_80 : decode cX6_lost 80 = .ok (.lcmp, 1) := by decide +kernel
theorem dX6_lost_81 : decode cX6_lost 81 = .ok (.ifCond .ne 7, 3) := by decide +kernel
theorem dX6_lost_84 : decode cX6_lost 84 = .ok (.iconst 1, 1) := by decide +kernel
theorem dX6_lost_85 : decode cX6_lost 85 = .ok (.goto 4, 3) := by decide +kernel
theorem dX6_lost_88 : decode cX6_lost 88 = .ok (.iconst 0, 1) := by decide +kernel
theorem dX6_lost_89 : decode cX6_lost 89 = .ok (.istore 5, 2) := by decide +kernel
theorem dX6_lost_91 : decode cX6_lost 91 = .ok (.iinc 6 1, 3) := by decide +kernel
theorem dX6_lost_94 : decode cX6_lost 94 = .ok (.goto (-37), 3) := by decide +kernel
theorem dX6_lost_97 : decode cX6_lost 97 = .ok (.iload 5, 2) := by decide +kernel
theorem dX6_lost_99 : decode cX6_lost 99 = .ok (.ifCond .ne 6, 3) := by decide +kernel
theorem dX6_lost_102 : decode cX6_lost 102 = .ok (.goto 141, 3) := by decide +kernel
theorem dX6_lost_105 : decode cX6_lost 105 = .ok (.iconst 0, 1) := by decide +kernel
theorem dX6_lost_106 : decode cX6_lost 106 = .ok (.istore 6, 2) := by decide +kernel
theorem dX6_lost_108 : decode cX6_lost 108 = .ok (.iload 6, 2) := by decide +kernel
theorem dX6_lost_110 : decode cX6_lost 110 = .ok (.iload_n 1, 1) := by decide +kernel
theorem dX6_lost_111 : decode cX6_lost 111 = .ok (.if_icmp .ge 28, 3) := by decide +kernel
theorem dX6_lost_114 : decode cX6_lost 114 = .ok (.aload_n 0, 1) := by decide +kernel
theorem dX6_lost_115 : decode cX6_lost 115 = .ok (.getfield 49, 3) := by decide +kernel
theorem dX6_lost_118 : decode cX6_lost 118 = .ok (.iload 6, 2) := by decide +kernel
theorem dX6_lost_120 : decode cX6_lost 120 = .ok (.aload_n 0, 1) := by decide +kernel
theorem dX6_lost_121 : decode cX6_lost 121 = .ok (.getfield 46, 3) := by decide +kernel
theorem dX6_lost_124 : decode cX6_lost 124 = .ok (.iload_n 2, 1) := by decide +kernel
theorem dX6_lost_125 : decode cX6_lost 125 = .ok (.iload 6, 2) := by decide +kernel
theorem dX6_lost_127 : decode cX6_lost 127 = .ok (.imul, 1) := by decide +kernel
theorem dX6_lost_128 : decode cX6_lost 128 = .ok (.iload_n 1, 1) := by decide +kernel
theorem dX6_lost_129 : decode cX6_lost 129 = .ok (.iadd, 1) := by decide +kernel
theorem dX6_lost_130 : decode cX6_lost 130 = .ok (.laload, 1) := by decide +kernel
theorem dX6_lost_131 : decode cX6_lost 131 = .ok (.lneg, 1) := by decide +kernel
theorem dX6_lost_132 : decode cX6_lost 132 = .ok (.lastore, 1) := by decide +kernel
theorem dX6_lost_133 : decode cX6_lost 133 = .ok (.iinc 6 1, 3) := by decide +kernel
theorem dX6_lost_136 : decode cX6_lost 136 = .ok (.goto (-28), 3) := by decide +kernel
theorem dX6_lost_139 : decode cX6_lost 139 = .ok (.aload_n 0, 1) := by decide +kernel
theorem dX6_lost_140 : decode cX6_lost 140 = .ok (.getfield 49, 3) := by decide +kernel
theorem dX6_lost_143 : decode cX6_lost 143 = .ok (.iload_n 1, 1) := by decide +kernel
theorem dX6_lost_144 : decode cX6_lost 144 = .ok (.aload_n 0, 1) := by decide +kernel
theorem dX6_lost_145 : decode cX6_lost 145 = .ok (.getfield 133, 3) := by decide +kernel
theorem dX6_lost_148 : decode cX6_lost 148 = .ok (.lastore, 1) := by decide +kernel
theorem dX6_lost_149 : decode cX6_lost 149 = .ok (.lconst 0, 1) := by decide +kernel
theorem dX6_lost_150 : decode cX6_lost 150 = .ok (.lstore 6, 2) := by decide +kernel
theorem dX6_lost_152 : decode cX6_lost 152 = .ok (.iconst 0, 1) := by decide +kernel
theorem dX6_lost_153 : decode cX6_lost 153 = .ok (.istore 8, 2) := by decide +kernel
theorem dX6_lost_155 : decode cX6_lost 155 = .ok (.iload 8, 2) := by decide +kernel
theorem dX6_lost_157 : decode cX6_lost 157 = .ok (.iload_n 1, 1) := by decide +kernel
theorem dX6_lost_158 : decode cX6_lost 158 = .ok (.if_icmp .gt 23, 3) := by decide +kernel
theorem dX6_lost_161 : decode cX6_lost 161 = .ok (.lload 6, 2) := by decide +kernel
theorem dX6_lost_163 : decode cX6_lost 163 = .ok (.aload_n 0, 1) := by decide +kernel
theorem dX6_lost_164 : decode cX6_lost 164 = .ok (.getfield 49, 3) := by decide +kernel
theorem dX6_lost_167 : decode cX6_lost 167 = .ok (.iload 8, 2) := by decide +kernel
theorem dX6_lost_169 : decode cX6_lost 169 = .ok (.laload, 1) := by decide +kernel
theorem dX6_lost_170 : decode cX6_lost 170 = .ok (.invokestatic 140, 3) := by decide +kernel
theorem dX6_lost_173 : decode cX6_lost 173 = .ok (.lstore 6, 2) := by decide +kernel
theorem dX6_lost_175 : decode cX6_lost 175 = .ok (.iinc 8 1, 3) := by decide +kernel
theorem dX6_lost_178 : decode cX6_lost 178 = .ok (.goto (-23), 3) := by decide +kernel
theorem dX6_lost_181 : decode cX6_lost 181 = .ok (.aload_n 0, 1) := by decide +kernel
theorem dX6_lost_182 : decode cX6_lost 182 = .ok (.getfield 133, 3) := by decide +kernel
theorem dX6_lost_185 : decode cX6_lost 185 = .ok (.lconst 0, 1) := by decide +kernel
theorem dX6_lost_186 : decode cX6_lost 186 = .ok (.lcmp, 1) := by decide +kernel
theorem dX6_lost_187 : decode cX6_lost 187 = .ok (.ifCond .ge 8, 3) := by decide +kernel
theorem dX6_lost_190 : decode cX6_lost 190 = .ok (.lload 6, 2) := by decide +kernel
theorem dX6_lost_192 : decode cX6_lost 192 = .ok (.lneg, 1) := by decide +kernel
theorem dX6_lost_193 : decode cX6_lost 193 = .ok (.lstore 6, 2) := by decide +kernel
theorem dX6_lost_195 : decode cX6_lost 195 = .ok (.iconst 0, 1) := by decide +kernel
theorem dX6_lost_196 : decode cX6_lost 196 = .ok (.istore 8, 2) := by decide +kernel
theorem dX6_lost_198 : decode cX6_lost 198 = .ok (.iload 8, 2) := by decide +kernel
theorem dX6_lost_200 : decode cX6_lost 200 = .ok (.aload_n 0, 1) := by decide +kernel
theorem dX6_lost_201 : decode cX6_lost 201 = .ok (.getfield 7, 3) := by decide +kernel
theorem dX6_lost_204 : decode cX6_lost 204 = .ok (.if_icmp .ge 37, 3) := by decide +kernel
theorem dX6_lost_207 : decode cX6_lost 207 = .ok (.aload_n 0, 1) := by decide +kernel
theorem dX6_lost_208 : decode cX6_lost 208 = .ok (.getfield 17, 3) := by decide +kernel
theorem dX6_lost_211 : decode cX6_lost 211 = .ok (.iload 8, 2) := by decide +kernel
theorem dX6_lost_213 : decode cX6_lost 213 = .ok (.iload 8, 2) := by decide +kernel
theorem dX6_lost_215 : decode cX6_lost 215 = .ok (.iload_n 1, 1) := by decide +kernel
theorem dX6_lost_216 : decode cX6_lost 216 = .ok (.if_icmp .gt 17, 3) := by decide +kernel
theorem dX6_lost_219 : decode cX6_lost 219 = .ok (.aload_n 0, 1) := by decide +kernel
theorem dX6_lost_220 : decode cX6_lost 220 = .ok (.getfield 49, 3) := by decide +kernel
theorem dX6_lost_223 : decode cX6_lost 223 = .ok (.iload 8, 2) := by decide +kernel
theorem dX6_lost_225 : decode cX6_lost 225 = .ok (.laload, 1) := by decide +kernel
theorem dX6_lost_226 : decode cX6_lost 226 = .ok (.lload 6, 2) := by decide +kernel
theorem dX6_lost_228 : decode cX6_lost 228 = .ok (.ldiv, 1) := by decide +kernel
theorem dX6_lost_229 : decode cX6_lost 229 = .ok (.l2i, 1) := by decide +kernel
theorem dX6_lost_230 : decode cX6_lost 230 = .ok (.goto 4, 3) := by decide +kernel
theorem dX6_lost_233 : decode cX6_lost 233 = .ok (.iconst 0, 1) := by decide +kernel
theorem dX6_lost_234 : decode cX6_lost 234 = .ok (.iastore, 1) := by decide +kernel
theorem dX6_lost_235 : decode cX6_lost 235 = .ok (.iinc 8 1, 3) := by decide +kernel
theorem dX6_lost_238 : decode cX6_lost 238 = .ok (.goto (-40), 3) := by decide +kernel
theorem dX6_lost_241 : decode cX6_lost 241 = .ok (.iload_n 1, 1) := by decide +kernel
theorem dX6_lost_242 : decode cX6_lost 242 = .ok (.ireturn, 1) := by decide +kernel
theorem dX6_lost_243 : decode cX6_lost 243 = .ok (.iinc 1 1, 3) := by decide +kernel
theorem dX6_lost_246 : decode cX6_lost 246 = .ok (.goto (-225), 3) := by decide +kernel
theorem dX6_lost_249 : decode cX6_lost 249 = .ok (.iconst (-1), 1) := by decide +kernel
theorem dX6_lost_250 : decode cX6_lost 250 = .ok (.ireturn, 1) := by decide +kernel
theorem dX6_solve_0 : decode cX6_solve 0 = .ok (.aload_n 0, 1) := by decide +kernel
theorem dX6_solve_1 : decode cX6_solve 1 = .ok (.invokevirtual 68, 3) := by decide +kernel
theorem dX6_solve_4 : decode cX6_solve 4 = .ok (.iconst 1, 1) := by decide +kernel
theorem dX6_solve_5 : decode cX6_solve 5 = .ok (.istore_n 1, 1) := by decide +kernel
theorem dX6_solve_6 : decode cX6_solve 6 = .ok (.iconst 0, 1) := by decide +kernel
theorem dX6_solve_7 : decode cX6_solve 7 = .ok (.istore_n 2, 1) := by decide +kernel
theorem dX6_solve_8 : decode cX6_solve 8 = .ok (.iload_n 2, 1) := by decide +kernel
theorem dX6_solve_9 : decode cX6_solve 9 = .ok (.aload_n 0, 1) := by decide +kernel
theorem dX6_solve_10 : decode cX6_solve 10 = .ok (.getfield 7, 3) := by decide +kernel
theorem dX6_solve_13 : decode cX6_solve 13 = .ok (.if_icmp .ge 28, 3) := by decide +kernel
theorem dX6_solve_16 : decode cX6_solve 16 = .ok (.iload_n 1, 1) := by decide +kernel
theorem dX6_solve_17 : decode cX6_solve 17 = .ok (.ifCond .eq 16, 3) := by decide +kernel
theorem dX6_solve_20 : decode cX6_solve 20 = .ok (.aload_n 0, 1) := by decide +kernel
theorem dX6_solve_21 : decode cX6_solve 21 = .ok (.getfield 23, 3) := by decide +kernel
theorem dX6_solve_24 : decode cX6_solve 24 = .ok (.iload_n 2, 1) := by decide +kernel
theorem dX6_solve_25 : decode cX6_solve 25 = .ok (.baload, 1) := by decide +kernel
theorem dX6_solve_26 : decode cX6_solve 26 = .ok (.ifCond .ne 7, 3) := by decide +kernel
theorem dX6_solve_29 : decode cX6_solve 29 = .ok (.iconst 1, 1) := by decide +kernel
theorem dX6_solve_30 : decode cX6_solve 30 = .ok (.goto 4, 3) := by decide +kernel
theorem dX6_solve_33 : decode cX6_solve 33 = .ok (.iconst 0, 1) := by decide +kernel
theorem dX6_solve_34 : decode cX6_solve 34 = .ok (.istore_n 1, 1) := by decide +kernel
theorem dX6_solve_35 : decode cX6_solve 35 = .ok (.iinc 2 1, 3) := by decide +kernel
theorem dX6_solve_38 : decode cX6_solve 38 = .ok (.goto (-30), 3) := by decide +kernel
theorem dX6_solve_41 : decode cX6_solve 41 = .ok (.aload_n 0, 1) := by decide +kernel
theorem dX6_solve_42 : decode cX6_solve 42 = .ok (.getfield 7, 3) := by decide +kernel
theorem dX6_solve_45 : decode cX6_solve 45 = .ok (.bipush 14, 2) := by decide +kernel
theorem dX6_solve_47 : decode cX6_solve 47 = .ok (.if_icmp .gt 7, 3) := by decide +kernel
theorem dX6_solve_50 : decode cX6_solve 50 = .ok (.iload_n 1, 1) := by decide +kernel
theorem dX6_solve_51 : decode cX6_solve 51 = .ok (.ifCond .ne 9, 3) := by decide +kernel
theorem dX6_solve_54 : decode cX6_solve 54 = .ok (.aload_n 0, 1) := by decide +kernel
theorem dX6_solve_55 : decode cX6_solve 55 = .ok (.iconst 1, 1) := by decide +kernel
theorem dX6_solve_56 : decode cX6_solve 56 = .ok (.invokevirtual 79, 3) := by decide +kernel
theorem dX6_solve_59 : decode cX6_solve 59 = .ok (.ireturn, 1) := by decide +kernel
theorem dX6_solve_60 : decode cX6_solve 60 = .ok (.aload_n 0, 1) := by decide +kernel
theorem dX6_solve_61 : decode cX6_solve 61 = .ok (.invokevirtual 144, 3) := by decide +kernel
theorem dX6_solve_64 : decode cX6_solve 64 = .ok (.ifCond .ne 5, 3) := by decide +kernel
theorem dX6_solve_67 : decode cX6_solve 67 = .ok (.iconst 0, 1) := by decide +kernel
theorem dX6_solve_68 : decode cX6_solve 68 = .ok (.ireturn, 1) := by decide +kernel
theorem dX6_solve_69 : decode cX6_solve 69 = .ok (.iconst 0, 1) := by decide +kernel
theorem dX6_solve_70 : decode cX6_solve 70 = .ok (.istore_n 2, 1) := by decide +kernel
theorem dX6_solve_71 : decode cX6_solve 71 = .ok (.iload_n 2, 1) := by decide +kernel
theorem dX6_solve_72 : decode cX6_solve 72 = .ok (.aload_n 0, 1) := by decide +kernel
theorem dX6_solve_73 : decode cX6_solve 73 = .ok (.getfield 7, 3) := by decide +kernel
theorem dX6_solve_76 : decode cX6_solve 76 = .ok (.if_icmp .ge 108, 3) := by decide +kernel
theorem dX6_solve_79 : decode cX6_solve 79 = .ok (.lconst 0, 1) := by decide +kernel
theorem dX6_solve_80 : decode cX6_solve 80 = .ok (.lstore_n 3, 1) := by decide +kernel
theorem dX6_solve_81 : decode cX6_solve 81 = .ok (.iconst 0, 1) := by decide +kernel
theorem dX6_solve_82 : decode cX6_solve 82 = .ok (.istore 5, 2) := by decide +kernel
theorem dX6_solve_84 : decode cX6_solve 84 = .ok (.iload 5, 2) := by decide +kernel
theorem dX6_solve_86 : decode cX6_solve 86 = .ok (.aload_n 0, 1) := by decide +kernel
theorem dX6_solve_87 : decode cX6_solve 87 = .ok (.getfield 7, 3) := by decide +kernel
theorem dX6_solve_90 : decode cX6_solve 90 = .ok (.if_icmp .ge 35, 3) := by decide +kernel
theorem dX6_solve_93 : decode cX6_solve 93 = .ok (.lload_n 3, 1) := by decide +kernel
theorem dX6_solve_94 : decode cX6_solve 94 = .ok (.aload_n 0, 1) := by decide +kernel
theorem dX6_solve_95 : decode cX6_solve 95 = .ok (.getfield 52, 3) := by decide +kernel
theorem dX6_solve_98 : decode cX6_solve 98 = .ok (.iload 5, 2) := by decide +kernel
theorem dX6_solve_100 : decode cX6_solve 100 = .ok (.laload, 1) := by decide +kernel
theorem dX6_solve_101 : decode cX6_solve 101 = .ok (.aload_n 0, 1) := by decide +kernel
theorem dX6_solve_102 : decode cX6_solve 102 = .ok (.getfield 20, 3) := by decide +kernel
theorem dX6_solve_105 : decode cX6_solve 105 = .ok (.iload_n 2, 1) := by decide +kernel
theorem dX6_solve_106 : decode cX6_solve 106 = .ok (.iload 5, 2) := by decide +kernel
theorem dX6_solve_108 : decode cX6_solve 108 = .ok (.iadd, 1) := by decide +kernel
theorem dX6_solve_109 : decode cX6_solve 109 = .ok (.aload_n 0, 1) := by decide +kernel
theorem dX6_solve_110 : decode cX6_solve 110 = .ok (.getfield 7, 3) := by decide +kernel
theorem dX6_solve_113 : decode cX6_solve 113 = .ok (.irem, 1) := by decide +kernel
theorem dX6_solve_114 : decode cX6_solve 114 = .ok (.iaload, 1) := by decide +kernel
theorem dX6_solve_115 : decode cX6_solve 115 = .ok (.i2l, 1) := by decide +kernel
theorem dX6_solve_116 : decode cX6_solve 116 = .ok (.lmul, 1) := by decide +kernel
theorem dX6_solve_117 : decode cX6_solve 117 = .ok (.ladd, 1) := by decide +kernel
theorem dX6_solve_118 : decode cX6_solve 118 = .ok (.lstore_n 3, 1) := by decide +kernel
theorem dX6_solve_119 : decode cX6_solve 119 = .ok (.iinc 5 1, 3) := by decide +kernel
theorem dX6_solve_122 : decode cX6_solve 122 = .ok (.goto (-38), 3) := by decide +kernel
theorem dX6_solve_125 : decode cX6_solve 125 = .ok (.lload_n 3, 1) := by decide +kernel
theorem dX6_solve_126 : decode cX6_solve 126 = .ok (.aload_n 0, 1) := by decide +kernel
theorem dX6_solve_127 : decode cX6_solve 127 = .ok (.getfield 133, 3) := by decide +kernel
theorem dX6_solve_130 : decode cX6_solve 130 = .ok (.lrem, 1) := by decide +kernel
theorem dX6_solve_131 : decode cX6_solve 131 = .ok (.lconst 0, 1) := by decide +kernel
theorem dX6_solve_132 : decode cX6_solve 132 = .ok (.lcmp, 1) := by decide +kernel
theorem dX6_solve_133 : decode cX6_solve 133 = .ok (.ifCond .ne 29, 3) := by decide +kernel
theorem dX6_solve_136 : decode cX6_solve 136 = .ok (.lload_n 3, 1) := by decide +kernel
theorem dX6_solve_137 : decode cX6_solve 137 = .ok (.aload_n 0, 1) := by decide +kernel
theorem dX6_solve_138 : decode cX6_solve 138 = .ok (.getfield 133, 3) := by decide +kernel
theorem dX6_solve_141 : decode cX6_solve 141 = .ok (.ldiv, 1) := by decide +kernel
theorem dX6_solve_142 : decode cX6_solve 142 = .ok (.ldc2_w 152, 3) := by decide +kernel
theorem dX6_solve_145 : decode cX6_solve 145 = .ok (.lcmp, 1) := by decide +kernel
theorem dX6_solve_146 : decode cX6_solve 146 = .ok (.ifCond .lt 16, 3) := by decide +kernel
theorem dX6_solve_149 : decode cX6_solve 149 = .ok (.lload_n 3, 1) := by decide +kernel
theorem dX6_solve_150 : decode cX6_solve 150 = .ok (.aload_n 0, 1) := by decide +kernel
theorem dX6_solve_151 : decode cX6_solve 151 = .ok (.getfield 133, 3) := by decide +kernel
theorem dX6_solve_154 : decode cX6_solve 154 = .ok (.ldiv, 1) := by decide +kernel
theorem dX6_solve_155 : decode cX6_solve 155 = .ok (.ldc2_w 154, 3) := by decide +kernel
theorem dX6_solve_158 : decode cX6_solve 158 = .ok (.lcmp, 1) := by decide +kernel
theorem dX6_solve_159 : decode cX6_solve 159 = .ok (.ifCond .le 6, 3) := by decide +kernel
theorem dX6_solve_162 : decode cX6_solve 162 = .ok (.bipush (-2), 2) := by decide +kernel
theorem dX6_solve_164 : decode cX6_solve 164 = .ok (.ireturn, 1) := by decide +kernel
theorem dX6_solve_165 : decode cX6_solve 165 = .ok (.aload_n 0, 1) := by decide +kernel
theorem dX6_solve_166 : decode cX6_solve 166 = .ok (.getfield 55, 3) := by decide +kernel
theorem dX6_solve_169 : decode cX6_solve 169 = .ok (.iload_n 2, 1) := by decide +kernel
theorem dX6_solve_170 : decode cX6_solve 170 = .ok (.lload_n 3, 1) := by decide +kernel
theorem dX6_solve_171 : decode cX6_solve 171 = .ok (.aload_n 0, 1) := by decide +kernel
theorem dX6_solve_172 : decode cX6_solve 172 = .ok (.getfield 133, 3) := by decide +kernel
theorem dX6_solve_175 : decode cX6_solve 175 = .ok (.ldiv, 1) := by decide +kernel
theorem dX6_solve_176 : decode cX6_solve 176 = .ok (.l2i, 1) := by decide +kernel
theorem dX6_solve_177 : decode cX6_solve 177 = .ok (.iastore, 1) := by decide +kernel
theorem dX6_solve_178 : decode cX6_solve 178 = .ok (.iinc 2 1, 3) := by decide +kernel
theorem dX6_solve_181 : decode cX6_solve 181 = .ok (.goto (-110), 3) := by decide +kernel
theorem dX6_solve_184 : decode cX6_solve 184 = .ok (.iconst 0, 1) := by decide +kernel
theorem dX6_solve_185 : decode cX6_solve 185 = .ok (.istore_n 2, 1) := by decide +kernel
theorem dX6_solve_186 : decode cX6_solve 186 = .ok (.iload_n 2, 1) := by decide +kernel
theorem dX6_solve_187 : decode cX6_solve 187 = .ok (.aload_n 0, 1) := by decide +kernel
theorem dX6_solve_188 : decode cX6_solve 188 = .ok (.getfield 7, 3) := by decide +kernel
theorem dX6_solve_191 : decode cX6_solve 191 = .ok (.if_icmp .ge 21, 3) := by decide +kernel
theorem dX6_solve_194 : decode cX6_solve 194 = .ok (.aload_n 0, 1) := by decide +kernel
theorem dX6_solve_195 : decode cX6_solve 195 = .ok (.getfield 17, 3) := by decide +kernel
theorem dX6_solve_198 : decode cX6_solve 198 = .ok (.iload_n 2, 1) := by decide +kernel
theorem dX6_solve_199 : decode cX6_solve 199 = .ok (.aload_n 0, 1) := by decide +kernel
theorem dX6_solve_200 : decode cX6_solve 200 = .ok (.getfield 55, 3) := by decide +kernel
theorem dX6_solve_203 : decode cX6_solve 203 = .ok (.iload_n 2, 1) := by decide +kernel
theorem dX6_solve_204 : decode cX6_solve 204 = .ok (.iaload, 1) := by decide +kernel
theorem dX6_solve_205 : decode cX6_solve 205 = .ok (.iastore, 1) := by decide +kernel
theorem dX6_solve_206 : decode cX6_solve 206 = .ok (.iinc 2 1, 3) := by decide +kernel
theorem dX6_solve_209 : decode cX6_solve 209 = .ok (.goto (-23), 3) := by decide +kernel
theorem dX6_solve_212 : decode cX6_solve 212 = .ok (.iconst 1, 1) := by decide +kernel
theorem dX6_solve_213 : decode cX6_solve 213 = .ok (.ireturn, 1) := by decide +kernel
theorem dX6_fits_0 : decode cX6_fits 0 = .ok (.iconst 0, 1) := by decide +kernel
theorem dX6_fits_1 : decode cX6_fits 1 = .ok (.istore 6, 2) := by decide +kernel
theorem dX6_fits_3 : decode cX6_fits 3 = .ok (.iload 6, 2) := by decide +kernel
theorem dX6_fits_5 : decode cX6_fits 5 = .ok (.aload_n 0, 1) := by decide +kernel
theorem dX6_fits_6 : decode cX6_fits 6 = .ok (.getfield 7, 3) := by decide +kernel
theorem dX6_fits_9 : decode cX6_fits 9 = .ok (.if_icmp .ge 93, 3) := by decide +kernel
theorem dX6_fits_12 : decode cX6_fits 12 = .ok (.aload_n 0, 1) := by decide +kernel
theorem dX6_fits_13 : decode cX6_fits 13 = .ok (.getfield 23, 3) := by decide +kernel
theorem dX6_fits_16 : decode cX6_fits 16 = .ok (.iload 6, 2) := by decide +kernel
theorem dX6_fits_18 : decode cX6_fits 18 = .ok (.baload, 1) := by decide +kernel
theorem dX6_fits_19 : decode cX6_fits 19 = .ok (.ifCond .eq 6, 3) := by decide +kernel
theorem dX6_fits_22 : decode cX6_fits 22 = .ok (.goto 74, 3) := by decide +kernel
theorem dX6_fits_25 : decode cX6_fits 25 = .ok (.iload_n 2, 1) := by decide +kernel
theorem dX6_fits_26 : decode cX6_fits 26 = .ok (.aload_n 0, 1) := by decide +kernel
theorem dX6_fits_27 : decode cX6_fits 27 = .ok (.getfield 13, 3) := by decide +kernel
theorem dX6_fits_30 : decode cX6_fits 30 = .ok (.iload_n 1, 1) := by decide +kernel
theorem dX6_fits_31 : decode cX6_fits 31 = .ok (.iload 6, 2) := by decide +kernel
theorem dX6_fits_33 : decode cX6_fits 33 = .ok (.isub, 1) := by decide +kernel
theorem dX6_fits_34 : decode cX6_fits 34 = .ok (.aload_n 0, 1) := by decide +kernel
theorem dX6_fits_35 : decode cX6_fits 35 = .ok (.getfield 7, 3) := by decide +kernel
theorem dX6_fits_38 : decode cX6_fits 38 = .ok (.iadd, 1) := by decide +kernel
theorem dX6_fits_39 : decode cX6_fits 39 = .ok (.aload_n 0, 1) := by decide +kernel
theorem dX6_fits_40 : decode cX6_fits 40 = .ok (.getfield 7, 3) := by decide +kernel
theorem dX6_fits_43 : decode cX6_fits 43 = .ok (.irem, 1) := by decide +kernel
theorem dX6_fits_44 : decode cX6_fits 44 = .ok (.iaload, 1) := by decide +kernel
theorem dX6_fits_45 : decode cX6_fits 45 = .ok (.imul, 1) := by decide +kernel
theorem dX6_fits_46 : decode cX6_fits 46 = .ok (.iload 4, 2) := by decide +kernel
theorem dX6_fits_48 : decode cX6_fits 48 = .ok (.aload_n 0, 1) := by decide +kernel
theorem dX6_fits_49 : decode cX6_fits 49 = .ok (.getfield 13, 3) := by decide +kernel
theorem dX6_fits_52 : decode cX6_fits 52 = .ok (.iload_n 3, 1) := by decide +kernel
theorem dX6_fits_53 : decode cX6_fits 53 = .ok (.iload 6, 2) := by decide +kernel
theorem dX6_fits_55 : decode cX6_fits 55 = .ok (.isub, 1) := by decide +kernel
theorem dX6_fits_56 : decode cX6_fits 56 = .ok (.aload_n 0, 1) := by decide +kernel
theorem dX6_fits_57 : decode cX6_fits 57 = .ok (.getfield 7, 3) := by decide +kernel
theorem dX6_fits_60 : decode cX6_fits 60 = .ok (.iadd, 1) := by decide +kernel
theorem dX6_fits_61 : decode cX6_fits 61 = .ok (.aload_n 0, 1) := by decide +kernel
theorem dX6_fits_62 : decode cX6_fits 62 = .ok (.getfield 7, 3) := by decide +kernel
theorem dX6_fits_65 : decode cX6_fits 65 = .ok (.irem, 1) := by decide +kernel
theorem dX6_fits_66 : decode cX6_fits 66 = .ok (.iaload, 1) := by decide +kernel
theorem dX6_fits_67 : decode cX6_fits 67 = .ok (.imul, 1) := by decide +kernel
theorem dX6_fits_68 : decode cX6_fits 68 = .ok (.iadd, 1) := by decide +kernel
theorem dX6_fits_69 : decode cX6_fits 69 = .ok (.aload_n 0, 1) := by decide +kernel
theorem dX6_fits_70 : decode cX6_fits 70 = .ok (.getfield 20, 3) := by decide +kernel
theorem dX6_fits_73 : decode cX6_fits 73 = .ok (.iload 6, 2) := by decide +kernel
theorem dX6_fits_75 : decode cX6_fits 75 = .ok (.iaload, 1) := by decide +kernel
theorem dX6_fits_76 : decode cX6_fits 76 = .ok (.isub, 1) := by decide +kernel
theorem dX6_fits_77 : decode cX6_fits 77 = .ok (.istore 7, 2) := by decide +kernel
theorem dX6_fits_79 : decode cX6_fits 79 = .ok (.iload 7, 2) := by decide +kernel
theorem dX6_fits_81 : decode cX6_fits 81 = .ok (.iload 5, 2) := by decide +kernel
theorem dX6_fits_83 : decode cX6_fits 83 = .ok (.if_icmp .gt 11, 3) := by decide +kernel
theorem dX6_fits_86 : decode cX6_fits 86 = .ok (.iload 7, 2) := by decide +kernel
theorem dX6_fits_88 : decode cX6_fits 88 = .ok (.iload 5, 2) := by decide +kernel
theorem dX6_fits_90 : decode cX6_fits 90 = .ok (.ineg, 1) := by decide +kernel
theorem dX6_fits_91 : decode cX6_fits 91 = .ok (.if_icmp .ge 5, 3) := by decide +kernel
theorem dX6_fits_94 : decode cX6_fits 94 = .ok (.iconst 0, 1) := by decide +kernel
theorem dX6_fits_95 : decode cX6_fits 95 = .ok (.ireturn, 1) := by decide +kernel
theorem dX6_fits_96 : decode cX6_fits 96 = .ok (.iinc 6 1, 3) := by decide +kernel
theorem dX6_fits_99 : decode cX6_fits 99 = .ok (.goto (-96), 3) := by decide +kernel
theorem dX6_fits_102 : decode cX6_fits 102 = .ok (.iconst 1, 1) := by decide +kernel
theorem dX6_fits_103 : decode cX6_fits 103 = .ok (.ireturn, 1) := by decide +kernel
theorem dX6_note_0 : decode cX6_note 0 = .ok (.aload_n 0, 1) := by decide +kernel
theorem dX6_note_1 : decode cX6_note 1 = .ok (.getfield 104, 3) := by decide +kernel
theorem dX6_note_4 : decode cX6_note 4 = .ok (.sipush 200, 3) := by decide +kernel
theorem dX6_note_7 : decode cX6_note 7 = .ok (.if_icmp .ge 58, 3) := by decide +kernel
theorem dX6_note_10 : decode cX6_note 10 = .ok (.aload_n 0, 1) := by decide +kernel
theorem dX6_note_11 : decode cX6_note 11 = .ok (.getfield 43, 3) := by decide +kernel
theorem dX6_note_14 : decode cX6_note 14 = .ok (.iconst 4, 1) := by decide +kernel
theorem dX6_note_15 : decode cX6_note 15 = .ok (.aload_n 0, 1) := by decide +kernel
theorem dX6_note_16 : decode cX6_note 16 = .ok (.getfield 104, 3) := by decide +kernel
theorem dX6_note_19 : decode cX6_note 19 = .ok (.imul, 1) := by decide +kernel
theorem dX6_note_20 : decode cX6_note 20 = .ok (.iload_n 1, 1) := by decide +kernel
theorem dX6_note_21 : decode cX6_note 21 = .ok (.iastore, 1) := by decide +kernel
theorem dX6_note_22 : decode cX6_note 22 = .ok (.aload_n 0, 1) := by decide +kernel
theorem dX6_note_23 : decode cX6_note 23 = .ok (.getfield 43, 3) := by decide +kernel
theorem dX6_note_26 : decode cX6_note 26 = .ok (.iconst 4, 1) := by decide +kernel
theorem dX6_note_27 : decode cX6_note 27 = .ok (.aload_n 0, 1) := by decide +kernel
theorem dX6_note_28 : decode cX6_note 28 = .ok (.getfield 104, 3) := by decide +kernel
theorem dX6_note_31 : decode cX6_note 31 = .ok (.imul, 1) := by decide +kernel
theorem dX6_note_32 : decode cX6_note 32 = .ok (.iconst 1, 1) := by decide +kernel
theorem dX6_note_33 : decode cX6_note 33 = .ok (.iadd, 1) := by decide +kernel
theorem dX6_note_34 : decode cX6_note 34 = .ok (.iload_n 2, 1) := by decide +kernel
theorem dX6_note_35 : decode cX6_note 35 = .ok (.iastore, 1) := by decide +kernel
theorem dX6_note_36 : decode cX6_note 36 = .ok (.aload_n 0, 1) := by decide +kernel
theorem dX6_note_37 : decode cX6_note 37 = .ok (.getfield 43, 3) := by decide +kernel
theorem dX6_note_40 : decode cX6_note 40 = .ok (.iconst 4, 1) := by decide +kernel
theorem dX6_note_41 : decode cX6_note 41 = .ok (.aload_n 0, 1) := by decide +kernel
theorem dX6_note_42 : decode cX6_note 42 = .ok (.getfield 104, 3) := by decide +kernel
theorem dX6_note_45 : decode cX6_note 45 = .ok (.imul, 1) := by decide +kernel
theorem dX6_note_46 : decode cX6_note 46 = .ok (.iconst 2, 1) := by decide +kernel
theorem dX6_note_47 : decode cX6_note 47 = .ok (.iadd, 1) := by decide +kernel
theorem dX6_note_48 : decode cX6_note 48 = .ok (.iload_n 3, 1) := by decide +kernel
theorem dX6_note_49 : decode cX6_note 49 = .ok (.iastore, 1) := by decide +kernel
theorem dX6_note_50 : decode cX6_note 50 = .ok (.aload_n 0, 1) := by decide +kernel
theorem dX6_note_51 : decode cX6_note 51 = .ok (.getfield 43, 3) := by decide +kernel
theorem dX6_note_54 : decode cX6_note 54 = .ok (.iconst 4, 1) := by decide +kernel
theorem dX6_note_55 : decode cX6_note 55 = .ok (.aload_n 0, 1) := by decide +kernel
theorem dX6_note_56 : decode cX6_note 56 = .ok (.getfield 104, 3) := by decide +kernel
theorem dX6_note_59 : decode cX6_note 59 = .ok (.imul, 1) := by decide +kernel
theorem dX6_note_60 : decode cX6_note 60 = .ok (.iconst 3, 1) := by decide +kernel
theorem dX6_note_61 : decode cX6_note 61 = .ok (.iadd, 1) := by decide +kernel
theorem dX6_note_62 : decode cX6_note 62 = .ok (.iload 4, 2) := by decide +kernel
theorem dX6_note_64 : decode cX6_note 64 = .ok (.iastore, 1) := by decide +kernel
theorem dX6_note_65 : decode cX6_note 65 = .ok (.aload_n 0, 1) := by decide +kernel
theorem dX6_note_66 : decode cX6_note 66 = .ok (.dup, 1) := by decide +kernel
theorem dX6_note_67 : decode cX6_note 67 = .ok (.getfield 104, 3) := by decide +kernel
theorem dX6_note_70 : decode cX6_note 70 = .ok (.iconst 1, 1) := by decide +kernel
theorem dX6_note_71 : decode cX6_note 71 = .ok (.iadd, 1) := by decide +kernel
theorem dX6_note_72 : decode cX6_note 72 = .ok (.putfield 104, 3) := by decide +kernel
theorem dX6_note_75 : decode cX6_note 75 = .ok (.return_, 1) := by decide +kernel
theorem dX6_points_0 : decode cX6_points 0 = .ok (.aload_n 0, 1) := by decide +kernel
theorem dX6_points_1 : decode cX6_points 1 = .ok (.invokevirtual 68, 3) := by decide +kernel
theorem dX6_points_4 : decode cX6_points 4 = .ok (.iload_n 1, 1) := by decide +kernel
theorem dX6_points_5 : decode cX6_points 5 = .ok (.ifCond .lt 10, 3) := by decide +kernel
theorem dX6_points_8 : decode cX6_points 8 = .ok (.iload_n 1, 1) := by decide +kernel
theorem dX6_points_9 : decode cX6_points 9 = .ok (.sipush 1000, 3) := by decide +kernel
theorem dX6_points_12 : decode cX6_points 12 = .ok (.if_icmp .le 9, 3) := by decide +kernel
theorem dX6_points_15 : decode cX6_points 15 = .ok (.aload_n 0, 1) := by decide +kernel
theorem dX6_points_16 : decode cX6_points 16 = .ok (.iconst 1, 1) := by decide +kernel
theorem dX6_points_17 : decode cX6_points 17 = .ok (.invokevirtual 79, 3) := by decide +kernel
theorem dX6_points_20 : decode cX6_points 20 = .ok (.ireturn, 1) := by decide +kernel
theorem dX6_points_21 : decode cX6_points 21 = .ok (.aload_n 0, 1) := by decide +kernel
theorem dX6_points_22 : decode cX6_points 22 = .ok (.iconst 0, 1) := by decide +kernel
theorem dX6_points_23 : decode cX6_points 23 = .ok (.putfield 104, 3) := by decide +kernel
theorem dX6_points_26 : decode cX6_points 26 = .ok (.aload_n 0, 1) := by decide +kernel
theorem dX6_points_27 : decode cX6_points 27 = .ok (.iconst 0, 1) := by decide +kernel
theorem dX6_points_28 : decode cX6_points 28 = .ok (.iconst 0, 1) := by decide +kernel
theorem dX6_points_29 : decode cX6_points 29 = .ok (.iconst 0, 1) := by decide +kernel
theorem dX6_points_30 : decode cX6_points 30 = .ok (.iconst 0, 1) := by decide +kernel
theorem dX6_points_31 : decode cX6_points 31 = .ok (.iload_n 1, 1) := by decide +kernel
theorem dX6_points_32 : decode cX6_points 32 = .ok (.invokevirtual 156, 3) := by decide +kernel
theorem dX6_points_35 : decode cX6_points 35 = .ok (.ifCond .eq 11, 3) := by decide +kernel
theorem dX6_points_38 : decode cX6_points 38 = .ok (.aload_n 0, 1) := by decide +kernel
theorem dX6_points_39 : decode cX6_points 39 = .ok (.iconst (-1), 1) := by decide +kernel
theorem dX6_points_40 : decode cX6_points 40 = .ok (.iconst 0, 1) := by decide +kernel
theorem dX6_points_41 : decode cX6_points 41 = .ok (.iconst (-1), 1) := by decide +kernel
theorem dX6_points_42 : decode cX6_points 42 = .ok (.iconst 0, 1) := by decide +kernel
theorem dX6_points_43 : decode cX6_points 43 = .ok (.invokevirtual 160, 3) := by decide +kernel
theorem dX6_points_46 : decode cX6_points 46 = .ok (.iconst 0, 1) := by decide +kernel
theorem dX6_points_47 : decode cX6_points 47 = .ok (.istore_n 2, 1) := by decide +kernel
theorem dX6_points_48 : decode cX6_points 48 = .ok (.iload_n 2, 1) := by decide +kernel
theorem dX6_points_49 : decode cX6_points 49 = .ok (.aload_n 0, 1) := by decide +kernel
theorem dX6_points_50 : decode cX6_points 50 = .ok (.getfield 7, 3) := by decide +kernel
theorem dX6_points_53 : decode cX6_points 53 = .ok (.if_icmp .ge 43, 3) := by decide +kernel
theorem dX6_points_56 : decode cX6_points 56 = .ok (.iconst 1, 1) := by decide +kernel
theorem dX6_points_57 : decode cX6_points 57 = .ok (.istore_n 3, 1) := by decide +kernel
theorem dX6_points_58 : decode cX6_points 58 = .ok (.iload_n 3, 1) := by decide +kernel
theorem dX6_points_59 : decode cX6_points 59 = .ok (.bipush 10, 2) := by decide +kernel
theorem dX6_points_61 : decode cX6_points 61 = .ok (.if_icmp .ge 29, 3) := by decide +kernel
theorem dX6_points_64 : decode cX6_points 64 = .ok (.aload_n 0, 1) := by decide +kernel
theorem dX6_points_65 : decode cX6_points 65 = .ok (.iload_n 2, 1) := by decide +kernel
theorem dX6_points_66 : decode cX6_points 66 = .ok (.iload_n 3, 1) := by decide +kernel
theorem dX6_points_67 : decode cX6_points 67 = .ok (.iconst 0, 1) := by decide +kernel
theorem dX6_points_68 : decode cX6_points 68 = .ok (.iconst 0, 1) := by decide +kernel
theorem dX6_points_69 : decode cX6_points 69 = .ok (.iload_n 1, 1) := by decide +kernel
theorem dX6_points_70 : decode cX6_points 70 = .ok (.invokevirtual 156, 3) := by decide +kernel
theorem dX6_points_73 : decode cX6_points 73 = .ok (.ifCond .eq 11, 3) := by decide +kernel
theorem dX6_points_76 : decode cX6_points 76 = .ok (.aload_n 0, 1) := by decide +kernel
theorem dX6_points_77 : decode cX6_points 77 = .ok (.iload_n 2, 1) := by decide +kernel
theorem dX6_points_78 : decode cX6_points 78 = .ok (.iload_n 3, 1) := by decide +kernel
theorem dX6_points_79 : decode cX6_points 79 = .ok (.iconst (-1), 1) := by decide +kernel
theorem dX6_points_80 : decode cX6_points 80 = .ok (.iconst 0, 1) := by decide +kernel
theorem dX6_points_81 : decode cX6_points 81 = .ok (.invokevirtual 160, 3) := by decide +kernel
theorem dX6_points_84 : decode cX6_points 84 = .ok (.iinc 3 1, 3) := by decide +kernel
theorem dX6_points_87 : decode cX6_points 87 = .ok (.goto (-29), 3) := by decide +kernel
theorem dX6_points_90 : decode cX6_points 90 = .ok (.iinc 2 1, 3) := by decide +kernel
theorem dX6_points_93 : decode cX6_points 93 = .ok (.goto (-45), 3) := by decide +kernel
theorem dX6_points_96 : decode cX6_points 96 = .ok (.iconst 0, 1) := by decide +kernel
theorem dX6_points_97 : decode cX6_points 97 = .ok (.istore_n 2, 1) := by decide +kernel
theorem dX6_points_98 : decode cX6_points 98 = .ok (.iload_n 2, 1) := by decide +kernel
theorem dX6_points_99 : decode cX6_points 99 = .ok (.aload_n 0, 1) := by decide +kernel
theorem dX6_points_100 : decode cX6_points 100 = .ok (.getfield 7, 3) := by decide +kernel
theorem dX6_points_103 : decode cX6_points 103 = .ok (.if_icmp .ge 83, 3) := by decide +kernel
theorem dX6_points_106 : decode cX6_points 106 = .ok (.iconst 1, 1) := by decide +kernel
theorem dX6_points_107 : decode cX6_points 107 = .ok (.istore_n 3, 1) := by decide +kernel
theorem dX6_points_108 : decode cX6_points 108 = .ok (.iload_n 3, 1) := by decide +kernel
theorem dX6_points_109 : decode cX6_points 109 = .ok (.bipush 10, 2) := by decide +kernel
theorem dX6_points_111 : decode cX6_points 111 = .ok (.if_icmp .ge 69, 3) := by decide +kernel
theorem dX6_points_114 : decode cX6_points 114 = .ok (.iload_n 2, 1) := by decide +kernel
theorem dX6_points_115 : decode cX6_points 115 = .ok (.iconst 1, 1) := by decide +kernel
theorem dX6_points_116 : decode cX6_points 116 = .ok (.iadd, 1) := by decide +kernel
theorem dX6_points_117 : decode cX6_points 117 = .ok (.istore 4, 2) := by decide +kernel
theorem dX6_points_119 : decode cX6_points 119 = .ok (.iload 4, 2) := by decide +kernel
theorem dX6_points_121 : decode cX6_points 121 = .ok (.aload_n 0, 1) := by decide +kernel
theorem dX6_points_122 : decode cX6_points 122 = .ok (.getfield 7, 3) := by decide +kernel
theorem dX6_points_125 : decode cX6_points 125 = .ok (.if_icmp .ge 49, 3) := by decide +kernel
theorem dX6_points_128 : decode cX6_points 128 = .ok (.iconst 1, 1) := by decide +kernel
theorem dX6_points_129 : decode cX6_points 129 = .ok (.istore 5, 2) := by decide +kernel
theorem dX6_points_131 : decode cX6_points 131 = .ok (.iload 5, 2) := by decide +kernel
theorem dX6_points_133 : decode cX6_points 133 = .ok (.bipush 10, 2) := by decide +kernel
theorem dX6_points_135 : decode cX6_points 135 = .ok (.if_icmp .ge 33, 3) := by decide +kernel
theorem dX6_points_138 : decode cX6_points 138 = .ok (.aload_n 0, 1) := by decide +kernel
theorem dX6_points_139 : decode cX6_points 139 = .ok (.iload_n 2, 1) := by decide +kernel
theorem dX6_points_140 : decode cX6_points 140 = .ok (.iload_n 3, 1) := by decide +kernel
theorem dX6_points_141 : decode cX6_points 141 = .ok (.iload 4, 2) := by decide +kernel
theorem dX6_points_143 : decode cX6_points 143 = .ok (.iload 5, 2) := by decide +kernel
theorem dX6_points_145 : decode cX6_points 145 = .ok (.iload_n 1, 1) := by decide +kernel
theorem dX6_points_146 : decode cX6_points 146 = .ok (.invokevirtual 156, 3) := by decide +kernel
theorem dX6_points_149 : decode cX6_points 149 = .ok (.ifCond .eq 13, 3) := by decide +kernel
theorem dX6_points_152 : decode cX6_points 152 = .ok (.aload_n 0, 1) := by decide +kernel
theorem dX6_points_153 : decode cX6_points 153 = .ok (.iload_n 2, 1) := by decide +kernel
theorem dX6_points_154 : decode cX6_points 154 = .ok (.iload_n 3, 1) := by decide +kernel
theorem dX6_points_155 : decode cX6_points 155 = .ok (.iload 4, 2) := by decide +kernel
theorem dX6_points_157 : decode cX6_points 157 = .ok (.iload 5, 2) := by decide +kernel
theorem dX6_points_159 : decode cX6_points 159 = .ok (.invokevirtual 160, 3) := by decide +kernel
theorem dX6_points_162 : decode cX6_points 162 = .ok (.iinc 5 1, 3) := by decide +kernel
theorem dX6_points_165 : decode cX6_points 165 = .ok (.goto (-34), 3) := by decide +kernel
theorem dX6_points_168 : decode cX6_points 168 = .ok (.iinc 4 1, 3) := by decide +kernel
theorem dX6_points_171 : decode cX6_points 171 = .ok (.goto (-52), 3) := by decide +kernel
theorem dX6_points_174 : decode cX6_points 174 = .ok (.iinc 3 1, 3) := by decide +kernel
theorem dX6_points_177 : decode cX6_points 177 = .ok (.goto (-69), 3) := by decide +kernel
theorem dX6_points_180 : decode cX6_points 180 = .ok (.iinc 2 1, 3) := by decide +kernel
theorem dX6_points_183 : decode cX6_points 183 = .ok (.goto (-85), 3) := by decide +kernel
theorem dX6_points_186 : decode cX6_points 186 = .ok (.aload_n 0, 1) := by decide +kernel
theorem dX6_points_187 : decode cX6_points 187 = .ok (.getfield 104, 3) := by decide +kernel
theorem dX6_points_190 : decode cX6_points 190 = .ok (.ireturn, 1) := by decide +kernel
theorem dX6_point_0 : decode cX6_point 0 = .ok (.aload_n 0, 1) := by decide +kernel
theorem dX6_point_1 : decode cX6_point 1 = .ok (.invokevirtual 68, 3) := by decide +kernel
theorem dX6_point_4 : decode cX6_point 4 = .ok (.iload_n 1, 1) := by decide +kernel
theorem dX6_point_5 : decode cX6_point 5 = .ok (.ifCond .lt 40, 3) := by decide +kernel
theorem dX6_point_8 : decode cX6_point 8 = .ok (.iload_n 1, 1) := by decide +kernel
theorem dX6_point_9 : decode cX6_point 9 = .ok (.aload_n 0, 1) := by decide +kernel
theorem dX6_point_10 : decode cX6_point 10 = .ok (.getfield 104, 3) := by decide +kernel
theorem dX6_point_13 : decode cX6_point 13 = .ok (.if_icmp .ge 32, 3) := by decide +kernel
theorem dX6_point_16 : decode cX6_point 16 = .ok (.iload_n 1, 1) := by decide +kernel
theorem dX6_point_17 : decode cX6_point 17 = .ok (.sipush 200, 3) := by decide +kernel
theorem dX6_point_20 : decode cX6_point 20 = .ok (.if_icmp .ge 25, 3) := by decide +kernel
theorem dX6_point_23 : decode cX6_point 23 = .ok (.iload_n 2, 1) := by decide +kernel
theorem dX6_point_24 : decode cX6_point 24 = .ok (.ifCond .lt 21, 3) := by decide +kernel
theorem dX6_point_27 : decode cX6_point 27 = .ok (.iload_n 2, 1) := by decide +kernel
theorem dX6_point_28 : decode cX6_point 28 = .ok (.iconst 4, 1) := by decide +kernel
theorem dX6_point_29 : decode cX6_point 29 = .ok (.if_icmp .ge 16, 3) := by decide +kernel
theorem dX6_point_32 : decode cX6_point 32 = .ok (.aload_n 0, 1) := by decide +kernel
theorem dX6_point_33 : decode cX6_point 33 = .ok (.getfield 43, 3) := by decide +kernel
theorem dX6_point_36 : decode cX6_point 36 = .ok (.iconst 4, 1) := by decide +kernel
theorem dX6_point_37 : decode cX6_point 37 = .ok (.iload_n 1, 1) := by decide +kernel
theorem dX6_point_38 : decode cX6_point 38 = .ok (.imul, 1) := by decide +kernel
theorem dX6_point_39 : decode cX6_point 39 = .ok (.iload_n 2, 1) := by decide +kernel
theorem dX6_point_40 : decode cX6_point 40 = .ok (.iadd, 1) := by decide +kernel
theorem dX6_point_41 : decode cX6_point 41 = .ok (.iaload, 1) := by decide +kernel
theorem dX6_point_42 : decode cX6_point 42 = .ok (.goto 4, 3) := by decide +kernel
theorem dX6_point_45 : decode cX6_point 45 = .ok (.iconst (-1), 1) := by decide +kernel
theorem dX6_point_46 : decode cX6_point 46 = .ok (.ireturn, 1) := by decide +kernel
theorem dX6_table_0 : decode cX6_table 0 = .ok (.aload_n 0, 1) := by decide +kernel
theorem dX6_table_1 : decode cX6_table 1 = .ok (.invokevirtual 68, 3) := by decide +kernel
theorem dX6_table_4 : decode cX6_table 4 = .ok (.iload_n 1, 1) := by decide +kernel
theorem dX6_table_5 : decode cX6_table 5 = .ok (.iconst 1, 1) := by decide +kernel
theorem dX6_table_6 : decode cX6_table 6 = .ok (.if_icmp .ne 42, 3) := by decide +kernel
theorem dX6_table_9 : decode cX6_table 9 = .ok (.iload_n 2, 1) := by decide +kernel
theorem dX6_table_10 : decode cX6_table 10 = .ok (.iconst 3, 1) := by decide +kernel
theorem dX6_table_11 : decode cX6_table 11 = .ok (.if_icmp .eq 33, 3) := by decide +kernel
theorem dX6_table_14 : decode cX6_table 14 = .ok (.iload_n 2, 1) := by decide +kernel
theorem dX6_table_15 : decode cX6_table 15 = .ok (.bipush 7, 2) := by decide +kernel
theorem dX6_table_17 : decode cX6_table 17 = .ok (.if_icmp .eq 27, 3) := by decide +kernel
theorem dX6_table_20 : decode cX6_table 20 = .ok (.iload_n 2, 1) := by decide +kernel
theorem dX6_table_21 : decode cX6_table 21 = .ok (.bipush 11, 2) := by decide +kernel
theorem dX6_table_23 : decode cX6_table 23 = .ok (.if_icmp .eq 21, 3) := by decide +kernel
theorem dX6_table_26 : decode cX6_table 26 = .ok (.iload_n 2, 1) := by decide +kernel
theorem dX6_table_27 : decode cX6_table 27 = .ok (.bipush 19, 2) := by decide +kernel
theorem dX6_table_29 : decode cX6_table 29 = .ok (.if_icmp .eq 15, 3) := by decide +kernel
theorem dX6_table_32 : decode cX6_table 32 = .ok (.iload_n 2, 1) := by decide +kernel
theorem dX6_table_33 : decode cX6_table 33 = .ok (.bipush 23, 2) := by decide +kernel
theorem dX6_table_35 : decode cX6_table 35 = .ok (.if_icmp .eq 9, 3) := by decide +kernel
theorem dX6_table_38 : decode cX6_table 38 = .ok (.iload_n 2, 1) := by decide +kernel
theorem dX6_table_39 : decode cX6_table 39 = .ok (.bipush 31, 2) := by decide +kernel
theorem dX6_table_41 : decode cX6_table 41 = .ok (.if_icmp .ne 7, 3) := by decide +kernel
theorem dX6_table_44 : decode cX6_table 44 = .ok (.iconst 1, 1) := by decide +kernel
theorem dX6_table_45 : decode cX6_table 45 = .ok (.goto 4, 3) := by decide +kernel
theorem dX6_table_48 : decode cX6_table 48 = .ok (.iconst 0, 1) := by decide +kernel
theorem dX6_table_49 : decode cX6_table 49 = .ok (.istore_n 3, 1) := by decide +kernel
theorem dX6_table_50 : decode cX6_table 50 = .ok (.iload_n 3, 1) := by decide +kernel
theorem dX6_table_51 : decode cX6_table 51 = .ok (.ifCond .ne 22, 3) := by decide +kernel
theorem dX6_table_54 : decode cX6_table 54 = .ok (.iload_n 1, 1) := by decide +kernel
theorem dX6_table_55 : decode cX6_table 55 = .ok (.ifCond .ne 12, 3) := by decide +kernel
theorem dX6_table_58 : decode cX6_table 58 = .ok (.iload_n 2, 1) := by decide +kernel
theorem dX6_table_59 : decode cX6_table 59 = .ok (.ifCond .lt 8, 3) := by decide +kernel
theorem dX6_table_62 : decode cX6_table 62 = .ok (.iload_n 2, 1) := by decide +kernel
theorem dX6_table_63 : decode cX6_table 63 = .ok (.iconst 5, 1) := by decide +kernel
theorem dX6_table_64 : decode cX6_table 64 = .ok (.if_icmp .le 9, 3) := by decide +kernel
theorem dX6_table_67 : decode cX6_table 67 = .ok (.aload_n 0, 1) := by decide +kernel
theorem dX6_table_68 : decode cX6_table 68 = .ok (.iconst 1, 1) := by decide +kernel
theorem dX6_table_69 : decode cX6_table 69 = .ok (.invokevirtual 79, 3) := by decide +kernel
theorem dX6_table_72 : decode cX6_table 72 = .ok (.ireturn, 1) := by decide +kernel
theorem dX6_table_73 : decode cX6_table 73 = .ok (.aload_n 0, 1) := by decide +kernel
theorem dX6_table_74 : decode cX6_table 74 = .ok (.iload_n 1, 1) := by decide +kernel
theorem dX6_table_75 : decode cX6_table 75 = .ok (.ifCond .ne 9, 3) := by decide +kernel
theorem dX6_table_78 : decode cX6_table 78 = .ok (.iconst 1, 1) := by decide +kernel
theorem dX6_table_79 : decode cX6_table 79 = .ok (.iload_n 2, 1) := by decide +kernel
theorem dX6_table_80 : decode cX6_table 80 = .ok (.ishl, 1) := by decide +kernel
theorem dX6_table_81 : decode cX6_table 81 = .ok (.goto 6, 3) := by decide +kernel
theorem dX6_table_84 : decode cX6_table 84 = .ok (.iload_n 2, 1) := by decide +kernel
theorem dX6_table_85 : decode cX6_table 85 = .ok (.iconst 1, 1) := by decide +kernel
theorem dX6_table_86 : decode cX6_table 86 = .ok (.iadd, 1) := by decide +kernel
theorem dX6_table_87 : decode cX6_table 87 = .ok (.putfield 37, 3) := by decide +kernel
theorem dX6_table_90 : decode cX6_table 90 = .ok (.iconst 0, 1) := by decide +kernel
theorem dX6_table_91 : decode cX6_table 91 = .ok (.istore 4, 2) := by decide +kernel
theorem dX6_table_93 : decode cX6_table 93 = .ok (.iload 4, 2) := by decide +kernel
theorem dX6_table_95 : decode cX6_table 95 = .ok (.aload_n 0, 1) := by decide +kernel
theorem dX6_table_96 : decode cX6_table 96 = .ok (.getfield 37, 3) := by decide +kernel
theorem dX6_table_99 : decode cX6_table 99 = .ok (.if_icmp .ge 111, 3) := by decide +kernel
theorem dX6_table_102 : decode cX6_table 102 = .ok (.iconst 0, 1) := by decide +kernel
theorem dX6_table_103 : decode cX6_table 103 = .ok (.istore 5, 2) := by decide +kernel
theorem dX6_table_105 : decode cX6_table 105 = .ok (.iload 5, 2) := by decide +kernel
theorem dX6_table_107 : decode cX6_table 107 = .ok (.aload_n 0, 1) := by decide +kernel
theorem dX6_table_108 : decode cX6_table 108 = .ok (.getfield 37, 3) := by decide +kernel
theorem dX6_table_111 : decode cX6_table 111 = .ok (.if_icmp .ge 93, 3) := by decide +kernel
theorem dX6_table_114 : decode cX6_table 114 = .ok (.iload_n 1, 1) := by decide +kernel
theorem dX6_table_115 : decode cX6_table 115 = .ok (.ifCond .ne 24, 3) := by decide +kernel
theorem dX6_table_118 : decode cX6_table 118 = .ok (.iload 4, 2) := by decide +kernel
theorem dX6_table_120 : decode cX6_table 120 = .ok (.iload 5, 2) := by decide +kernel
theorem dX6_table_122 : decode cX6_table 122 = .ok (.iand, 1) := by decide +kernel
theorem dX6_table_123 : decode cX6_table 123 = .ok (.invokestatic 124, 3) := by decide +kernel
theorem dX6_table_126 : decode cX6_table 126 = .ok (.iconst 2, 1) := by decide +kernel
theorem dX6_table_127 : decode cX6_table 127 = .ok (.irem, 1) := by decide +kernel
theorem dX6_table_128 : decode cX6_table 128 = .ok (.ifCond .ne 7, 3) := by decide +kernel
theorem dX6_table_131 : decode cX6_table 131 = .ok (.iconst 1, 1) := by decide +kernel
theorem dX6_table_132 : decode cX6_table 132 = .ok (.goto 41, 3) := by decide +kernel
theorem dX6_table_135 : decode cX6_table 135 = .ok (.iconst 0, 1) := by decide +kernel
theorem dX6_table_136 : decode cX6_table 136 = .ok (.goto 37, 3) := by decide +kernel
theorem dX6_table_139 : decode cX6_table 139 = .ok (.iload 4, 2) := by decide +kernel
theorem dX6_table_141 : decode cX6_table 141 = .ok (.ifCond .eq 27, 3) := by decide +kernel
theorem dX6_table_144 : decode cX6_table 144 = .ok (.iload 5, 2) := by decide +kernel
theorem dX6_table_146 : decode cX6_table 146 = .ok (.ifCond .eq 22, 3) := by decide +kernel
theorem dX6_table_149 : decode cX6_table 149 = .ok (.iload 4, 2) := by decide +kernel
theorem dX6_table_151 : decode cX6_table 151 = .ok (.iload 5, 2) := by decide +kernel
theorem dX6_table_153 : decode cX6_table 153 = .ok (.if_icmp .eq 19, 3) := by decide +kernel
theorem dX6_table_156 : decode cX6_table 156 = .ok (.iload 5, 2) := by decide +kernel
theorem dX6_table_158 : decode cX6_table 158 = .ok (.iload 4, 2) := by decide +kernel
theorem dX6_table_160 : decode cX6_table 160 = .ok (.isub, 1) := by decide +kernel
theorem dX6_table_161 : decode cX6_table 161 = .ok (.iload_n 2, 1) := by decide +kernel
theorem dX6_table_162 : decode cX6_table 162 = .ok (.invokestatic 117, 3) := by decide +kernel
theorem dX6_table_165 : decode cX6_table 165 = .ok (.ifCond .eq 7, 3) := by decide +kernel
theorem dX6_table_168 : decode cX6_table 168 = .ok (.iconst 1, 1) := by decide +kernel
theorem dX6_table_169 : decode cX6_table 169 = .ok (.goto 4, 3) := by decide +kernel
theorem dX6_table_172 : decode cX6_table 172 = .ok (.iconst 0, 1) := by decide +kernel
theorem dX6_table_173 : decode cX6_table 173 = .ok (.istore 6, 2) := by decide +kernel
theorem dX6_table_175 : decode cX6_table 175 = .ok (.aload_n 0, 1) := by decide +kernel
theorem dX6_table_176 : decode cX6_table 176 = .ok (.getfield 40, 3) := by decide +kernel
theorem dX6_table_179 : decode cX6_table 179 = .ok (.bipush 32, 2) := by decide +kernel
theorem dX6_table_181 : decode cX6_table 181 = .ok (.iload 4, 2) := by decide +kernel
theorem dX6_table_183 : decode cX6_table 183 = .ok (.imul, 1) := by decide +kernel
theorem dX6_table_184 : decode cX6_table 184 = .ok (.iload 5, 2) := by decide +kernel
theorem dX6_table_186 : decode cX6_table 186 = .ok (.iadd, 1) := by decide +kernel
theorem dX6_table_187 : decode cX6_table 187 = .ok (.iload 6, 2) := by decide +kernel
theorem dX6_table_189 : decode cX6_table 189 = .ok (.ifCond .eq 7, 3) := by decide +kernel
theorem dX6_table_192 : decode cX6_table 192 = .ok (.iconst 1, 1) := by decide +kernel
theorem dX6_table_193 : decode cX6_table 193 = .ok (.goto 4, 3) := by decide +kernel
theorem dX6_table_196 : decode cX6_table 196 = .ok (.iconst (-1), 1) := by decide +kernel
theorem dX6_table_197 : decode cX6_table 197 = .ok (.iastore, 1) := by decide +kernel
theorem dX6_table_198 : decode cX6_table 198 = .ok (.iinc 5 1, 3) := by decide +kernel
theorem dX6_table_201 : decode cX6_table 201 = .ok (.goto (-96), 3) := by decide +kernel
theorem dX6_table_204 : decode cX6_table 204 = .ok (.iinc 4 1, 3) := by decide +kernel
theorem dX6_table_207 : decode cX6_table 207 = .ok (.goto (-114), 3) := by decide +kernel
theorem dX6_table_210 : decode cX6_table 210 = .ok (.aload_n 0, 1) := by decide +kernel
theorem dX6_table_211 : decode cX6_table 211 = .ok (.getfield 37, 3) := by decide +kernel
theorem dX6_table_214 : decode cX6_table 214 = .ok (.ireturn, 1) := by decide +kernel
theorem dX6_twice_0 : decode cX6_twice 0 = .ok (.aload_n 0, 1) := by decide +kernel
theorem dX6_twice_1 : decode cX6_twice 1 = .ok (.invokevirtual 68, 3) := by decide +kernel
theorem dX6_twice_4 : decode cX6_twice 4 = .ok (.aload_n 0, 1) := by decide +kernel
theorem dX6_twice_5 : decode cX6_twice 5 = .ok (.getfield 37, 3) := by decide +kernel
theorem dX6_twice_8 : decode cX6_twice 8 = .ok (.iconst (-1), 1) := by decide +kernel
theorem dX6_twice_9 : decode cX6_twice 9 = .ok (.if_icmp .ne 9, 3) := by decide +kernel
theorem dX6_twice_12 : decode cX6_twice 12 = .ok (.aload_n 0, 1) := by decide +kernel
theorem dX6_twice_13 : decode cX6_twice 13 = .ok (.iconst 2, 1) := by decide +kernel
theorem dX6_twice_14 : decode cX6_twice 14 = .ok (.invokevirtual 79, 3) := by decide +kernel
theorem dX6_twice_17 : decode cX6_twice 17 = .ok (.ireturn, 1) := by decide +kernel
theorem dX6_twice_18 : decode cX6_twice 18 = .ok (.iconst 2, 1) := by decide +kernel
theorem dX6_twice_19 : decode cX6_twice 19 = .ok (.aload_n 0, 1) := by decide +kernel
theorem dX6_twice_20 : decode cX6_twice 20 = .ok (.getfield 37, 3) := by decide +kernel
theorem dX6_twice_23 : decode cX6_twice 23 = .ok (.imul, 1) := by decide +kernel
theorem dX6_twice_24 : decode cX6_twice 24 = .ok (.bipush 32, 2) := by decide +kernel
theorem dX6_twice_26 : decode cX6_twice 26 = .ok (.if_icmp .le 9, 3) := by decide +kernel
theorem dX6_twice_29 : decode cX6_twice 29 = .ok (.aload_n 0, 1) := by decide +kernel
theorem dX6_twice_30 : decode cX6_twice 30 = .ok (.iconst 3, 1) := by decide +kernel
theorem dX6_twice_31 : decode cX6_twice 31 = .ok (.invokevirtual 79, 3) := by decide +kernel
theorem dX6_twice_34 : decode cX6_twice 34 = .ok (.ireturn, 1) := by decide +kernel
theorem dX6_twice_35 : decode cX6_twice 35 = .ok (.aload_n 0, 1) := by decide +kernel
theorem dX6_twice_36 : decode cX6_twice 36 = .ok (.getfield 37, 3) := by decide +kernel
theorem dX6_twice_39 : decode cX6_twice 39 = .ok (.istore_n 1, 1) := by decide +kernel
theorem dX6_twice_40 : decode cX6_twice 40 = .ok (.iconst 0, 1) := by decide +kernel
theorem dX6_twice_41 : decode cX6_twice 41 = .ok (.istore_n 2, 1) := by decide +kernel
theorem dX6_twice_42 : decode cX6_twice 42 = .ok (.iload_n 2, 1) := by decide +kernel
theorem dX6_twice_43 : decode cX6_twice 43 = .ok (.iload_n 1, 1) := by decide +kernel
theorem dX6_twice_44 : decode cX6_twice 44 = .ok (.if_icmp .ge 83, 3) := by decide +kernel
theorem dX6_twice_47 : decode cX6_twice 47 = .ok (.iconst 0, 1) := by decide +kernel
theorem dX6_twice_48 : decode cX6_twice 48 = .ok (.istore_n 3, 1) := by decide +kernel
theorem dX6_twice_49 : decode cX6_twice 49 = .ok (.iload_n 3, 1) := by decide +kernel
theorem dX6_twice_50 : decode cX6_twice 50 = .ok (.iload_n 1, 1) := by decide +kernel
theorem dX6_twice_51 : decode cX6_twice 51 = .ok (.if_icmp .ge 70, 3) := by decide +kernel
theorem dX6_twice_54 : decode cX6_twice 54 = .ok (.aload_n 0, 1) := by decide +kernel
theorem dX6_twice_55 : decode cX6_twice 55 = .ok (.getfield 40, 3) := by decide +kernel
theorem dX6_twice_58 : decode cX6_twice 58 = .ok (.bipush 32, 2) := by decide +kernel
theorem dX6_twice_60 : decode cX6_twice 60 = .ok (.iload_n 2, 1) := by decide +kernel
theorem dX6_twice_61 : decode cX6_twice 61 = .ok (.imul, 1) := by decide +kernel
theorem dX6_twice_62 : decode cX6_twice 62 = .ok (.iload_n 3, 1) := by decide +kernel
theorem dX6_twice_63 : decode cX6_twice 63 = .ok (.iadd, 1) := by decide +kernel
theorem dX6_twice_64 : decode cX6_twice 64 = .ok (.iaload, 1) := by decide +kernel
theorem dX6_twice_65 : decode cX6_twice 65 = .ok (.istore 4, 2) := by decide +kernel
theorem dX6_twice_67 : decode cX6_twice 67 = .ok (.aload_n 0, 1) := by decide +kernel
theorem dX6_twice_68 : decode cX6_twice 68 = .ok (.getfield 40, 3) := by decide +kernel
theorem dX6_twice_71 : decode cX6_twice 71 = .ok (.bipush 32, 2) := by decide +kernel
theorem dX6_twice_73 : decode cX6_twice 73 = .ok (.iload_n 2, 1) := by decide +kernel
theorem dX6_twice_74 : decode cX6_twice 74 = .ok (.imul, 1) := by decide +kernel
theorem dX6_twice_75 : decode cX6_twice 75 = .ok (.iload_n 3, 1) := by decide +kernel
theorem dX6_twice_76 : decode cX6_twice 76 = .ok (.iadd, 1) := by decide +kernel
theorem dX6_twice_77 : decode cX6_twice 77 = .ok (.iload_n 1, 1) := by decide +kernel
theorem dX6_twice_78 : decode cX6_twice 78 = .ok (.iadd, 1) := by decide +kernel
theorem dX6_twice_79 : decode cX6_twice 79 = .ok (.iload 4, 2) := by decide +kernel
theorem dX6_twice_81 : decode cX6_twice 81 = .ok (.iastore, 1) := by decide +kernel
theorem dX6_twice_82 : decode cX6_twice 82 = .ok (.aload_n 0, 1) := by decide +kernel
theorem dX6_twice_83 : decode cX6_twice 83 = .ok (.getfield 40, 3) := by decide +kernel
theorem dX6_twice_86 : decode cX6_twice 86 = .ok (.bipush 32, 2) := by decide +kernel
theorem dX6_twice_88 : decode cX6_twice 88 = .ok (.iload_n 2, 1) := by decide +kernel
theorem dX6_twice_89 : decode cX6_twice 89 = .ok (.iload_n 1, 1) := by decide +kernel
theorem dX6_twice_90 : decode cX6_twice 90 = .ok (.iadd, 1) := by decide +kernel
theorem dX6_twice_91 : decode cX6_twice 91 = .ok (.imul, 1) := by decide +kernel
theorem dX6_twice_92 : decode cX6_twice 92 = .ok (.iload_n 3, 1) := by decide +kernel
theorem dX6_twice_93 : decode cX6_twice 93 = .ok (.iadd, 1) := by decide +kernel
theorem dX6_twice_94 : decode cX6_twice 94 = .ok (.iload 4, 2) := by decide +kernel
theorem dX6_twice_96 : decode cX6_twice 96 = .ok (.iastore, 1) := by decide +kernel
theorem dX6_twice_97 : decode cX6_twice 97 = .ok (.aload_n 0, 1) := by decide +kernel
theorem dX6_twice_98 : decode cX6_twice 98 = .ok (.getfield 40, 3) := by decide +kernel
theorem dX6_twice_101 : decode cX6_twice 101 = .ok (.bipush 32, 2) := by decide +kernel
theorem dX6_twice_103 : decode cX6_twice 103 = .ok (.iload_n 2, 1) := by decide +kernel
theorem dX6_twice_104 : decode cX6_twice 104 = .ok (.iload_n 1, 1) := by decide +kernel
theorem dX6_twice_105 : decode cX6_twice 105 = .ok (.iadd, 1) := by decide +kernel
theorem dX6_twice_106 : decode cX6_twice 106 = .ok (.imul, 1) := by decide +kernel
theorem dX6_twice_107 : decode cX6_twice 107 = .ok (.iload_n 3, 1) := by decide +kernel
theorem dX6_twice_108 : decode cX6_twice 108 = .ok (.iadd, 1) := by decide +kernel
theorem dX6_twice_109 : decode cX6_twice 109 = .ok (.iload_n 1, 1) := by decide +kernel
theorem dX6_twice_110 : decode cX6_twice 110 = .ok (.iadd, 1) := by decide +kernel
theorem dX6_twice_111 : decode cX6_twice 111 = .ok (.iload 4, 2) := by decide +kernel
theorem dX6_twice_113 : decode cX6_twice 113 = .ok (.ineg, 1) := by decide +kernel
theorem dX6_twice_114 : decode cX6_twice 114 = .ok (.iastore, 1) := by decide +kernel
theorem dX6_twice_115 : decode cX6_twice 115 = .ok (.iinc 3 1, 3) := by decide +kernel
theorem dX6_twice_118 : decode cX6_twice 118 = .ok (.goto (-69), 3) := by decide +kernel
theorem dX6_twice_121 : decode cX6_twice 121 = .ok (.iinc 2 1, 3) := by decide +kernel
theorem dX6_twice_124 : decode cX6_twice 124 = .ok (.goto (-82), 3) := by decide +kernel
theorem dX6_twice_127 : decode cX6_twice 127 = .ok (.aload_n 0, 1) := by decide +kernel
theorem dX6_twice_128 : decode cX6_twice 128 = .ok (.iconst 2, 1) := by decide +kernel
theorem dX6_twice_129 : decode cX6_twice 129 = .ok (.iload_n 1, 1) := by decide +kernel
theorem dX6_twice_130 : decode cX6_twice 130 = .ok (.imul, 1) := by decide +kernel
theorem dX6_twice_131 : decode cX6_twice 131 = .ok (.putfield 37, 3) := by decide +kernel
theorem dX6_twice_134 : decode cX6_twice 134 = .ok (.aload_n 0, 1) := by decide +kernel
theorem dX6_twice_135 : decode cX6_twice 135 = .ok (.getfield 37, 3) := by decide +kernel
theorem dX6_twice_138 : decode cX6_twice 138 = .ok (.ireturn, 1) := by decide +kernel
theorem dX6_isRow_0 : decode cX6_isRow 0 = .ok (.iload_n 1, 1) := by decide +kernel
theorem dX6_isRow_1 : decode cX6_isRow 1 = .ok (.ifCond .lt 15, 3) := by decide +kernel
theorem dX6_isRow_4 : decode cX6_isRow 4 = .ok (.iload_n 1, 1) := by decide +kernel
theorem dX6_isRow_5 : decode cX6_isRow 5 = .ok (.aload_n 0, 1) := by decide +kernel
theorem dX6_isRow_6 : decode cX6_isRow 6 = .ok (.getfield 37, 3) := by decide +kernel
theorem dX6_isRow_9 : decode cX6_isRow 9 = .ok (.if_icmp .ge 7, 3) := by decide +kernel
theorem dX6_isRow_12 : decode cX6_isRow 12 = .ok (.iconst 1, 1) := by decide +kernel
theorem dX6_isRow_13 : decode cX6_isRow 13 = .ok (.goto 4, 3) := by decide +kernel
theorem dX6_isRow_16 : decode cX6_isRow 16 = .ok (.iconst 0, 1) := by decide +kernel
theorem dX6_isRow_17 : decode cX6_isRow 17 = .ok (.ireturn, 1) := by decide +kernel
theorem dX6_swap_0 : decode cX6_swap 0 = .ok (.aload_n 0, 1) := by decide +kernel
theorem dX6_swap_1 : decode cX6_swap 1 = .ok (.invokevirtual 68, 3) := by decide +kernel
theorem dX6_swap_4 : decode cX6_swap 4 = .ok (.aload_n 0, 1) := by decide +kernel
theorem dX6_swap_5 : decode cX6_swap 5 = .ok (.getfield 37, 3) := by decide +kernel
theorem dX6_swap_8 : decode cX6_swap 8 = .ok (.iconst (-1), 1) := by decide +kernel
theorem dX6_swap_9 : decode cX6_swap 9 = .ok (.if_icmp .ne 9, 3) := by decide +kernel
theorem dX6_swap_12 : decode cX6_swap 12 = .ok (.aload_n 0, 1) := by decide +kernel
theorem dX6_swap_13 : decode cX6_swap 13 = .ok (.iconst 2, 1) := by decide +kernel
theorem dX6_swap_14 : decode cX6_swap 14 = .ok (.invokevirtual 71, 3) := by decide +kernel
theorem dX6_swap_17 : decode cX6_swap 17 = .ok (.ireturn, 1) := by decide +kernel
theorem dX6_swap_18 : decode cX6_swap 18 = .ok (.aload_n 0, 1) := by decide +kernel
theorem dX6_swap_19 : decode cX6_swap 19 = .ok (.iload_n 1, 1) := by decide +kernel
theorem dX6_swap_20 : decode cX6_swap 20 = .ok (.invokevirtual 164, 3) := by decide +kernel
theorem dX6_swap_23 : decode cX6_swap 23 = .ok (.ifCond .eq 11, 3) := by decide +kernel
theorem dX6_swap_26 : decode cX6_swap 26 = .ok (.aload_n 0, 1) := by decide +kernel
theorem dX6_swap_27 : decode cX6_swap 27 = .ok (.iload_n 2, 1) := by decide +kernel
theorem dX6_swap_28 : decode cX6_swap 28 = .ok (.invokevirtual 164, 3) := by decide +kernel
theorem dX6_swap_31 : decode cX6_swap 31 = .ok (.ifCond .ne 9, 3) := by decide +kernel
theorem dX6_swap_34 : decode cX6_swap 34 = .ok (.aload_n 0, 1) := by decide +kernel
theorem dX6_swap_35 : decode cX6_swap 35 = .ok (.iconst 1, 1) := by decide +kernel
theorem dX6_swap_36 : decode cX6_swap 36 = .ok (.invokevirtual 71, 3) := by decide +kernel
theorem dX6_swap_39 : decode cX6_swap 39 = .ok (.ireturn, 1) := by decide +kernel
theorem dX6_swap_40 : decode cX6_swap 40 = .ok (.iconst 0, 1) := by decide +kernel
theorem dX6_swap_41 : decode cX6_swap 41 = .ok (.istore_n 3, 1) := by decide +kernel
theorem dX6_swap_42 : decode cX6_swap 42 = .ok (.iload_n 3, 1) := by decide +kernel
theorem dX6_swap_43 : decode cX6_swap 43 = .ok (.aload_n 0, 1) := by decide +kernel
theorem dX6_swap_44 : decode cX6_swap 44 = .ok (.getfield 37, 3) := by decide +kernel
theorem dX6_swap_47 : decode cX6_swap 47 = .ok (.if_icmp .ge 73, 3) := by decide +kernel
theorem dX6_swap_50 : decode cX6_swap 50 = .ok (.aload_n 0, 1) := by decide +kernel
theorem dX6_swap_51 : decode cX6_swap 51 = .ok (.getfield 40, 3) := by decide +kernel
theorem dX6_swap_54 : decode cX6_swap 54 = .ok (.bipush 32, 2) := by decide +kernel
theorem dX6_swap_56 : decode cX6_swap 56 = .ok (.iload_n 1, 1) := by decide +kernel
theorem dX6_swap_57 : decode cX6_swap 57 = .ok (.imul, 1) := by decide +kernel
theorem dX6_swap_58 : decode cX6_swap 58 = .ok (.iload_n 3, 1) := by decide +kernel
theorem dX6_swap_59 : decode cX6_swap 59 = .ok (.iadd, 1) := by decide +kernel
theorem dX6_swap_60 : decode cX6_swap 60 = .ok (.iaload, 1) := by decide +kernel
theorem dX6_swap_61 : decode cX6_swap 61 = .ok (.istore 4, 2) := by decide +kernel
theorem dX6_swap_63 : decode cX6_swap 63 = .ok (.aload_n 0, 1) := by decide +kernel
theorem dX6_swap_64 : decode cX6_swap 64 = .ok (.getfield 40, 3) := by decide +kernel
theorem dX6_swap_67 : decode cX6_swap 67 = .ok (.bipush 32, 2) := by decide +kernel
theorem dX6_swap_69 : decode cX6_swap 69 = .ok (.iload_n 1, 1) := by decide +kernel
theorem dX6_swap_70 : decode cX6_swap 70 = .ok (.imul, 1) := by decide +kernel
theorem dX6_swap_71 : decode cX6_swap 71 = .ok (.iload_n 3, 1) := by decide +kernel
theorem dX6_swap_72 : decode cX6_swap 72 = .ok (.iadd, 1) := by decide +kernel
theorem dX6_swap_73 : decode cX6_swap 73 = .ok (.iload_n 1, 1) := by decide +kernel
theorem dX6_swap_74 : decode cX6_swap 74 = .ok (.iload_n 2, 1) := by decide +kernel
theorem dX6_swap_75 : decode cX6_swap 75 = .ok (.if_icmp .ne 9, 3) := by decide +kernel
theorem dX6_swap_78 : decode cX6_swap 78 = .ok (.iload 4, 2) := by decide +kernel
theorem dX6_swap_80 : decode cX6_swap 80 = .ok (.ineg, 1) := by decide +kernel
theorem dX6_swap_81 : decode cX6_swap 81 = .ok (.goto 14, 3) := by decide +kernel
theorem dX6_swap_84 : decode cX6_swap 84 = .ok (.aload_n 0, 1) := by decide +kernel
theorem dX6_swap_85 : decode cX6_swap 85 = .ok (.getfield 40, 3) := by decide +kernel
theorem dX6_swap_88 : decode cX6_swap 88 = .ok (.bipush 32, 2) := by decide +kernel
theorem dX6_swap_90 : decode cX6_swap 90 = .ok (.iload_n 2, 1) := by decide +kernel
theorem dX6_swap_91 : decode cX6_swap 91 = .ok (.imul, 1) := by decide +kernel
theorem dX6_swap_92 : decode cX6_swap 92 = .ok (.iload_n 3, 1) := by decide +kernel
theorem dX6_swap_93 : decode cX6_swap 93 = .ok (.iadd, 1) := by decide +kernel
theorem dX6_swap_94 : decode cX6_swap 94 = .ok (.iaload, 1) := by decide +kernel
theorem dX6_swap_95 : decode cX6_swap 95 = .ok (.iastore, 1) := by decide +kernel
theorem dX6_swap_96 : decode cX6_swap 96 = .ok (.iload_n 1, 1) := by decide +kernel
theorem dX6_swap_97 : decode cX6_swap 97 = .ok (.iload_n 2, 1) := by decide +kernel
theorem dX6_swap_98 : decode cX6_swap 98 = .ok (.if_icmp .eq 16, 3) := by decide +kernel
theorem dX6_swap_101 : decode cX6_swap 101 = .ok (.aload_n 0, 1) := by decide +kernel
theorem dX6_swap_102 : decode cX6_swap 102 = .ok (.getfield 40, 3) := by decide +kernel
theorem dX6_swap_105 : decode cX6_swap 105 = .ok (.bipush 32, 2) := by decide +kernel
theorem dX6_swap_107 : decode cX6_swap 107 = .ok (.iload_n 2, 1) := by decide +kernel
theorem dX6_swap_108 : decode cX6_swap 108 = .ok (.imul, 1) := by decide +kernel
theorem dX6_swap_109 : decode cX6_swap 109 = .ok (.iload_n 3, 1) := by decide +kernel
theorem dX6_swap_110 : decode cX6_swap 110 = .ok (.iadd, 1) := by decide +kernel
theorem dX6_swap_111 : decode cX6_swap 111 = .ok (.iload 4, 2) := by decide +kernel
theorem dX6_swap_113 : decode cX6_swap 113 = .ok (.iastore, 1) := by decide +kernel
theorem dX6_swap_114 : decode cX6_swap 114 = .ok (.iinc 3 1, 3) := by decide +kernel
theorem dX6_swap_117 : decode cX6_swap 117 = .ok (.goto (-75), 3) := by decide +kernel
theorem dX6_swap_120 : decode cX6_swap 120 = .ok (.iconst 1, 1) := by decide +kernel
theorem dX6_swap_121 : decode cX6_swap 121 = .ok (.ireturn, 1) := by decide +kernel
theorem dX6_sign_0 : decode cX6_sign 0 = .ok (.aload_n 0, 1) := by decide +kernel
theorem dX6_sign_1 : decode cX6_sign 1 = .ok (.invokevirtual 68, 3) := by decide +kernel
theorem dX6_sign_4 : decode cX6_sign 4 = .ok (.aload_n 0, 1) := by decide +kernel
theorem dX6_sign_5 : decode cX6_sign 5 = .ok (.iload_n 1, 1) := by decide +kernel
theorem dX6_sign_6 : decode cX6_sign 6 = .ok (.invokevirtual 164, 3) := by decide +kernel
theorem dX6_sign_9 : decode cX6_sign 9 = .ok (.ifCond .eq 25, 3) := by decide +kernel
theorem dX6_sign_12 : decode cX6_sign 12 = .ok (.aload_n 0, 1) := by decide +kernel
theorem dX6_sign_13 : decode cX6_sign 13 = .ok (.iload_n 2, 1) := by decide +kernel
theorem dX6_sign_14 : decode cX6_sign 14 = .ok (.invokevirtual 164, 3) := by decide +kernel
theorem dX6_sign_17 : decode cX6_sign 17 = .ok (.ifCond .eq 17, 3) := by decide +kernel
theorem dX6_sign_20 : decode cX6_sign 20 = .ok (.aload_n 0, 1) := by decide +kernel
theorem dX6_sign_21 : decode cX6_sign 21 = .ok (.getfield 40, 3) := by decide +kernel
theorem dX6_sign_24 : decode cX6_sign 24 = .ok (.bipush 32, 2) := by decide +kernel
theorem dX6_sign_26 : decode cX6_sign 26 = .ok (.iload_n 1, 1) := by decide +kernel
theorem dX6_sign_27 : decode cX6_sign 27 = .ok (.imul, 1) := by decide +kernel
theorem dX6_sign_28 : decode cX6_sign 28 = .ok (.iload_n 2, 1) := by decide +kernel
theorem dX6_sign_29 : decode cX6_sign 29 = .ok (.iadd, 1) := by decide +kernel
theorem dX6_sign_30 : decode cX6_sign 30 = .ok (.iaload, 1) := by decide +kernel
theorem dX6_sign_31 : decode cX6_sign 31 = .ok (.goto 4, 3) := by decide +kernel
theorem dX6_sign_34 : decode cX6_sign 34 = .ok (.iconst 0, 1) := by decide +kernel
theorem dX6_sign_35 : decode cX6_sign 35 = .ok (.ireturn, 1) := by decide +kernel
theorem dX6_product_0 : decode cX6_product 0 = .ok (.aload_n 0, 1) := by decide +kernel
theorem dX6_product_1 : decode cX6_product 1 = .ok (.invokevirtual 68, 3) := by decide +kernel
theorem dX6_product_4 : decode cX6_product 4 = .ok (.aload_n 0, 1) := by decide +kernel
theorem dX6_product_5 : decode cX6_product 5 = .ok (.getfield 37, 3) := by decide +kernel
theorem dX6_product_8 : decode cX6_product 8 = .ok (.iconst (-1), 1) := by decide +kernel
theorem dX6_product_9 : decode cX6_product 9 = .ok (.if_icmp .eq 19, 3) := by decide +kernel
theorem dX6_product_12 : decode cX6_product 12 = .ok (.aload_n 0, 1) := by decide +kernel
theorem dX6_product_13 : decode cX6_product 13 = .ok (.iload_n 1, 1) := by decide +kernel
theorem dX6_product_14 : decode cX6_product 14 = .ok (.invokevirtual 164, 3) := by decide +kernel
theorem dX6_product_17 : decode cX6_product 17 = .ok (.ifCond .eq 11, 3) := by decide +kernel
theorem dX6_product_20 : decode cX6_product 20 = .ok (.aload_n 0, 1) := by decide +kernel
theorem dX6_product_21 : decode cX6_product 21 = .ok (.iload_n 2, 1) := by decide +kernel
theorem dX6_product_22 : decode cX6_product 22 = .ok (.invokevirtual 164, 3) := by decide +kernel
theorem dX6_product_25 : decode cX6_product 25 = .ok (.ifCond .ne 23, 3) := by decide +kernel
theorem dX6_product_28 : decode cX6_product 28 = .ok (.aload_n 0, 1) := by decide +kernel
theorem dX6_product_29 : decode cX6_product 29 = .ok (.aload_n 0, 1) := by decide +kernel
theorem dX6_product_30 : decode cX6_product 30 = .ok (.getfield 37, 3) := by decide +kernel
theorem dX6_product_33 : decode cX6_product 33 = .ok (.iconst (-1), 1) := by decide +kernel
theorem dX6_product_34 : decode cX6_product 34 = .ok (.if_icmp .ne 7, 3) := by decide +kernel
theorem dX6_product_37 : decode cX6_product 37 = .ok (.iconst 2, 1) := by decide +kernel
theorem dX6_product_38 : decode cX6_product 38 = .ok (.goto 4, 3) := by decide +kernel
theorem dX6_product_41 : decode cX6_product 41 = .ok (.iconst 1, 1) := by decide +kernel
theorem dX6_product_42 : decode cX6_product 42 = .ok (.invokevirtual 79, 3) := by decide +kernel
theorem dX6_product_45 : decode cX6_product 45 = .ok (.pop, 1) := by decide +kernel
theorem dX6_product_46 : decode cX6_product 46 = .ok (.iconst 0, 1) := by decide +kernel
theorem dX6_product_47 : decode cX6_product 47 = .ok (.ireturn, 1) := by decide +kernel
theorem dX6_product_48 : decode cX6_product 48 = .ok (.iconst 0, 1) := by decide +kernel
theorem dX6_product_49 : decode cX6_product 49 = .ok (.istore_n 3, 1) := by decide +kernel
theorem dX6_product_50 : decode cX6_product 50 = .ok (.iconst 0, 1) := by decide +kernel
theorem dX6_product_51 : decode cX6_product 51 = .ok (.istore 4, 2) := by decide +kernel
theorem dX6_product_53 : decode cX6_product 53 = .ok (.iload 4, 2) := by decide +kernel
theorem dX6_product_55 : decode cX6_product 55 = .ok (.aload_n 0, 1) := by decide +kernel
theorem dX6_product_56 : decode cX6_product 56 = .ok (.getfield 37, 3) := by decide +kernel
theorem dX6_product_59 : decode cX6_product 59 = .ok (.if_icmp .ge 37, 3) := by decide +kernel
theorem dX6_product_62 : decode cX6_product 62 = .ok (.iload_n 3, 1) := by decide +kernel
theorem dX6_product_63 : decode cX6_product 63 = .ok (.aload_n 0, 1) := by decide +kernel
theorem dX6_product_64 : decode cX6_product 64 = .ok (.getfield 40, 3) := by decide +kernel
theorem dX6_product_67 : decode cX6_product 67 = .ok (.bipush 32, 2) := by decide +kernel
theorem dX6_product_69 : decode cX6_product 69 = .ok (.iload_n 1, 1) := by decide +kernel
theorem dX6_product_70 : decode cX6_product 70 = .ok (.imul, 1) := by decide +kernel
theorem dX6_product_71 : decode cX6_product 71 = .ok (.iload 4, 2) := by decide +kernel
theorem dX6_product_73 : decode cX6_product 73 = .ok (.iadd, 1) := by decide +kernel
theorem dX6_product_74 : decode cX6_product 74 = .ok (.iaload, 1) := by decide +kernel
theorem dX6_product_75 : decode cX6_product 75 = .ok (.aload_n 0, 1) := by decide +kernel
theorem dX6_product_76 : decode cX6_product 76 = .ok (.getfield 40, 3) := by decide +kernel
theorem dX6_product_79 : decode cX6_product 79 = .ok (.bipush 32, 2) := by decide +kernel
theorem dX6_product_81 : decode cX6_product 81 = .ok (.iload_n 2, 1) := by decide +kernel
theorem dX6_product_82 : decode cX6_product 82 = .ok (.imul, 1) := by decide +kernel
theorem dX6_product_83 : decode cX6_product 83 = .ok (.iload 4, 2) := by decide +kernel
theorem dX6_product_85 : decode cX6_product 85 = .ok (.iadd, 1) := by decide +kernel
theorem dX6_product_86 : decode cX6_product 86 = .ok (.iaload, 1) := by decide +kernel
theorem dX6_product_87 : decode cX6_product 87 = .ok (.imul, 1) := by decide +kernel
theorem dX6_product_88 : decode cX6_product 88 = .ok (.iadd, 1) := by decide +kernel
theorem dX6_product_89 : decode cX6_product 89 = .ok (.istore_n 3, 1) := by decide +kernel
theorem dX6_product_90 : decode cX6_product 90 = .ok (.iinc 4 1, 3) := by decide +kernel
theorem dX6_product_93 : decode cX6_product 93 = .ok (.goto (-40), 3) := by decide +kernel
theorem dX6_product_96 : decode cX6_product 96 = .ok (.iload_n 3, 1) := by decide +kernel
theorem dX6_product_97 : decode cX6_product 97 = .ok (.ireturn, 1) := by decide +kernel
theorem dX6_look_0 : decode cX6_look 0 = .ok (.aload_n 0, 1) := by decide +kernel
theorem dX6_look_1 : decode cX6_look 1 = .ok (.invokevirtual 68, 3) := by decide +kernel
theorem dX6_look_4 : decode cX6_look 4 = .ok (.aload_n 0, 1) := by decide +kernel
theorem dX6_look_5 : decode cX6_look 5 = .ok (.getfield 37, 3) := by decide +kernel
theorem dX6_look_8 : decode cX6_look 8 = .ok (.iconst (-1), 1) := by decide +kernel
theorem dX6_look_9 : decode cX6_look 9 = .ok (.if_icmp .eq 11, 3) := by decide +kernel
theorem dX6_look_12 : decode cX6_look 12 = .ok (.aload_n 0, 1) := by decide +kernel
theorem dX6_look_13 : decode cX6_look 13 = .ok (.iload_n 1, 1) := by decide +kernel
theorem dX6_look_14 : decode cX6_look 14 = .ok (.invokevirtual 164, 3) := by decide +kernel
theorem dX6_look_17 : decode cX6_look 17 = .ok (.ifCond .ne 23, 3) := by decide +kernel
theorem dX6_look_20 : decode cX6_look 20 = .ok (.aload_n 0, 1) := by decide +kernel
theorem dX6_look_21 : decode cX6_look 21 = .ok (.aload_n 0, 1) := by decide +kernel
theorem dX6_look_22 : decode cX6_look 22 = .ok (.getfield 37, 3) := by decide +kernel
theorem dX6_look_25 : decode cX6_look 25 = .ok (.iconst (-1), 1) := by decide +kernel
theorem dX6_look_26 : decode cX6_look 26 = .ok (.if_icmp .ne 7, 3) := by decide +kernel
theorem dX6_look_29 : decode cX6_look 29 = .ok (.iconst 2, 1) := by decide +kernel
theorem dX6_look_30 : decode cX6_look 30 = .ok (.goto 4, 3) := by decide +kernel
theorem dX6_look_33 : decode cX6_look 33 = .ok (.iconst 1, 1) := by decide +kernel
theorem dX6_look_34 : decode cX6_look 34 = .ok (.invokevirtual 79, 3) := by decide +kernel
theorem dX6_look_37 : decode cX6_look 37 = .ok (.pop, 1) := by decide +kernel
theorem dX6_look_38 : decode cX6_look 38 = .ok (.iconst 0, 1) := by decide +kernel
theorem dX6_look_39 : decode cX6_look 39 = .ok (.ireturn, 1) := by decide +kernel
theorem dX6_look_40 : decode cX6_look 40 = .ok (.iconst 0, 1) := by decide +kernel
theorem dX6_look_41 : decode cX6_look 41 = .ok (.istore_n 2, 1) := by decide +kernel
theorem dX6_look_42 : decode cX6_look 42 = .ok (.iconst 0, 1) := by decide +kernel
theorem dX6_look_43 : decode cX6_look 43 = .ok (.istore_n 3, 1) := by decide +kernel
theorem dX6_look_44 : decode cX6_look 44 = .ok (.iload_n 3, 1) := by decide +kernel
theorem dX6_look_45 : decode cX6_look 45 = .ok (.aload_n 0, 1) := by decide +kernel
theorem dX6_look_46 : decode cX6_look 46 = .ok (.getfield 37, 3) := by decide +kernel
theorem dX6_look_49 : decode cX6_look 49 = .ok (.if_icmp .ge 38, 3) := by decide +kernel
theorem dX6_look_52 : decode cX6_look 52 = .ok (.iload_n 3, 1) := by decide +kernel
theorem dX6_look_53 : decode cX6_look 53 = .ok (.aload_n 0, 1) := by decide +kernel
theorem dX6_look_54 : decode cX6_look 54 = .ok (.getfield 7, 3) := by decide +kernel
theorem dX6_look_57 : decode cX6_look 57 = .ok (.if_icmp .ge 30, 3) := by decide +kernel
theorem dX6_look_60 : decode cX6_look 60 = .ok (.iload_n 2, 1) := by decide +kernel
theorem dX6_look_61 : decode cX6_look 61 = .ok (.aload_n 0, 1) := by decide +kernel
theorem dX6_look_62 : decode cX6_look 62 = .ok (.getfield 40, 3) := by decide +kernel
theorem dX6_look_65 : decode cX6_look 65 = .ok (.bipush 32, 2) := by decide +kernel
theorem dX6_look_67 : decode cX6_look 67 = .ok (.iload_n 1, 1) := by decide +kernel
theorem dX6_look_68 : decode cX6_look 68 = .ok (.imul, 1) := by decide +kernel
theorem dX6_look_69 : decode cX6_look 69 = .ok (.iload_n 3, 1) := by decide +kernel
theorem dX6_look_70 : decode cX6_look 70 = .ok (.iadd, 1) := by decide +kernel
theorem dX6_look_71 : decode cX6_look 71 = .ok (.iaload, 1) := by decide +kernel
theorem dX6_look_72 : decode cX6_look 72 = .ok (.aload_n 0, 1) := by decide +kernel
theorem dX6_look_73 : decode cX6_look 73 = .ok (.getfield 17, 3) := by decide +kernel
theorem dX6_look_76 : decode cX6_look 76 = .ok (.iload_n 3, 1) := by decide +kernel
theorem dX6_look_77 : decode cX6_look 77 = .ok (.iaload, 1) := by decide +kernel
theorem dX6_look_78 : decode cX6_look 78 = .ok (.imul, 1) := by decide +kernel
theorem dX6_look_79 : decode cX6_look 79 = .ok (.iadd, 1) := by decide +kernel
theorem dX6_look_80 : decode cX6_look 80 = .ok (.istore_n 2, 1) := by decide +kernel
theorem dX6_look_81 : decode cX6_look 81 = .ok (.iinc 3 1, 3) := by decide +kernel
theorem dX6_look_84 : decode cX6_look 84 = .ok (.goto (-40), 3) := by decide +kernel
theorem dX6_look_87 : decode cX6_look 87 = .ok (.iload_n 2, 1) := by decide +kernel
theorem dX6_look_88 : decode cX6_look 88 = .ok (.ireturn, 1) := by decide +kernel
theorem dX6_fault_0 : decode cX6_fault 0 = .ok (.aload_n 0, 1) := by decide +kernel
theorem dX6_fault_1 : decode cX6_fault 1 = .ok (.getfield 61, 3) := by decide +kernel
theorem dX6_fault_4 : decode cX6_fault 4 = .ok (.ireturn, 1) := by decide +kernel
