theorem dX2_init_0 : decode cX2_init 0 = .ok (.aload_n 0, 1) := by decide +kernel
theorem dX2_init_1 : decode cX2_init 1 = .ok (.invokespecial 3, 3) := by decide +kernel
theorem dX2_init_4 : decode cX2_init 4 = .ok (.aload_n 0, 1) := by decide +kernel
theorem dX2_init_5 : decode cX2_init 5 = .ok (.sipush 300, 3) := by decide +kernel
theorem dX2_init_8 : decode cX2_init 8 = .ok (.newarray .int, 2) := by decide +kernel
theorem dX2_init_10 : decode cX2_init 10 = .ok (.putfield 11, 3) := by decide +kernel
theorem dX2_init_13 : decode cX2_init 13 = .ok (.aload_n 0, 1) := by decide +kernel
theorem dX2_init_14 : decode cX2_init 14 = .ok (.sipush 300, 3) := by decide +kernel
theorem dX2_init_17 : decode cX2_init 17 = .ok (.newarray .int, 2) := by decide +kernel
theorem dX2_init_19 : decode cX2_init 19 = .ok (.putfield 15, 3) := by decide +kernel
theorem dX2_init_22 : decode cX2_init 22 = .ok (.aload_n 0, 1) := by decide +kernel
theorem dX2_init_23 : decode cX2_init 23 = .ok (.sipush 800, 3) := by decide +kernel
theorem dX2_init_26 : decode cX2_init 26 = .ok (.newarray .int, 2) := by decide +kernel
theorem dX2_init_28 : decode cX2_init 28 = .ok (.putfield 18, 3) := by decide +kernel
theorem dX2_init_31 : decode cX2_init 31 = .ok (.aload_n 0, 1) := by decide +kernel
theorem dX2_init_32 : decode cX2_init 32 = .ok (.iconst 0, 1) := by decide +kernel
theorem dX2_init_33 : decode cX2_init 33 = .ok (.putfield 21, 3) := by decide +kernel
theorem dX2_init_36 : decode cX2_init 36 = .ok (.return_, 1) := by decide +kernel
theorem dX2_search_0 : decode cX2_search 0 = .ok (.aload_n 0, 1) := by decide +kernel
theorem dX2_search_1 : decode cX2_search 1 = .ok (.iconst 0, 1) := by decide +kernel
theorem dX2_search_2 : decode cX2_search 2 = .ok (.putfield 21, 3) := by decide +kernel
theorem dX2_search_5 : decode cX2_search 5 = .ok (.aload_n 0, 1) := by decide +kernel
theorem dX2_search_6 : decode cX2_search 6 = .ok (.aload_n 1, 1) := by decide +kernel
theorem dX2_search_7 : decode cX2_search 7 = .ok (.iconst (-1), 1) := by decide +kernel
theorem dX2_search_8 : decode cX2_search 8 = .ok (.iconst (-1), 1) := by decide +kernel
theorem dX2_search_9 : decode cX2_search 9 = .ok (.iload_n 2, 1) := by decide +kernel
theorem dX2_search_10 : decode cX2_search 10 = .ok (.invokevirtual 25, 3) := by decide +kernel
theorem dX2_search_13 : decode cX2_search 13 = .ok (.aload_n 0, 1) := by decide +kernel
theorem dX2_search_14 : decode cX2_search 14 = .ok (.iconst 0, 1) := by decide +kernel
theorem dX2_search_15 : decode cX2_search 15 = .ok (.iconst 0, 1) := by decide +kernel
theorem dX2_search_16 : decode cX2_search 16 = .ok (.invokevirtual 29, 3) := by decide +kernel
theorem dX2_search_19 : decode cX2_search 19 = .ok (.ifCond .eq 11, 3) := by decide +kernel
theorem dX2_search_22 : decode cX2_search 22 = .ok (.aload_n 0, 1) := by decide +kernel
theorem dX2_search_23 : decode cX2_search 23 = .ok (.iconst (-1), 1) := by decide +kernel
theorem dX2_search_24 : decode cX2_search 24 = .ok (.iconst 0, 1) := by decide +kernel
theorem dX2_search_25 : decode cX2_search 25 = .ok (.iconst (-1), 1) := by decide +kernel
theorem dX2_search_26 : decode cX2_search 26 = .ok (.iconst 0, 1) := by decide +kernel
theorem dX2_search_27 : decode cX2_search 27 = .ok (.invokevirtual 33, 3) := by decide +kernel
theorem dX2_search_30 : decode cX2_search 30 = .ok (.iconst 0, 1) := by decide +kernel
theorem dX2_search_31 : decode cX2_search 31 = .ok (.istore_n 3, 1) := by decide +kernel
theorem dX2_search_32 : decode cX2_search 32 = .ok (.iload_n 3, 1) := by decide +kernel
theorem dX2_search_33 : decode cX2_search 33 = .ok (.aload_n 1, 1) := by decide +kernel
theorem dX2_search_34 : decode cX2_search 34 = .ok (.getfield 37, 3) := by decide +kernel
theorem dX2_search_37 : decode cX2_search 37 = .ok (.if_icmp .ge 61, 3) := by decide +kernel
theorem dX2_search_40 : decode cX2_search 40 = .ok (.aload_n 0, 1) := by decide +kernel
theorem dX2_search_41 : decode cX2_search 41 = .ok (.aload_n 1, 1) := by decide +kernel
theorem dX2_search_42 : decode cX2_search 42 = .ok (.iload_n 3, 1) := by decide +kernel
theorem dX2_search_43 : decode cX2_search 43 = .ok (.iconst (-1), 1) := by decide +kernel
theorem dX2_search_44 : decode cX2_search 44 = .ok (.iload_n 2, 1) := by decide +kernel
theorem dX2_search_45 : decode cX2_search 45 = .ok (.invokevirtual 25, 3) := by decide +kernel
theorem dX2_search_48 : decode cX2_search 48 = .ok (.iconst 1, 1) := by decide +kernel
theorem dX2_search_49 : decode cX2_search 49 = .ok (.istore 4, 2) := by decide +kernel
theorem dX2_search_51 : decode cX2_search 51 = .ok (.iload 4, 2) := by decide +kernel
theorem dX2_search_53 : decode cX2_search 53 = .ok (.bipush 9, 2) := by decide +kernel
theorem dX2_search_55 : decode cX2_search 55 = .ok (.if_icmp .gt 37, 3) := by decide +kernel
theorem dX2_search_58 : decode cX2_search 58 = .ok (.aload_n 0, 1) := by decide +kernel
theorem dX2_search_59 : decode cX2_search 59 = .ok (.iconst 0, 1) := by decide +kernel
theorem dX2_search_60 : decode cX2_search 60 = .ok (.iconst 0, 1) := by decide +kernel
theorem dX2_search_61 : decode cX2_search 61 = .ok (.invokevirtual 29, 3) := by decide +kernel
theorem dX2_search_64 : decode cX2_search 64 = .ok (.ifCond .eq 22, 3) := by decide +kernel
theorem dX2_search_67 : decode cX2_search 67 = .ok (.aload_n 0, 1) := by decide +kernel
theorem dX2_search_68 : decode cX2_search 68 = .ok (.iconst 3, 1) := by decide +kernel
theorem dX2_search_69 : decode cX2_search 69 = .ok (.iload 4, 2) := by decide +kernel
theorem dX2_search_71 : decode cX2_search 71 = .ok (.invokevirtual 29, 3) := by decide +kernel
theorem dX2_search_74 : decode cX2_search 74 = .ok (.ifCond .eq 12, 3) := by decide +kernel
theorem dX2_search_77 : decode cX2_search 77 = .ok (.aload_n 0, 1) := by decide +kernel
theorem dX2_search_78 : decode cX2_search 78 = .ok (.iload_n 3, 1) := by decide +kernel
theorem dX2_search_79 : decode cX2_search 79 = .ok (.iload 4, 2) := by decide +kernel
theorem dX2_search_81 : decode cX2_search 81 = .ok (.iconst (-1), 1) := by decide +kernel
theorem dX2_search_82 : decode cX2_search 82 = .ok (.iconst 0, 1) := by decide +kernel
theorem dX2_search_83 : decode cX2_search 83 = .ok (.invokevirtual 33, 3) := by decide +kernel
theorem dX2_search_86 : decode cX2_search 86 = .ok (.iinc 4 1, 3) := by decide +kernel
theorem dX2_search_89 : decode cX2_search 89 = .ok (.goto (-38), 3) := by decide +kernel
theorem dX2_search_92 : decode cX2_search 92 = .ok (.iinc 3 1, 3) := by decide +kernel
theorem dX2_search_95 : decode cX2_search 95 = .ok (.goto (-63), 3) := by decide +kernel
theorem dX2_search_98 : decode cX2_search 98 = .ok (.iconst 0, 1) := by decide +kernel
theorem dX2_search_99 : decode cX2_search 99 = .ok (.istore_n 3, 1) := by decide +kernel
theorem dX2_search_100 : decode cX2_search 100 = .ok (.iload_n 3, 1) := by decide +kernel
theorem dX2_search_101 : decode cX2_search 101 = .ok (.aload_n 1, 1) := by decide +kernel
theorem dX2_search_102 : decode cX2_search 102 = .ok (.getfield 37, 3) := by decide +kernel
theorem dX2_search_105 : decode cX2_search 105 = .ok (.if_icmp .ge 16, 3) := by decide +kernel
theorem dX2_search_108 : decode cX2_search 108 = .ok (.aload_n 0, 1) := by decide +kernel
theorem dX2_search_109 : decode cX2_search 109 = .ok (.aload_n 1, 1) := by decide +kernel
theorem dX2_search_110 : decode cX2_search 110 = .ok (.iload_n 3, 1) := by decide +kernel
theorem dX2_search_111 : decode cX2_search 111 = .ok (.iload_n 2, 1) := by decide +kernel
theorem dX2_search_112 : decode cX2_search 112 = .ok (.invokevirtual 42, 3) := by decide +kernel
theorem dX2_search_115 : decode cX2_search 115 = .ok (.iinc 3 1, 3) := by decide +kernel
theorem dX2_search_118 : decode cX2_search 118 = .ok (.goto (-18), 3) := by decide +kernel
theorem dX2_search_121 : decode cX2_search 121 = .ok (.return_, 1) := by decide +kernel
theorem dX2_searchPairs_0 : decode cX2_searchPairs 0 = .ok (.iload_n 2, 1) := by decide +kernel
theorem dX2_searchPairs_1 : decode cX2_searchPairs 1 = .ok (.iconst 1, 1) := by decide +kernel
theorem dX2_searchPairs_2 : decode cX2_searchPairs 2 = .ok (.iadd, 1) := by decide +kernel
theorem dX2_searchPairs_3 : decode cX2_searchPairs 3 = .ok (.istore 4, 2) := by decide +kernel
theorem dX2_searchPairs_5 : decode cX2_searchPairs 5 = .ok (.iload 4, 2) := by decide +kernel
theorem dX2_searchPairs_7 : decode cX2_searchPairs 7 = .ok (.aload_n 1, 1) := by decide +kernel
theorem dX2_searchPairs_8 : decode cX2_searchPairs 8 = .ok (.getfield 37, 3) := by decide +kernel
theorem dX2_searchPairs_11 : decode cX2_searchPairs 11 = .ok (.if_icmp .ge 18, 3) := by decide +kernel
theorem dX2_searchPairs_14 : decode cX2_searchPairs 14 = .ok (.aload_n 0, 1) := by decide +kernel
theorem dX2_searchPairs_15 : decode cX2_searchPairs 15 = .ok (.aload_n 1, 1) := by decide +kernel
theorem dX2_searchPairs_16 : decode cX2_searchPairs 16 = .ok (.iload_n 2, 1) := by decide +kernel
theorem dX2_searchPairs_17 : decode cX2_searchPairs 17 = .ok (.iload 4, 2) := by decide +kernel
theorem dX2_searchPairs_19 : decode cX2_searchPairs 19 = .ok (.iload_n 3, 1) := by decide +kernel
theorem dX2_searchPairs_20 : decode cX2_searchPairs 20 = .ok (.invokevirtual 25, 3) := by decide +kernel
theorem dX2_searchPairs_23 : decode cX2_searchPairs 23 = .ok (.iinc 4 1, 3) := by decide +kernel
theorem dX2_searchPairs_26 : decode cX2_searchPairs 26 = .ok (.goto (-21), 3) := by decide +kernel
theorem dX2_searchPairs_29 : decode cX2_searchPairs 29 = .ok (.iconst 1, 1) := by decide +kernel
theorem dX2_searchPairs_30 : decode cX2_searchPairs 30 = .ok (.istore 4, 2) := by decide +kernel
theorem dX2_searchPairs_32 : decode cX2_searchPairs 32 = .ok (.iload 4, 2) := by decide +kernel
theorem dX2_searchPairs_34 : decode cX2_searchPairs 34 = .ok (.bipush 9, 2) := by decide +kernel
theorem dX2_searchPairs_36 : decode cX2_searchPairs 36 = .ok (.if_icmp .gt 38, 3) := by decide +kernel
theorem dX2_searchPairs_39 : decode cX2_searchPairs 39 = .ok (.iload_n 2, 1) := by decide +kernel
theorem dX2_searchPairs_40 : decode cX2_searchPairs 40 = .ok (.iconst 1, 1) := by decide +kernel
theorem dX2_searchPairs_41 : decode cX2_searchPairs 41 = .ok (.iadd, 1) := by decide +kernel
theorem dX2_searchPairs_42 : decode cX2_searchPairs 42 = .ok (.istore 5, 2) := by decide +kernel
theorem dX2_searchPairs_44 : decode cX2_searchPairs 44 = .ok (.iload 5, 2) := by decide +kernel
theorem dX2_searchPairs_46 : decode cX2_searchPairs 46 = .ok (.aload_n 1, 1) := by decide +kernel
theorem dX2_searchPairs_47 : decode cX2_searchPairs 47 = .ok (.getfield 37, 3) := by decide +kernel
theorem dX2_searchPairs_50 : decode cX2_searchPairs 50 = .ok (.if_icmp .ge 18, 3) := by decide +kernel
theorem dX2_searchPairs_53 : decode cX2_searchPairs 53 = .ok (.aload_n 0, 1) := by decide +kernel
theorem dX2_searchPairs_54 : decode cX2_searchPairs 54 = .ok (.iload_n 2, 1) := by decide +kernel
theorem dX2_searchPairs_55 : decode cX2_searchPairs 55 = .ok (.iload 4, 2) := by decide +kernel
theorem dX2_searchPairs_57 : decode cX2_searchPairs 57 = .ok (.iload 5, 2) := by decide +kernel
theorem dX2_searchPairs_59 : decode cX2_searchPairs 59 = .ok (.invokevirtual 46, 3) := by decide +kernel
theorem dX2_searchPairs_62 : decode cX2_searchPairs 62 = .ok (.iinc 5 1, 3) := by decide +kernel
theorem dX2_searchPairs_65 : decode cX2_searchPairs 65 = .ok (.goto (-21), 3) := by decide +kernel
theorem dX2_searchPairs_68 : decode cX2_searchPairs 68 = .ok (.iinc 4 1, 3) := by decide +kernel
theorem dX2_searchPairs_71 : decode cX2_searchPairs 71 = .ok (.goto (-39), 3) := by decide +kernel
theorem dX2_searchPairs_74 : decode cX2_searchPairs 74 = .ok (.return_, 1) := by decide +kernel
theorem dX2_openWindows_0 : decode cX2_openWindows 0 = .ok (.iload_n 3, 1) := by decide +kernel
theorem dX2_openWindows_1 : decode cX2_openWindows 1 = .ok (.iconst (-1), 1) := by decide +kernel
theorem dX2_openWindows_2 : decode cX2_openWindows 2 = .ok (.if_icmp .ne 7, 3) := by decide +kernel
theorem dX2_openWindows_5 : decode cX2_openWindows 5 = .ok (.iconst 0, 1) := by decide +kernel
theorem dX2_openWindows_6 : decode cX2_openWindows 6 = .ok (.goto 6, 3) := by decide +kernel
theorem dX2_openWindows_9 : decode cX2_openWindows 9 = .ok (.iload_n 3, 1) := by decide +kernel
theorem dX2_openWindows_10 : decode cX2_openWindows 10 = .ok (.iconst 5, 1) := by decide +kernel
theorem dX2_openWindows_11 : decode cX2_openWindows 11 = .ok (.imul, 1) := by decide +kernel
theorem dX2_openWindows_12 : decode cX2_openWindows 12 = .ok (.istore 5, 2) := by decide +kernel
theorem dX2_openWindows_14 : decode cX2_openWindows 14 = .ok (.iload 5, 2) := by decide +kernel
theorem dX2_openWindows_16 : decode cX2_openWindows 16 = .ok (.istore 6, 2) := by decide +kernel
theorem dX2_openWindows_18 : decode cX2_openWindows 18 = .ok (.iload 6, 2) := by decide +kernel
theorem dX2_openWindows_20 : decode cX2_openWindows 20 = .ok (.iload 5, 2) := by decide +kernel
theorem dX2_openWindows_22 : decode cX2_openWindows 22 = .ok (.iconst 5, 1) := by decide +kernel
theorem dX2_openWindows_23 : decode cX2_openWindows 23 = .ok (.iadd, 1) := by decide +kernel
theorem dX2_openWindows_24 : decode cX2_openWindows 24 = .ok (.if_icmp .ge 27, 3) := by decide +kernel
theorem dX2_openWindows_27 : decode cX2_openWindows 27 = .ok (.aload_n 0, 1) := by decide +kernel
theorem dX2_openWindows_28 : decode cX2_openWindows 28 = .ok (.getfield 11, 3) := by decide +kernel
theorem dX2_openWindows_31 : decode cX2_openWindows 31 = .ok (.iload 6, 2) := by decide +kernel
theorem dX2_openWindows_33 : decode cX2_openWindows 33 = .ok (.ldc 50, 2) := by decide +kernel
theorem dX2_openWindows_35 : decode cX2_openWindows 35 = .ok (.iastore, 1) := by decide +kernel
theorem dX2_openWindows_36 : decode cX2_openWindows 36 = .ok (.aload_n 0, 1) := by decide +kernel
theorem dX2_openWindows_37 : decode cX2_openWindows 37 = .ok (.getfield 15, 3) := by decide +kernel
theorem dX2_openWindows_40 : decode cX2_openWindows 40 = .ok (.iload 6, 2) := by decide +kernel
theorem dX2_openWindows_42 : decode cX2_openWindows 42 = .ok (.ldc 51, 2) := by decide +kernel
theorem dX2_openWindows_44 : decode cX2_openWindows 44 = .ok (.iastore, 1) := by decide +kernel
theorem dX2_openWindows_45 : decode cX2_openWindows 45 = .ok (.iinc 6 1, 3) := by decide +kernel
theorem dX2_openWindows_48 : decode cX2_openWindows 48 = .ok (.goto (-30), 3) := by decide +kernel
theorem dX2_openWindows_51 : decode cX2_openWindows 51 = .ok (.iconst 0, 1) := by decide +kernel
theorem dX2_openWindows_52 : decode cX2_openWindows 52 = .ok (.istore 6, 2) := by decide +kernel
theorem dX2_openWindows_54 : decode cX2_openWindows 54 = .ok (.iload 6, 2) := by decide +kernel
theorem dX2_openWindows_56 : decode cX2_openWindows 56 = .ok (.aload_n 1, 1) := by decide +kernel
theorem dX2_openWindows_57 : decode cX2_openWindows 57 = .ok (.getfield 37, 3) := by decide +kernel
theorem dX2_openWindows_60 : decode cX2_openWindows 60 = .ok (.if_icmp .ge 158, 3) := by decide +kernel
theorem dX2_openWindows_63 : decode cX2_openWindows 63 = .ok (.aload_n 1, 1) := by decide +kernel
theorem dX2_openWindows_64 : decode cX2_openWindows 64 = .ok (.iconst 2, 1) := by decide +kernel
theorem dX2_openWindows_65 : decode cX2_openWindows 65 = .ok (.iload 6, 2) := by decide +kernel
theorem dX2_openWindows_67 : decode cX2_openWindows 67 = .ok (.invokevirtual 52, 3) := by decide +kernel
theorem dX2_openWindows_70 : decode cX2_openWindows 70 = .ok (.istore 7, 2) := by decide +kernel
theorem dX2_openWindows_72 : decode cX2_openWindows 72 = .ok (.iload 7, 2) := by decide +kernel
theorem dX2_openWindows_74 : decode cX2_openWindows 74 = .ok (.ldc 56, 2) := by decide +kernel
theorem dX2_openWindows_76 : decode cX2_openWindows 76 = .ok (.if_icmp .ne 6, 3) := by decide +kernel
theorem dX2_openWindows_79 : decode cX2_openWindows 79 = .ok (.goto 133, 3) := by decide +kernel
theorem dX2_openWindows_82 : decode cX2_openWindows 82 = .ok (.iload_n 2, 1) := by decide +kernel
theorem dX2_openWindows_83 : decode cX2_openWindows 83 = .ok (.iconst (-1), 1) := by decide +kernel
theorem dX2_openWindows_84 : decode cX2_openWindows 84 = .ok (.if_icmp .ne 7, 3) := by decide +kernel
theorem dX2_openWindows_87 : decode cX2_openWindows 87 = .ok (.iconst 0, 1) := by decide +kernel
theorem dX2_openWindows_88 : decode cX2_openWindows 88 = .ok (.goto 10, 3) := by decide +kernel
theorem dX2_openWindows_91 : decode cX2_openWindows 91 = .ok (.aload_n 1, 1) := by decide +kernel
theorem dX2_openWindows_92 : decode cX2_openWindows 92 = .ok (.iload_n 2, 1) := by decide +kernel
theorem dX2_openWindows_93 : decode cX2_openWindows 93 = .ok (.iload 6, 2) := by decide +kernel
theorem dX2_openWindows_95 : decode cX2_openWindows 95 = .ok (.invokevirtual 57, 3) := by decide +kernel
theorem dX2_openWindows_98 : decode cX2_openWindows 98 = .ok (.istore 8, 2) := by decide +kernel
theorem dX2_openWindows_100 : decode cX2_openWindows 100 = .ok (.iload_n 3, 1) := by decide +kernel
theorem dX2_openWindows_101 : decode cX2_openWindows 101 = .ok (.iconst (-1), 1) := by decide +kernel
theorem dX2_openWindows_102 : decode cX2_openWindows 102 = .ok (.if_icmp .ne 7, 3) := by decide +kernel
theorem dX2_openWindows_105 : decode cX2_openWindows 105 = .ok (.iconst 0, 1) := by decide +kernel
theorem dX2_openWindows_106 : decode cX2_openWindows 106 = .ok (.goto 10, 3) := by decide +kernel
theorem dX2_openWindows_109 : decode cX2_openWindows 109 = .ok (.aload_n 1, 1) := by decide +kernel
theorem dX2_openWindows_110 : decode cX2_openWindows 110 = .ok (.iload_n 3, 1) := by decide +kernel
theorem dX2_openWindows_111 : decode cX2_openWindows 111 = .ok (.iload 6, 2) := by decide +kernel
theorem dX2_openWindows_113 : decode cX2_openWindows 113 = .ok (.invokevirtual 57, 3) := by decide +kernel
theorem dX2_openWindows_116 : decode cX2_openWindows 116 = .ok (.istore 9, 2) := by decide +kernel
theorem dX2_openWindows_118 : decode cX2_openWindows 118 = .ok (.iconst 3, 1) := by decide +kernel
theorem dX2_openWindows_119 : decode cX2_openWindows 119 = .ok (.iload 8, 2) := by decide +kernel
theorem dX2_openWindows_121 : decode cX2_openWindows 121 = .ok (.imul, 1) := by decide +kernel
theorem dX2_openWindows_122 : decode cX2_openWindows 122 = .ok (.iload 9, 2) := by decide +kernel
theorem dX2_openWindows_124 : decode cX2_openWindows 124 = .ok (.iadd, 1) := by decide +kernel
theorem dX2_openWindows_125 : decode cX2_openWindows 125 = .ok (.istore 10, 2) := by decide +kernel
theorem dX2_openWindows_127 : decode cX2_openWindows 127 = .ok (.iload 10, 2) := by decide +kernel
theorem dX2_openWindows_129 : decode cX2_openWindows 129 = .ok (.ifCond .ge 9, 3) := by decide +kernel
theorem dX2_openWindows_132 : decode cX2_openWindows 132 = .ok (.iload 7, 2) := by decide +kernel
theorem dX2_openWindows_134 : decode cX2_openWindows 134 = .ok (.ineg, 1) := by decide +kernel
theorem dX2_openWindows_135 : decode cX2_openWindows 135 = .ok (.goto 5, 3) := by decide +kernel
theorem dX2_openWindows_138 : decode cX2_openWindows 138 = .ok (.iload 7, 2) := by decide +kernel
theorem dX2_openWindows_140 : decode cX2_openWindows 140 = .ok (.istore 11, 2) := by decide +kernel
theorem dX2_openWindows_142 : decode cX2_openWindows 142 = .ok (.iload 5, 2) := by decide +kernel
theorem dX2_openWindows_144 : decode cX2_openWindows 144 = .ok (.iload 10, 2) := by decide +kernel
theorem dX2_openWindows_146 : decode cX2_openWindows 146 = .ok (.invokestatic 60, 3) := by decide +kernel
theorem dX2_openWindows_149 : decode cX2_openWindows 149 = .ok (.iadd, 1) := by decide +kernel
theorem dX2_openWindows_150 : decode cX2_openWindows 150 = .ok (.istore 12, 2) := by decide +kernel
theorem dX2_openWindows_152 : decode cX2_openWindows 152 = .ok (.aload_n 0, 1) := by decide +kernel
theorem dX2_openWindows_153 : decode cX2_openWindows 153 = .ok (.getfield 11, 3) := by decide +kernel
theorem dX2_openWindows_156 : decode cX2_openWindows 156 = .ok (.iload 12, 2) := by decide +kernel
theorem dX2_openWindows_158 : decode cX2_openWindows 158 = .ok (.aload_n 0, 1) := by decide +kernel
theorem dX2_openWindows_159 : decode cX2_openWindows 159 = .ok (.getfield 11, 3) := by decide +kernel
theorem dX2_openWindows_162 : decode cX2_openWindows 162 = .ok (.iload 12, 2) := by decide +kernel
theorem dX2_openWindows_164 : decode cX2_openWindows 164 = .ok (.iaload, 1) := by decide +kernel
theorem dX2_openWindows_165 : decode cX2_openWindows 165 = .ok (.iload 11, 2) := by decide +kernel
theorem dX2_openWindows_167 : decode cX2_openWindows 167 = .ok (.iload 4, 2) := by decide +kernel
theorem dX2_openWindows_169 : decode cX2_openWindows 169 = .ok (.isub, 1) := by decide +kernel
theorem dX2_openWindows_170 : decode cX2_openWindows 170 = .ok (.invokestatic 66, 3) := by decide +kernel
theorem dX2_openWindows_173 : decode cX2_openWindows 173 = .ok (.iastore, 1) := by decide +kernel
theorem dX2_openWindows_174 : decode cX2_openWindows 174 = .ok (.aload_n 0, 1) := by decide +kernel
theorem dX2_openWindows_175 : decode cX2_openWindows 175 = .ok (.getfield 15, 3) := by decide +kernel
theorem dX2_openWindows_178 : decode cX2_openWindows 178 = .ok (.iload 12, 2) := by decide +kernel
theorem dX2_openWindows_180 : decode cX2_openWindows 180 = .ok (.aload_n 0, 1) := by decide +kernel
theorem dX2_openWindows_181 : decode cX2_openWindows 181 = .ok (.getfield 15, 3) := by decide +kernel
theorem dX2_openWindows_184 : decode cX2_openWindows 184 = .ok (.iload 12, 2) := by decide +kernel
theorem dX2_openWindows_186 : decode cX2_openWindows 186 = .ok (.iaload, 1) := by decide +kernel
theorem dX2_openWindows_187 : decode cX2_openWindows 187 = .ok (.iload 11, 2) := by decide +kernel
theorem dX2_openWindows_189 : decode cX2_openWindows 189 = .ok (.iload 4, 2) := by decide +kernel
theorem dX2_openWindows_191 : decode cX2_openWindows 191 = .ok (.iadd, 1) := by decide +kernel
theorem dX2_openWindows_192 : decode cX2_openWindows 192 = .ok (.invokestatic 69, 3) := by decide +kernel
theorem dX2_openWindows_195 : decode cX2_openWindows 195 = .ok (.iastore, 1) := by decide +kernel
theorem dX2_openWindows_196 : decode cX2_openWindows 196 = .ok (.iload 10, 2) := by decide +kernel
theorem dX2_openWindows_198 : decode cX2_openWindows 198 = .ok (.ifCond .ne 14, 3) := by decide +kernel
theorem dX2_openWindows_201 : decode cX2_openWindows 201 = .ok (.aload_n 0, 1) := by decide +kernel
theorem dX2_openWindows_202 : decode cX2_openWindows 202 = .ok (.iload 5, 2) := by decide +kernel
theorem dX2_openWindows_204 : decode cX2_openWindows 204 = .ok (.iconst 0, 1) := by decide +kernel
theorem dX2_openWindows_205 : decode cX2_openWindows 205 = .ok (.invokevirtual 29, 3) := by decide +kernel
theorem dX2_openWindows_208 : decode cX2_openWindows 208 = .ok (.ifCond .ne 4, 3) := by decide +kernel
theorem dX2_openWindows_211 : decode cX2_openWindows 211 = .ok (.return_, 1) := by decide +kernel
theorem dX2_openWindows_212 : decode cX2_openWindows 212 = .ok (.iinc 6 1, 3) := by decide +kernel
theorem dX2_openWindows_215 : decode cX2_openWindows 215 = .ok (.goto (-161), 3) := by decide +kernel
theorem dX2_openWindows_218 : decode cX2_openWindows 218 = .ok (.return_, 1) := by decide +kernel
theorem dX2_holds_0 : decode cX2_holds 0 = .ok (.aload_n 0, 1) := by decide +kernel
theorem dX2_holds_1 : decode cX2_holds 1 = .ok (.getfield 11, 3) := by decide +kernel
theorem dX2_holds_4 : decode cX2_holds 4 = .ok (.iload_n 1, 1) := by decide +kernel
theorem dX2_holds_5 : decode cX2_holds 5 = .ok (.iaload, 1) := by decide +kernel
theorem dX2_holds_6 : decode cX2_holds 6 = .ok (.iload_n 2, 1) := by decide +kernel
theorem dX2_holds_7 : decode cX2_holds 7 = .ok (.if_icmp .gt 17, 3) := by decide +kernel
theorem dX2_holds_10 : decode cX2_holds 10 = .ok (.iload_n 2, 1) := by decide +kernel
theorem dX2_holds_11 : decode cX2_holds 11 = .ok (.aload_n 0, 1) := by decide +kernel
theorem dX2_holds_12 : decode cX2_holds 12 = .ok (.getfield 15, 3) := by decide +kernel
theorem dX2_holds_15 : decode cX2_holds 15 = .ok (.iload_n 1, 1) := by decide +kernel
theorem dX2_holds_16 : decode cX2_holds 16 = .ok (.iaload, 1) := by decide +kernel
theorem dX2_holds_17 : decode cX2_holds 17 = .ok (.if_icmp .gt 7, 3) := by decide +kernel
theorem dX2_holds_20 : decode cX2_holds 20 = .ok (.iconst 1, 1) := by decide +kernel
theorem dX2_holds_21 : decode cX2_holds 21 = .ok (.goto 4, 3) := by decide +kernel
theorem dX2_holds_24 : decode cX2_holds 24 = .ok (.iconst 0, 1) := by decide +kernel
theorem dX2_holds_25 : decode cX2_holds 25 = .ok (.ireturn, 1) := by decide +kernel
theorem dX2_tellSeconds_0 : decode cX2_tellSeconds 0 = .ok (.iload_n 3, 1) := by decide +kernel
theorem dX2_tellSeconds_1 : decode cX2_tellSeconds 1 = .ok (.iconst 5, 1) := by decide +kernel
theorem dX2_tellSeconds_2 : decode cX2_tellSeconds 2 = .ok (.imul, 1) := by decide +kernel
theorem dX2_tellSeconds_3 : decode cX2_tellSeconds 3 = .ok (.istore 4, 2) := by decide +kernel
theorem dX2_tellSeconds_5 : decode cX2_tellSeconds 5 = .ok (.aload_n 0, 1) := by decide +kernel
theorem dX2_tellSeconds_6 : decode cX2_tellSeconds 6 = .ok (.iload 4, 2) := by decide +kernel
theorem dX2_tellSeconds_8 : decode cX2_tellSeconds 8 = .ok (.iconst 0, 1) := by decide +kernel
theorem dX2_tellSeconds_9 : decode cX2_tellSeconds 9 = .ok (.invokevirtual 29, 3) := by decide +kernel
theorem dX2_tellSeconds_12 : decode cX2_tellSeconds 12 = .ok (.ifCond .eq 15, 3) := by decide +kernel
theorem dX2_tellSeconds_15 : decode cX2_tellSeconds 15 = .ok (.aload_n 0, 1) := by decide +kernel
theorem dX2_tellSeconds_16 : decode cX2_tellSeconds 16 = .ok (.iload 4, 2) := by decide +kernel
theorem dX2_tellSeconds_18 : decode cX2_tellSeconds 18 = .ok (.iconst 3, 1) := by decide +kernel
theorem dX2_tellSeconds_19 : decode cX2_tellSeconds 19 = .ok (.iadd, 1) := by decide +kernel
theorem dX2_tellSeconds_20 : decode cX2_tellSeconds 20 = .ok (.iload_n 2, 1) := by decide +kernel
theorem dX2_tellSeconds_21 : decode cX2_tellSeconds 21 = .ok (.invokevirtual 29, 3) := by decide +kernel
theorem dX2_tellSeconds_24 : decode cX2_tellSeconds 24 = .ok (.ifCond .ne 4, 3) := by decide +kernel
theorem dX2_tellSeconds_27 : decode cX2_tellSeconds 27 = .ok (.return_, 1) := by decide +kernel
theorem dX2_tellSeconds_28 : decode cX2_tellSeconds 28 = .ok (.iconst 1, 1) := by decide +kernel
theorem dX2_tellSeconds_29 : decode cX2_tellSeconds 29 = .ok (.aload_n 0, 1) := by decide +kernel
theorem dX2_tellSeconds_30 : decode cX2_tellSeconds 30 = .ok (.getfield 11, 3) := by decide +kernel
theorem dX2_tellSeconds_33 : decode cX2_tellSeconds 33 = .ok (.iload 4, 2) := by decide +kernel
theorem dX2_tellSeconds_35 : decode cX2_tellSeconds 35 = .ok (.iconst 1, 1) := by decide +kernel
theorem dX2_tellSeconds_36 : decode cX2_tellSeconds 36 = .ok (.iadd, 1) := by decide +kernel
theorem dX2_tellSeconds_37 : decode cX2_tellSeconds 37 = .ok (.iaload, 1) := by decide +kernel
theorem dX2_tellSeconds_38 : decode cX2_tellSeconds 38 = .ok (.invokestatic 66, 3) := by decide +kernel
theorem dX2_tellSeconds_41 : decode cX2_tellSeconds 41 = .ok (.istore 5, 2) := by decide +kernel
theorem dX2_tellSeconds_43 : decode cX2_tellSeconds 43 = .ok (.iload 5, 2) := by decide +kernel
theorem dX2_tellSeconds_45 : decode cX2_tellSeconds 45 = .ok (.aload_n 0, 1) := by decide +kernel
theorem dX2_tellSeconds_46 : decode cX2_tellSeconds 46 = .ok (.getfield 11, 3) := by decide +kernel
theorem dX2_tellSeconds_49 : decode cX2_tellSeconds 49 = .ok (.iload 4, 2) := by decide +kernel
theorem dX2_tellSeconds_51 : decode cX2_tellSeconds 51 = .ok (.iconst 4, 1) := by decide +kernel
theorem dX2_tellSeconds_52 : decode cX2_tellSeconds 52 = .ok (.iadd, 1) := by decide +kernel
theorem dX2_tellSeconds_53 : decode cX2_tellSeconds 53 = .ok (.iaload, 1) := by decide +kernel
theorem dX2_tellSeconds_54 : decode cX2_tellSeconds 54 = .ok (.iload_n 2, 1) := by decide +kernel
theorem dX2_tellSeconds_55 : decode cX2_tellSeconds 55 = .ok (.isub, 1) := by decide +kernel
theorem dX2_tellSeconds_56 : decode cX2_tellSeconds 56 = .ok (.invokestatic 66, 3) := by decide +kernel
theorem dX2_tellSeconds_59 : decode cX2_tellSeconds 59 = .ok (.istore 5, 2) := by decide +kernel
theorem dX2_tellSeconds_61 : decode cX2_tellSeconds 61 = .ok (.iload 5, 2) := by decide +kernel
theorem dX2_tellSeconds_63 : decode cX2_tellSeconds 63 = .ok (.iload_n 2, 1) := by decide +kernel
theorem dX2_tellSeconds_64 : decode cX2_tellSeconds 64 = .ok (.aload_n 0, 1) := by decide +kernel
theorem dX2_tellSeconds_65 : decode cX2_tellSeconds 65 = .ok (.getfield 15, 3) := by decide +kernel
theorem dX2_tellSeconds_68 : decode cX2_tellSeconds 68 = .ok (.iload 4, 2) := by decide +kernel
theorem dX2_tellSeconds_70 : decode cX2_tellSeconds 70 = .ok (.iconst 2, 1) := by decide +kernel
theorem dX2_tellSeconds_71 : decode cX2_tellSeconds 71 = .ok (.iadd, 1) := by decide +kernel
theorem dX2_tellSeconds_72 : decode cX2_tellSeconds 72 = .ok (.iaload, 1) := by decide +kernel
theorem dX2_tellSeconds_73 : decode cX2_tellSeconds 73 = .ok (.isub, 1) := by decide +kernel
theorem dX2_tellSeconds_74 : decode cX2_tellSeconds 74 = .ok (.invokestatic 66, 3) := by decide +kernel
theorem dX2_tellSeconds_77 : decode cX2_tellSeconds 77 = .ok (.istore 5, 2) := by decide +kernel
theorem dX2_tellSeconds_79 : decode cX2_tellSeconds 79 = .ok (.bipush 9, 2) := by decide +kernel
theorem dX2_tellSeconds_81 : decode cX2_tellSeconds 81 = .ok (.aload_n 0, 1) := by decide +kernel
theorem dX2_tellSeconds_82 : decode cX2_tellSeconds 82 = .ok (.getfield 15, 3) := by decide +kernel
theorem dX2_tellSeconds_85 : decode cX2_tellSeconds 85 = .ok (.iload 4, 2) := by decide +kernel
theorem dX2_tellSeconds_87 : decode cX2_tellSeconds 87 = .ok (.iconst 1, 1) := by decide +kernel
theorem dX2_tellSeconds_88 : decode cX2_tellSeconds 88 = .ok (.iadd, 1) := by decide +kernel
theorem dX2_tellSeconds_89 : decode cX2_tellSeconds 89 = .ok (.iaload, 1) := by decide +kernel
theorem dX2_tellSeconds_90 : decode cX2_tellSeconds 90 = .ok (.invokestatic 69, 3) := by decide +kernel
theorem dX2_tellSeconds_93 : decode cX2_tellSeconds 93 = .ok (.istore 6, 2) := by decide +kernel
theorem dX2_tellSeconds_95 : decode cX2_tellSeconds 95 = .ok (.iload 6, 2) := by decide +kernel
theorem dX2_tellSeconds_97 : decode cX2_tellSeconds 97 = .ok (.aload_n 0, 1) := by decide +kernel
theorem dX2_tellSeconds_98 : decode cX2_tellSeconds 98 = .ok (.getfield 15, 3) := by decide +kernel
theorem dX2_tellSeconds_101 : decode cX2_tellSeconds 101 = .ok (.iload 4, 2) := by decide +kernel
theorem dX2_tellSeconds_103 : decode cX2_tellSeconds 103 = .ok (.iconst 4, 1) := by decide +kernel
theorem dX2_tellSeconds_104 : decode cX2_tellSeconds 104 = .ok (.iadd, 1) := by decide +kernel
theorem dX2_tellSeconds_105 : decode cX2_tellSeconds 105 = .ok (.iaload, 1) := by decide +kernel
theorem dX2_tellSeconds_106 : decode cX2_tellSeconds 106 = .ok (.iload_n 2, 1) := by decide +kernel
theorem dX2_tellSeconds_107 : decode cX2_tellSeconds 107 = .ok (.isub, 1) := by decide +kernel
theorem dX2_tellSeconds_108 : decode cX2_tellSeconds 108 = .ok (.invokestatic 69, 3) := by decide +kernel
theorem dX2_tellSeconds_111 : decode cX2_tellSeconds 111 = .ok (.istore 6, 2) := by decide +kernel
theorem dX2_tellSeconds_113 : decode cX2_tellSeconds 113 = .ok (.iload 6, 2) := by decide +kernel
theorem dX2_tellSeconds_115 : decode cX2_tellSeconds 115 = .ok (.iload_n 2, 1) := by decide +kernel
theorem dX2_tellSeconds_116 : decode cX2_tellSeconds 116 = .ok (.aload_n 0, 1) := by decide +kernel
theorem dX2_tellSeconds_117 : decode cX2_tellSeconds 117 = .ok (.getfield 11, 3) := by decide +kernel
theorem dX2_tellSeconds_120 : decode cX2_tellSeconds 120 = .ok (.iload 4, 2) := by decide +kernel
theorem dX2_tellSeconds_122 : decode cX2_tellSeconds 122 = .ok (.iconst 2, 1) := by decide +kernel
theorem dX2_tellSeconds_123 : decode cX2_tellSeconds 123 = .ok (.iadd, 1) := by decide +kernel
theorem dX2_tellSeconds_124 : decode cX2_tellSeconds 124 = .ok (.iaload, 1) := by decide +kernel
theorem dX2_tellSeconds_125 : decode cX2_tellSeconds 125 = .ok (.isub, 1) := by decide +kernel
theorem dX2_tellSeconds_126 : decode cX2_tellSeconds 126 = .ok (.invokestatic 69, 3) := by decide +kernel
theorem dX2_tellSeconds_129 : decode cX2_tellSeconds 129 = .ok (.istore 6, 2) := by decide +kernel
theorem dX2_tellSeconds_131 : decode cX2_tellSeconds 131 = .ok (.iload 5, 2) := by decide +kernel
theorem dX2_tellSeconds_133 : decode cX2_tellSeconds 133 = .ok (.istore 7, 2) := by decide +kernel
theorem dX2_tellSeconds_135 : decode cX2_tellSeconds 135 = .ok (.iload 7, 2) := by decide +kernel
theorem dX2_tellSeconds_137 : decode cX2_tellSeconds 137 = .ok (.iload 6, 2) := by decide +kernel
theorem dX2_tellSeconds_139 : decode cX2_tellSeconds 139 = .ok (.if_icmp .gt 28, 3) := by decide +kernel
theorem dX2_tellSeconds_142 : decode cX2_tellSeconds 142 = .ok (.aload_n 0, 1) := by decide +kernel
theorem dX2_tellSeconds_143 : decode cX2_tellSeconds 143 = .ok (.getfield 21, 3) := by decide +kernel
theorem dX2_tellSeconds_146 : decode cX2_tellSeconds 146 = .ok (.sipush 200, 3) := by decide +kernel
theorem dX2_tellSeconds_149 : decode cX2_tellSeconds 149 = .ok (.if_icmp .ge 18, 3) := by decide +kernel
theorem dX2_tellSeconds_152 : decode cX2_tellSeconds 152 = .ok (.aload_n 0, 1) := by decide +kernel
theorem dX2_tellSeconds_153 : decode cX2_tellSeconds 153 = .ok (.iload_n 1, 1) := by decide +kernel
theorem dX2_tellSeconds_154 : decode cX2_tellSeconds 154 = .ok (.iload_n 2, 1) := by decide +kernel
theorem dX2_tellSeconds_155 : decode cX2_tellSeconds 155 = .ok (.iload_n 3, 1) := by decide +kernel
theorem dX2_tellSeconds_156 : decode cX2_tellSeconds 156 = .ok (.iload 7, 2) := by decide +kernel
theorem dX2_tellSeconds_158 : decode cX2_tellSeconds 158 = .ok (.invokevirtual 33, 3) := by decide +kernel
theorem dX2_tellSeconds_161 : decode cX2_tellSeconds 161 = .ok (.iinc 7 1, 3) := by decide +kernel
theorem dX2_tellSeconds_164 : decode cX2_tellSeconds 164 = .ok (.goto (-29), 3) := by decide +kernel
theorem dX2_tellSeconds_167 : decode cX2_tellSeconds 167 = .ok (.aload_n 0, 1) := by decide +kernel
theorem dX2_tellSeconds_168 : decode cX2_tellSeconds 168 = .ok (.dup, 1) := by decide +kernel
theorem dX2_tellSeconds_169 : decode cX2_tellSeconds 169 = .ok (.getfield 21, 3) := by decide +kernel
theorem dX2_tellSeconds_172 : decode cX2_tellSeconds 172 = .ok (.iconst 0, 1) := by decide +kernel
theorem dX2_tellSeconds_173 : decode cX2_tellSeconds 173 = .ok (.iload 6, 2) := by decide +kernel
theorem dX2_tellSeconds_175 : decode cX2_tellSeconds 175 = .ok (.iload 7, 2) := by decide +kernel
theorem dX2_tellSeconds_177 : decode cX2_tellSeconds 177 = .ok (.isub, 1) := by decide +kernel
theorem dX2_tellSeconds_178 : decode cX2_tellSeconds 178 = .ok (.iconst 1, 1) := by decide +kernel
theorem dX2_tellSeconds_179 : decode cX2_tellSeconds 179 = .ok (.iadd, 1) := by decide +kernel
theorem dX2_tellSeconds_180 : decode cX2_tellSeconds 180 = .ok (.invokestatic 66, 3) := by decide +kernel
theorem dX2_tellSeconds_183 : decode cX2_tellSeconds 183 = .ok (.iadd, 1) := by decide +kernel
theorem dX2_tellSeconds_184 : decode cX2_tellSeconds 184 = .ok (.putfield 21, 3) := by decide +kernel
theorem dX2_tellSeconds_187 : decode cX2_tellSeconds 187 = .ok (.return_, 1) := by decide +kernel
theorem dX2_tell_0 : decode cX2_tell 0 = .ok (.aload_n 0, 1) := by decide +kernel
theorem dX2_tell_1 : decode cX2_tell 1 = .ok (.getfield 21, 3) := by decide +kernel
theorem dX2_tell_4 : decode cX2_tell 4 = .ok (.sipush 200, 3) := by decide +kernel
theorem dX2_tell_7 : decode cX2_tell 7 = .ok (.if_icmp .ge 50, 3) := by decide +kernel
theorem dX2_tell_10 : decode cX2_tell 10 = .ok (.aload_n 0, 1) := by decide +kernel
theorem dX2_tell_11 : decode cX2_tell 11 = .ok (.getfield 21, 3) := by decide +kernel
theorem dX2_tell_14 : decode cX2_tell 14 = .ok (.iconst 4, 1) := by decide +kernel
theorem dX2_tell_15 : decode cX2_tell 15 = .ok (.imul, 1) := by decide +kernel
theorem dX2_tell_16 : decode cX2_tell 16 = .ok (.istore 5, 2) := by decide +kernel
theorem dX2_tell_18 : decode cX2_tell 18 = .ok (.aload_n 0, 1) := by decide +kernel
theorem dX2_tell_19 : decode cX2_tell 19 = .ok (.getfield 18, 3) := by decide +kernel
theorem dX2_tell_22 : decode cX2_tell 22 = .ok (.iload 5, 2) := by decide +kernel
theorem dX2_tell_24 : decode cX2_tell 24 = .ok (.iload_n 1, 1) := by decide +kernel
theorem dX2_tell_25 : decode cX2_tell 25 = .ok (.iastore, 1) := by decide +kernel
theorem dX2_tell_26 : decode cX2_tell 26 = .ok (.aload_n 0, 1) := by decide +kernel
theorem dX2_tell_27 : decode cX2_tell 27 = .ok (.getfield 18, 3) := by decide +kernel
theorem dX2_tell_30 : decode cX2_tell 30 = .ok (.iload 5, 2) := by decide +kernel
theorem dX2_tell_32 : decode cX2_tell 32 = .ok (.iconst 1, 1) := by decide +kernel
theorem dX2_tell_33 : decode cX2_tell 33 = .ok (.iadd, 1) := by decide +kernel
theorem dX2_tell_34 : decode cX2_tell 34 = .ok (.iload_n 2, 1) := by decide +kernel
theorem dX2_tell_35 : decode cX2_tell 35 = .ok (.iastore, 1) := by decide +kernel
theorem dX2_tell_36 : decode cX2_tell 36 = .ok (.aload_n 0, 1) := by decide +kernel
theorem dX2_tell_37 : decode cX2_tell 37 = .ok (.getfield 18, 3) := by decide +kernel
theorem dX2_tell_40 : decode cX2_tell 40 = .ok (.iload 5, 2) := by decide +kernel
theorem dX2_tell_42 : decode cX2_tell 42 = .ok (.iconst 2, 1) := by decide +kernel
theorem dX2_tell_43 : decode cX2_tell 43 = .ok (.iadd, 1) := by decide +kernel
theorem dX2_tell_44 : decode cX2_tell 44 = .ok (.iload_n 3, 1) := by decide +kernel
theorem dX2_tell_45 : decode cX2_tell 45 = .ok (.iastore, 1) := by decide +kernel
theorem dX2_tell_46 : decode cX2_tell 46 = .ok (.aload_n 0, 1) := by decide +kernel
theorem dX2_tell_47 : decode cX2_tell 47 = .ok (.getfield 18, 3) := by decide +kernel
theorem dX2_tell_50 : decode cX2_tell 50 = .ok (.iload 5, 2) := by decide +kernel
theorem dX2_tell_52 : decode cX2_tell 52 = .ok (.iconst 3, 1) := by decide +kernel
theorem dX2_tell_53 : decode cX2_tell 53 = .ok (.iadd, 1) := by decide +kernel
theorem dX2_tell_54 : decode cX2_tell 54 = .ok (.iload 4, 2) := by decide +kernel
theorem dX2_tell_56 : decode cX2_tell 56 = .ok (.iastore, 1) := by decide +kernel
theorem dX2_tell_57 : decode cX2_tell 57 = .ok (.aload_n 0, 1) := by decide +kernel
theorem dX2_tell_58 : decode cX2_tell 58 = .ok (.dup, 1) := by decide +kernel
theorem dX2_tell_59 : decode cX2_tell 59 = .ok (.getfield 21, 3) := by decide +kernel
theorem dX2_tell_62 : decode cX2_tell 62 = .ok (.iconst 1, 1) := by decide +kernel
theorem dX2_tell_63 : decode cX2_tell 63 = .ok (.iadd, 1) := by decide +kernel
theorem dX2_tell_64 : decode cX2_tell 64 = .ok (.putfield 21, 3) := by decide +kernel
theorem dX2_tell_67 : decode cX2_tell 67 = .ok (.return_, 1) := by decide +kernel
theorem dX2_part_0 : decode cX2_part 0 = .ok (.iload_n 1, 1) := by decide +kernel
theorem dX2_part_1 : decode cX2_part 1 = .ok (.ifCond .lt 21, 3) := by decide +kernel
theorem dX2_part_4 : decode cX2_part 4 = .ok (.iload_n 1, 1) := by decide +kernel
theorem dX2_part_5 : decode cX2_part 5 = .ok (.aload_n 0, 1) := by decide +kernel
theorem dX2_part_6 : decode cX2_part 6 = .ok (.getfield 21, 3) := by decide +kernel
theorem dX2_part_9 : decode cX2_part 9 = .ok (.sipush 200, 3) := by decide +kernel
theorem dX2_part_12 : decode cX2_part 12 = .ok (.invokestatic 69, 3) := by decide +kernel
theorem dX2_part_15 : decode cX2_part 15 = .ok (.if_icmp .ge 7, 3) := by decide +kernel
theorem dX2_part_18 : decode cX2_part 18 = .ok (.iconst 1, 1) := by decide +kernel
theorem dX2_part_19 : decode cX2_part 19 = .ok (.goto 4, 3) := by decide +kernel
theorem dX2_part_22 : decode cX2_part 22 = .ok (.iconst 0, 1) := by decide +kernel
theorem dX2_part_23 : decode cX2_part 23 = .ok (.istore_n 3, 1) := by decide +kernel
theorem dX2_part_24 : decode cX2_part 24 = .ok (.iload_n 3, 1) := by decide +kernel
theorem dX2_part_25 : decode cX2_part 25 = .ok (.ifCond .eq 25, 3) := by decide +kernel
theorem dX2_part_28 : decode cX2_part 28 = .ok (.iload_n 2, 1) := by decide +kernel
theorem dX2_part_29 : decode cX2_part 29 = .ok (.ifCond .lt 21, 3) := by decide +kernel
theorem dX2_part_32 : decode cX2_part 32 = .ok (.iload_n 2, 1) := by decide +kernel
theorem dX2_part_33 : decode cX2_part 33 = .ok (.iconst 4, 1) := by decide +kernel
theorem dX2_part_34 : decode cX2_part 34 = .ok (.if_icmp .ge 16, 3) := by decide +kernel
theorem dX2_part_37 : decode cX2_part 37 = .ok (.aload_n 0, 1) := by decide +kernel
theorem dX2_part_38 : decode cX2_part 38 = .ok (.getfield 18, 3) := by decide +kernel
theorem dX2_part_41 : decode cX2_part 41 = .ok (.iload_n 1, 1) := by decide +kernel
theorem dX2_part_42 : decode cX2_part 42 = .ok (.iconst 4, 1) := by decide +kernel
theorem dX2_part_43 : decode cX2_part 43 = .ok (.imul, 1) := by decide +kernel
theorem dX2_part_44 : decode cX2_part 44 = .ok (.iload_n 2, 1) := by decide +kernel
theorem dX2_part_45 : decode cX2_part 45 = .ok (.iadd, 1) := by decide +kernel
theorem dX2_part_46 : decode cX2_part 46 = .ok (.iaload, 1) := by decide +kernel
theorem dX2_part_47 : decode cX2_part 47 = .ok (.goto 4, 3) := by decide +kernel
theorem dX2_part_50 : decode cX2_part 50 = .ok (.iconst (-1), 1) := by decide +kernel
theorem dX2_part_51 : decode cX2_part 51 = .ok (.ireturn, 1) := by decide +kernel
