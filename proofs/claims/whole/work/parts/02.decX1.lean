theorem dX1_init_0 : decode cX1_init 0 = .ok (.aload_n 0, 1) := by decide +kernel
theorem dX1_init_1 : decode cX1_init 1 = .ok (.invokespecial 3, 3) := by decide +kernel
theorem dX1_init_4 : decode cX1_init 4 = .ok (.aload_n 0, 1) := by decide +kernel
theorem dX1_init_5 : decode cX1_init 5 = .ok (.iconst 3, 1) := by decide +kernel
theorem dX1_init_6 : decode cX1_init 6 = .ok (.bipush 60, 2) := by decide +kernel
theorem dX1_init_8 : decode cX1_init 8 = .ok (.multianewarray 9 2, 4) := by decide +kernel
theorem dX1_init_12 : decode cX1_init 12 = .ok (.putfield 11, 3) := by decide +kernel
theorem dX1_init_15 : decode cX1_init 15 = .ok (.aload_n 0, 1) := by decide +kernel
theorem dX1_init_16 : decode cX1_init 16 = .ok (.bipush 60, 2) := by decide +kernel
theorem dX1_init_18 : decode cX1_init 18 = .ok (.newarray .int, 2) := by decide +kernel
theorem dX1_init_20 : decode cX1_init 20 = .ok (.putfield 16, 3) := by decide +kernel
theorem dX1_init_23 : decode cX1_init 23 = .ok (.aload_n 0, 1) := by decide +kernel
theorem dX1_init_24 : decode cX1_init 24 = .ok (.iconst 1, 1) := by decide +kernel
theorem dX1_init_25 : decode cX1_init 25 = .ok (.putfield 20, 3) := by decide +kernel
theorem dX1_init_28 : decode cX1_init 28 = .ok (.return_, 1) := by decide +kernel
theorem dX1_isRow_0 : decode cX1_isRow 0 = .ok (.iload_n 0, 1) := by decide +kernel
theorem dX1_isRow_1 : decode cX1_isRow 1 = .ok (.ifCond .lt 12, 3) := by decide +kernel
theorem dX1_isRow_4 : decode cX1_isRow 4 = .ok (.iload_n 0, 1) := by decide +kernel
theorem dX1_isRow_5 : decode cX1_isRow 5 = .ok (.iconst 2, 1) := by decide +kernel
theorem dX1_isRow_6 : decode cX1_isRow 6 = .ok (.if_icmp .gt 7, 3) := by decide +kernel
theorem dX1_isRow_9 : decode cX1_isRow 9 = .ok (.iconst 1, 1) := by decide +kernel
theorem dX1_isRow_10 : decode cX1_isRow 10 = .ok (.goto 4, 3) := by decide +kernel
theorem dX1_isRow_13 : decode cX1_isRow 13 = .ok (.iconst 0, 1) := by decide +kernel
theorem dX1_isRow_14 : decode cX1_isRow 14 = .ok (.ireturn, 1) := by decide +kernel
theorem dX1_fits_0 : decode cX1_fits 0 = .ok (.iload_n 1, 1) := by decide +kernel
theorem dX1_fits_1 : decode cX1_fits 1 = .ok (.getstatic 24, 3) := by decide +kernel
theorem dX1_fits_4 : decode cX1_fits 4 = .ok (.iload_n 0, 1) := by decide +kernel
theorem dX1_fits_5 : decode cX1_fits 5 = .ok (.iaload, 1) := by decide +kernel
theorem dX1_fits_6 : decode cX1_fits 6 = .ok (.ineg, 1) := by decide +kernel
theorem dX1_fits_7 : decode cX1_fits 7 = .ok (.if_icmp .lt 16, 3) := by decide +kernel
theorem dX1_fits_10 : decode cX1_fits 10 = .ok (.iload_n 1, 1) := by decide +kernel
theorem dX1_fits_11 : decode cX1_fits 11 = .ok (.getstatic 24, 3) := by decide +kernel
theorem dX1_fits_14 : decode cX1_fits 14 = .ok (.iload_n 0, 1) := by decide +kernel
theorem dX1_fits_15 : decode cX1_fits 15 = .ok (.iaload, 1) := by decide +kernel
theorem dX1_fits_16 : decode cX1_fits 16 = .ok (.if_icmp .gt 7, 3) := by decide +kernel
theorem dX1_fits_19 : decode cX1_fits 19 = .ok (.iconst 1, 1) := by decide +kernel
theorem dX1_fits_20 : decode cX1_fits 20 = .ok (.goto 4, 3) := by decide +kernel
theorem dX1_fits_23 : decode cX1_fits 23 = .ok (.iconst 0, 1) := by decide +kernel
theorem dX1_fits_24 : decode cX1_fits 24 = .ok (.ireturn, 1) := by decide +kernel
theorem dX1_start_0 : decode cX1_start 0 = .ok (.aload_n 0, 1) := by decide +kernel
theorem dX1_start_1 : decode cX1_start 1 = .ok (.iload_n 1, 1) := by decide +kernel
theorem dX1_start_2 : decode cX1_start 2 = .ok (.putfield 20, 3) := by decide +kernel
theorem dX1_start_5 : decode cX1_start 5 = .ok (.iconst 0, 1) := by decide +kernel
theorem dX1_start_6 : decode cX1_start 6 = .ok (.istore_n 2, 1) := by decide +kernel
theorem dX1_start_7 : decode cX1_start 7 = .ok (.iload_n 2, 1) := by decide +kernel
theorem dX1_start_8 : decode cX1_start 8 = .ok (.iconst 2, 1) := by decide +kernel
theorem dX1_start_9 : decode cX1_start 9 = .ok (.if_icmp .gt 19, 3) := by decide +kernel
theorem dX1_start_12 : decode cX1_start 12 = .ok (.aload_n 0, 1) := by decide +kernel
theorem dX1_start_13 : decode cX1_start 13 = .ok (.getfield 11, 3) := by decide +kernel
theorem dX1_start_16 : decode cX1_start 16 = .ok (.iload_n 2, 1) := by decide +kernel
theorem dX1_start_17 : decode cX1_start 17 = .ok (.aaload, 1) := by decide +kernel
theorem dX1_start_18 : decode cX1_start 18 = .ok (.iconst 0, 1) := by decide +kernel
theorem dX1_start_19 : decode cX1_start 19 = .ok (.invokestatic 27, 3) := by decide +kernel
theorem dX1_start_22 : decode cX1_start 22 = .ok (.iinc 2 1, 3) := by decide +kernel
theorem dX1_start_25 : decode cX1_start 25 = .ok (.goto (-18), 3) := by decide +kernel
theorem dX1_start_28 : decode cX1_start 28 = .ok (.return_, 1) := by decide +kernel
theorem dX1_has_0 : decode cX1_has 0 = .ok (.iload_n 1, 1) := by decide +kernel
theorem dX1_has_1 : decode cX1_has 1 = .ok (.ifCond .lt 15, 3) := by decide +kernel
theorem dX1_has_4 : decode cX1_has 4 = .ok (.iload_n 1, 1) := by decide +kernel
theorem dX1_has_5 : decode cX1_has 5 = .ok (.aload_n 0, 1) := by decide +kernel
theorem dX1_has_6 : decode cX1_has 6 = .ok (.getfield 20, 3) := by decide +kernel
theorem dX1_has_9 : decode cX1_has 9 = .ok (.if_icmp .ge 7, 3) := by decide +kernel
theorem dX1_has_12 : decode cX1_has 12 = .ok (.iconst 1, 1) := by decide +kernel
theorem dX1_has_13 : decode cX1_has 13 = .ok (.goto 4, 3) := by decide +kernel
theorem dX1_has_16 : decode cX1_has 16 = .ok (.iconst 0, 1) := by decide +kernel
theorem dX1_has_17 : decode cX1_has 17 = .ok (.ireturn, 1) := by decide +kernel
theorem dX1_get_0 : decode cX1_get 0 = .ok (.aload_n 0, 1) := by decide +kernel
theorem dX1_get_1 : decode cX1_get 1 = .ok (.getfield 11, 3) := by decide +kernel
theorem dX1_get_4 : decode cX1_get 4 = .ok (.iload_n 1, 1) := by decide +kernel
theorem dX1_get_5 : decode cX1_get 5 = .ok (.aaload, 1) := by decide +kernel
theorem dX1_get_6 : decode cX1_get 6 = .ok (.iload_n 2, 1) := by decide +kernel
theorem dX1_get_7 : decode cX1_get 7 = .ok (.iaload, 1) := by decide +kernel
theorem dX1_get_8 : decode cX1_get 8 = .ok (.ireturn, 1) := by decide +kernel
theorem dX1_put_0 : decode cX1_put 0 = .ok (.aload_n 0, 1) := by decide +kernel
theorem dX1_put_1 : decode cX1_put 1 = .ok (.getfield 11, 3) := by decide +kernel
theorem dX1_put_4 : decode cX1_put 4 = .ok (.iload_n 1, 1) := by decide +kernel
theorem dX1_put_5 : decode cX1_put 5 = .ok (.aaload, 1) := by decide +kernel
theorem dX1_put_6 : decode cX1_put 6 = .ok (.iload_n 2, 1) := by decide +kernel
theorem dX1_put_7 : decode cX1_put 7 = .ok (.iload_n 3, 1) := by decide +kernel
theorem dX1_put_8 : decode cX1_put 8 = .ok (.iastore, 1) := by decide +kernel
theorem dX1_put_9 : decode cX1_put 9 = .ok (.return_, 1) := by decide +kernel
theorem dX1_wrap_0 : decode cX1_wrap 0 = .ok (.iload_n 1, 1) := by decide +kernel
theorem dX1_wrap_1 : decode cX1_wrap 1 = .ok (.ifCond .ge 12, 3) := by decide +kernel
theorem dX1_wrap_4 : decode cX1_wrap 4 = .ok (.iload_n 1, 1) := by decide +kernel
theorem dX1_wrap_5 : decode cX1_wrap 5 = .ok (.aload_n 0, 1) := by decide +kernel
theorem dX1_wrap_6 : decode cX1_wrap 6 = .ok (.getfield 20, 3) := by decide +kernel
theorem dX1_wrap_9 : decode cX1_wrap 9 = .ok (.iadd, 1) := by decide +kernel
theorem dX1_wrap_10 : decode cX1_wrap 10 = .ok (.goto 21, 3) := by decide +kernel
theorem dX1_wrap_13 : decode cX1_wrap 13 = .ok (.iload_n 1, 1) := by decide +kernel
theorem dX1_wrap_14 : decode cX1_wrap 14 = .ok (.aload_n 0, 1) := by decide +kernel
theorem dX1_wrap_15 : decode cX1_wrap 15 = .ok (.getfield 20, 3) := by decide +kernel
theorem dX1_wrap_18 : decode cX1_wrap 18 = .ok (.if_icmp .lt 12, 3) := by decide +kernel
theorem dX1_wrap_21 : decode cX1_wrap 21 = .ok (.iload_n 1, 1) := by decide +kernel
theorem dX1_wrap_22 : decode cX1_wrap 22 = .ok (.aload_n 0, 1) := by decide +kernel
theorem dX1_wrap_23 : decode cX1_wrap 23 = .ok (.getfield 20, 3) := by decide +kernel
theorem dX1_wrap_26 : decode cX1_wrap 26 = .ok (.isub, 1) := by decide +kernel
theorem dX1_wrap_27 : decode cX1_wrap 27 = .ok (.goto 4, 3) := by decide +kernel
theorem dX1_wrap_30 : decode cX1_wrap 30 = .ok (.iload_n 1, 1) := by decide +kernel
theorem dX1_wrap_31 : decode cX1_wrap 31 = .ok (.ireturn, 1) := by decide +kernel
theorem dX1_tally_0 : decode cX1_tally 0 = .ok (.iconst 0, 1) := by decide +kernel
theorem dX1_tally_1 : decode cX1_tally 1 = .ok (.istore_n 3, 1) := by decide +kernel
theorem dX1_tally_2 : decode cX1_tally 2 = .ok (.iconst 0, 1) := by decide +kernel
theorem dX1_tally_3 : decode cX1_tally 3 = .ok (.istore 4, 2) := by decide +kernel
theorem dX1_tally_5 : decode cX1_tally 5 = .ok (.iload 4, 2) := by decide +kernel
theorem dX1_tally_7 : decode cX1_tally 7 = .ok (.aload_n 0, 1) := by decide +kernel
theorem dX1_tally_8 : decode cX1_tally 8 = .ok (.getfield 20, 3) := by decide +kernel
theorem dX1_tally_11 : decode cX1_tally 11 = .ok (.if_icmp .ge 25, 3) := by decide +kernel
theorem dX1_tally_14 : decode cX1_tally 14 = .ok (.aload_n 0, 1) := by decide +kernel
theorem dX1_tally_15 : decode cX1_tally 15 = .ok (.getfield 11, 3) := by decide +kernel
theorem dX1_tally_18 : decode cX1_tally 18 = .ok (.iload_n 1, 1) := by decide +kernel
theorem dX1_tally_19 : decode cX1_tally 19 = .ok (.aaload, 1) := by decide +kernel
theorem dX1_tally_20 : decode cX1_tally 20 = .ok (.iload 4, 2) := by decide +kernel
theorem dX1_tally_22 : decode cX1_tally 22 = .ok (.iaload, 1) := by decide +kernel
theorem dX1_tally_23 : decode cX1_tally 23 = .ok (.iload_n 2, 1) := by decide +kernel
theorem dX1_tally_24 : decode cX1_tally 24 = .ok (.if_icmp .ne 6, 3) := by decide +kernel
theorem dX1_tally_27 : decode cX1_tally 27 = .ok (.iinc 3 1, 3) := by decide +kernel
theorem dX1_tally_30 : decode cX1_tally 30 = .ok (.iinc 4 1, 3) := by decide +kernel
theorem dX1_tally_33 : decode cX1_tally 33 = .ok (.goto (-28), 3) := by decide +kernel
theorem dX1_tally_36 : decode cX1_tally 36 = .ok (.iload_n 3, 1) := by decide +kernel
theorem dX1_tally_37 : decode cX1_tally 37 = .ok (.ireturn, 1) := by decide +kernel
theorem dX1_share_0 : decode cX1_share 0 = .ok (.aload_n 0, 1) := by decide +kernel
theorem dX1_share_1 : decode cX1_share 1 = .ok (.getfield 11, 3) := by decide +kernel
theorem dX1_share_4 : decode cX1_share 4 = .ok (.iconst 0, 1) := by decide +kernel
theorem dX1_share_5 : decode cX1_share 5 = .ok (.aaload, 1) := by decide +kernel
theorem dX1_share_6 : decode cX1_share 6 = .ok (.aload_n 0, 1) := by decide +kernel
theorem dX1_share_7 : decode cX1_share 7 = .ok (.iload_n 1, 1) := by decide +kernel
theorem dX1_share_8 : decode cX1_share 8 = .ok (.iload_n 2, 1) := by decide +kernel
theorem dX1_share_9 : decode cX1_share 9 = .ok (.isub, 1) := by decide +kernel
theorem dX1_share_10 : decode cX1_share 10 = .ok (.invokevirtual 33, 3) := by decide +kernel
theorem dX1_share_13 : decode cX1_share 13 = .ok (.iaload, 1) := by decide +kernel
theorem dX1_share_14 : decode cX1_share 14 = .ok (.ireturn, 1) := by decide +kernel
theorem dX1_shadowAt_0 : decode cX1_shadowAt 0 = .ok (.aload_n 0, 1) := by decide +kernel
theorem dX1_shadowAt_1 : decode cX1_shadowAt 1 = .ok (.aload_n 0, 1) := by decide +kernel
theorem dX1_shadowAt_2 : decode cX1_shadowAt 2 = .ok (.getfield 11, 3) := by decide +kernel
theorem dX1_shadowAt_5 : decode cX1_shadowAt 5 = .ok (.iconst 1, 1) := by decide +kernel
theorem dX1_shadowAt_6 : decode cX1_shadowAt 6 = .ok (.aaload, 1) := by decide +kernel
theorem dX1_shadowAt_7 : decode cX1_shadowAt 7 = .ok (.iload_n 1, 1) := by decide +kernel
theorem dX1_shadowAt_8 : decode cX1_shadowAt 8 = .ok (.invokevirtual 37, 3) := by decide +kernel
theorem dX1_shadowAt_11 : decode cX1_shadowAt 11 = .ok (.ireturn, 1) := by decide +kernel
theorem dX1_meetsAt_0 : decode cX1_meetsAt 0 = .ok (.aload_n 0, 1) := by decide +kernel
theorem dX1_meetsAt_1 : decode cX1_meetsAt 1 = .ok (.aload_n 0, 1) := by decide +kernel
theorem dX1_meetsAt_2 : decode cX1_meetsAt 2 = .ok (.getfield 11, 3) := by decide +kernel
theorem dX1_meetsAt_5 : decode cX1_meetsAt 5 = .ok (.iconst 0, 1) := by decide +kernel
theorem dX1_meetsAt_6 : decode cX1_meetsAt 6 = .ok (.aaload, 1) := by decide +kernel
theorem dX1_meetsAt_7 : decode cX1_meetsAt 7 = .ok (.iload_n 1, 1) := by decide +kernel
theorem dX1_meetsAt_8 : decode cX1_meetsAt 8 = .ok (.invokevirtual 37, 3) := by decide +kernel
theorem dX1_meetsAt_11 : decode cX1_meetsAt 11 = .ok (.ireturn, 1) := by decide +kernel
theorem dX1_throughMask_0 : decode cX1_throughMask 0 = .ok (.iconst 0, 1) := by decide +kernel
theorem dX1_throughMask_1 : decode cX1_throughMask 1 = .ok (.istore_n 3, 1) := by decide +kernel
theorem dX1_throughMask_2 : decode cX1_throughMask 2 = .ok (.iconst 0, 1) := by decide +kernel
theorem dX1_throughMask_3 : decode cX1_throughMask 3 = .ok (.istore 4, 2) := by decide +kernel
theorem dX1_throughMask_5 : decode cX1_throughMask 5 = .ok (.iload 4, 2) := by decide +kernel
theorem dX1_throughMask_7 : decode cX1_throughMask 7 = .ok (.aload_n 0, 1) := by decide +kernel
theorem dX1_throughMask_8 : decode cX1_throughMask 8 = .ok (.getfield 20, 3) := by decide +kernel
theorem dX1_throughMask_11 : decode cX1_throughMask 11 = .ok (.if_icmp .ge 32, 3) := by decide +kernel
theorem dX1_throughMask_14 : decode cX1_throughMask 14 = .ok (.iload_n 3, 1) := by decide +kernel
theorem dX1_throughMask_15 : decode cX1_throughMask 15 = .ok (.aload_n 0, 1) := by decide +kernel
theorem dX1_throughMask_16 : decode cX1_throughMask 16 = .ok (.getfield 11, 3) := by decide +kernel
theorem dX1_throughMask_19 : decode cX1_throughMask 19 = .ok (.iconst 0, 1) := by decide +kernel
theorem dX1_throughMask_20 : decode cX1_throughMask 20 = .ok (.aaload, 1) := by decide +kernel
theorem dX1_throughMask_21 : decode cX1_throughMask 21 = .ok (.iload 4, 2) := by decide +kernel
theorem dX1_throughMask_23 : decode cX1_throughMask 23 = .ok (.iaload, 1) := by decide +kernel
theorem dX1_throughMask_24 : decode cX1_throughMask 24 = .ok (.aload_n 1, 1) := by decide +kernel
theorem dX1_throughMask_25 : decode cX1_throughMask 25 = .ok (.aload_n 0, 1) := by decide +kernel
theorem dX1_throughMask_26 : decode cX1_throughMask 26 = .ok (.iload_n 2, 1) := by decide +kernel
theorem dX1_throughMask_27 : decode cX1_throughMask 27 = .ok (.iload 4, 2) := by decide +kernel
theorem dX1_throughMask_29 : decode cX1_throughMask 29 = .ok (.iadd, 1) := by decide +kernel
theorem dX1_throughMask_30 : decode cX1_throughMask 30 = .ok (.invokevirtual 33, 3) := by decide +kernel
theorem dX1_throughMask_33 : decode cX1_throughMask 33 = .ok (.iaload, 1) := by decide +kernel
theorem dX1_throughMask_34 : decode cX1_throughMask 34 = .ok (.imul, 1) := by decide +kernel
theorem dX1_throughMask_35 : decode cX1_throughMask 35 = .ok (.iadd, 1) := by decide +kernel
theorem dX1_throughMask_36 : decode cX1_throughMask 36 = .ok (.istore_n 3, 1) := by decide +kernel
theorem dX1_throughMask_37 : decode cX1_throughMask 37 = .ok (.iinc 4 1, 3) := by decide +kernel
theorem dX1_throughMask_40 : decode cX1_throughMask 40 = .ok (.goto (-35), 3) := by decide +kernel
theorem dX1_throughMask_43 : decode cX1_throughMask 43 = .ok (.iload_n 3, 1) := by decide +kernel
theorem dX1_throughMask_44 : decode cX1_throughMask 44 = .ok (.ireturn, 1) := by decide +kernel
theorem dX1_firstOff_0 : decode cX1_firstOff 0 = .ok (.iconst 2, 1) := by decide +kernel
theorem dX1_firstOff_1 : decode cX1_firstOff 1 = .ok (.istore_n 1, 1) := by decide +kernel
theorem dX1_firstOff_2 : decode cX1_firstOff 2 = .ok (.iload_n 1, 1) := by decide +kernel
theorem dX1_firstOff_3 : decode cX1_firstOff 3 = .ok (.aload_n 0, 1) := by decide +kernel
theorem dX1_firstOff_4 : decode cX1_firstOff 4 = .ok (.getfield 20, 3) := by decide +kernel
theorem dX1_firstOff_7 : decode cX1_firstOff 7 = .ok (.if_icmp .ge 24, 3) := by decide +kernel
theorem dX1_firstOff_10 : decode cX1_firstOff 10 = .ok (.aload_n 0, 1) := by decide +kernel
theorem dX1_firstOff_11 : decode cX1_firstOff 11 = .ok (.iload_n 1, 1) := by decide +kernel
theorem dX1_firstOff_12 : decode cX1_firstOff 12 = .ok (.invokevirtual 41, 3) := by decide +kernel
theorem dX1_firstOff_15 : decode cX1_firstOff 15 = .ok (.aload_n 0, 1) := by decide +kernel
theorem dX1_firstOff_16 : decode cX1_firstOff 16 = .ok (.iconst 1, 1) := by decide +kernel
theorem dX1_firstOff_17 : decode cX1_firstOff 17 = .ok (.invokevirtual 41, 3) := by decide +kernel
theorem dX1_firstOff_20 : decode cX1_firstOff 20 = .ok (.if_icmp .eq 5, 3) := by decide +kernel
theorem dX1_firstOff_23 : decode cX1_firstOff 23 = .ok (.iload_n 1, 1) := by decide +kernel
theorem dX1_firstOff_24 : decode cX1_firstOff 24 = .ok (.ireturn, 1) := by decide +kernel
theorem dX1_firstOff_25 : decode cX1_firstOff 25 = .ok (.iinc 1 1, 3) := by decide +kernel
theorem dX1_firstOff_28 : decode cX1_firstOff 28 = .ok (.goto (-26), 3) := by decide +kernel
theorem dX1_firstOff_31 : decode cX1_firstOff 31 = .ok (.iconst (-1), 1) := by decide +kernel
theorem dX1_firstOff_32 : decode cX1_firstOff 32 = .ok (.ireturn, 1) := by decide +kernel
theorem dX1_turnMask_0 : decode cX1_turnMask 0 = .ok (.aload_n 0, 1) := by decide +kernel
theorem dX1_turnMask_1 : decode cX1_turnMask 1 = .ok (.getfield 20, 3) := by decide +kernel
theorem dX1_turnMask_4 : decode cX1_turnMask 4 = .ok (.iconst 1, 1) := by decide +kernel
theorem dX1_turnMask_5 : decode cX1_turnMask 5 = .ok (.if_icmp .ge 7, 3) := by decide +kernel
theorem dX1_turnMask_8 : decode cX1_turnMask 8 = .ok (.iconst 0, 1) := by decide +kernel
theorem dX1_turnMask_9 : decode cX1_turnMask 9 = .ok (.goto 11, 3) := by decide +kernel
theorem dX1_turnMask_12 : decode cX1_turnMask 12 = .ok (.iload_n 1, 1) := by decide +kernel
theorem dX1_turnMask_13 : decode cX1_turnMask 13 = .ok (.aload_n 0, 1) := by decide +kernel
theorem dX1_turnMask_14 : decode cX1_turnMask 14 = .ok (.getfield 20, 3) := by decide +kernel
theorem dX1_turnMask_17 : decode cX1_turnMask 17 = .ok (.invokestatic 44, 3) := by decide +kernel
theorem dX1_turnMask_20 : decode cX1_turnMask 20 = .ok (.istore_n 2, 1) := by decide +kernel
theorem dX1_turnMask_21 : decode cX1_turnMask 21 = .ok (.iconst 0, 1) := by decide +kernel
theorem dX1_turnMask_22 : decode cX1_turnMask 22 = .ok (.istore_n 3, 1) := by decide +kernel
theorem dX1_turnMask_23 : decode cX1_turnMask 23 = .ok (.iload_n 3, 1) := by decide +kernel
theorem dX1_turnMask_24 : decode cX1_turnMask 24 = .ok (.aload_n 0, 1) := by decide +kernel
theorem dX1_turnMask_25 : decode cX1_turnMask 25 = .ok (.getfield 20, 3) := by decide +kernel
theorem dX1_turnMask_28 : decode cX1_turnMask 28 = .ok (.if_icmp .ge 29, 3) := by decide +kernel
theorem dX1_turnMask_31 : decode cX1_turnMask 31 = .ok (.aload_n 0, 1) := by decide +kernel
theorem dX1_turnMask_32 : decode cX1_turnMask 32 = .ok (.getfield 16, 3) := by decide +kernel
theorem dX1_turnMask_35 : decode cX1_turnMask 35 = .ok (.iload_n 3, 1) := by decide +kernel
theorem dX1_turnMask_36 : decode cX1_turnMask 36 = .ok (.aload_n 0, 1) := by decide +kernel
theorem dX1_turnMask_37 : decode cX1_turnMask 37 = .ok (.getfield 11, 3) := by decide +kernel
theorem dX1_turnMask_40 : decode cX1_turnMask 40 = .ok (.iconst 0, 1) := by decide +kernel
theorem dX1_turnMask_41 : decode cX1_turnMask 41 = .ok (.aaload, 1) := by decide +kernel
theorem dX1_turnMask_42 : decode cX1_turnMask 42 = .ok (.aload_n 0, 1) := by decide +kernel
theorem dX1_turnMask_43 : decode cX1_turnMask 43 = .ok (.iload_n 3, 1) := by decide +kernel
theorem dX1_turnMask_44 : decode cX1_turnMask 44 = .ok (.iload_n 2, 1) := by decide +kernel
theorem dX1_turnMask_45 : decode cX1_turnMask 45 = .ok (.iadd, 1) := by decide +kernel
theorem dX1_turnMask_46 : decode cX1_turnMask 46 = .ok (.invokevirtual 33, 3) := by decide +kernel
theorem dX1_turnMask_49 : decode cX1_turnMask 49 = .ok (.iaload, 1) := by decide +kernel
theorem dX1_turnMask_50 : decode cX1_turnMask 50 = .ok (.iastore, 1) := by decide +kernel
theorem dX1_turnMask_51 : decode cX1_turnMask 51 = .ok (.iinc 3 1, 3) := by decide +kernel
theorem dX1_turnMask_54 : decode cX1_turnMask 54 = .ok (.goto (-31), 3) := by decide +kernel
theorem dX1_turnMask_57 : decode cX1_turnMask 57 = .ok (.aload_n 0, 1) := by decide +kernel
theorem dX1_turnMask_58 : decode cX1_turnMask 58 = .ok (.getfield 16, 3) := by decide +kernel
theorem dX1_turnMask_61 : decode cX1_turnMask 61 = .ok (.iconst 0, 1) := by decide +kernel
theorem dX1_turnMask_62 : decode cX1_turnMask 62 = .ok (.aload_n 0, 1) := by decide +kernel
theorem dX1_turnMask_63 : decode cX1_turnMask 63 = .ok (.getfield 11, 3) := by decide +kernel
theorem dX1_turnMask_66 : decode cX1_turnMask 66 = .ok (.iconst 0, 1) := by decide +kernel
theorem dX1_turnMask_67 : decode cX1_turnMask 67 = .ok (.aaload, 1) := by decide +kernel
theorem dX1_turnMask_68 : decode cX1_turnMask 68 = .ok (.iconst 0, 1) := by decide +kernel
theorem dX1_turnMask_69 : decode cX1_turnMask 69 = .ok (.aload_n 0, 1) := by decide +kernel
theorem dX1_turnMask_70 : decode cX1_turnMask 70 = .ok (.getfield 20, 3) := by decide +kernel
theorem dX1_turnMask_73 : decode cX1_turnMask 73 = .ok (.invokestatic 50, 3) := by decide +kernel
theorem dX1_turnMask_76 : decode cX1_turnMask 76 = .ok (.return_, 1) := by decide +kernel
